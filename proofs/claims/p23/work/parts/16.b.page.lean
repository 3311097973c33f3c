def b2n (b : Bool) : Nat := if b then 1 else 0
theorem b2n_i (b : Bool) : nI (b2n b) = b2i b := by cases b <;> rfl
/-- the page after L has been laid on it -/
def pgS (A : ST) (L : List Nat) : ST := fun f k => if f = 30 then (bld true L).getD k (A 30 k) else if f = 31 then (if k = 0 then L.length else A 31 k) else if f = 32 then (if k = 0 then b2n (opn true L) else A 32 k) else A f k
theorem pgS_o {A : ST} {L : List Nat} {f k : Nat} (h : f < 30) : pgS A L f k = A f k := by unfold pgS; rw [if_neg (by omega), if_neg (by omega), if_neg (by omega)]
theorem pgS_lay {A : ST} {L : List Nat} {x : Nat} : setA (setA (setA (pgS A L) 30 L.length (capN (opn true L) x)) 31 0 (L.length + 1)) 32 0 (b2n (nxo (opn true L) x)) = pgS A (L ++ [x]) := by
  funext f k
  by_cases h2 : f = 32
  · rw [h2]
    by_cases hk : k = 0
    · rw [hk, setA_s]; show _ = b2n (opn true (L ++ [x])); rw [opn_one]
    · rw [setA_n hk, setA_f (by decide), setA_f (by decide)]; unfold pgS
      rw [if_neg (by decide), if_neg (by decide), if_pos rfl, if_neg hk, if_neg (by decide), if_neg (by decide), if_pos rfl, if_neg hk]
  · rw [setA_f h2]
    by_cases h1 : f = 31
    · rw [h1]
      by_cases hk : k = 0
      · rw [hk, setA_s]; show _ = (L ++ [x]).length; rw [List.length_append]; rfl
      · rw [setA_n hk, setA_f (by decide)]; unfold pgS
        rw [if_neg (by decide), if_pos rfl, if_neg hk, if_neg (by decide), if_pos rfl, if_neg hk]
    · rw [setA_f h1]
      by_cases h0 : f = 30
      · rw [h0]
        show _ = (bld true (L ++ [x])).getD k (A 30 k)
        rw [bld_one]
        by_cases hk : k = L.length
        · rw [hk, setA_s, getD_app_r (by rw [bld_len]; omega), bld_len, Nat.sub_self]; rfl
        · rw [setA_n hk]
          show (bld true L).getD k (A 30 k) = _
          by_cases hq : k < L.length
          · rw [getD_app_l (by rw [bld_len]; exact hq)]
          · rw [getD_big (by rw [bld_len]; omega), getD_big (by rw [List.length_append, bld_len]; show L.length + 1 ≤ k; omega)]
      · rw [setA_f h0]; unfold pgS
        rw [if_neg h0, if_neg h1, if_neg h2, if_neg h0, if_neg h1, if_neg h2]
theorem pgS_start {A : ST} : setA (setA A 31 0 0) 32 0 1 = pgS A [] := by
  funext f k
  by_cases h2 : f = 32
  · rw [h2]
    by_cases hk : k = 0
    · rw [hk, setA_s]; rfl
    · rw [setA_n hk, setA_f (by decide)]; unfold pgS
      rw [if_neg (by decide), if_neg (by decide), if_pos rfl, if_neg hk]
  · rw [setA_f h2]
    by_cases h1 : f = 31
    · rw [h1]
      by_cases hk : k = 0
      · rw [hk, setA_s]; rfl
      · rw [setA_n hk]; unfold pgS
        rw [if_neg (by decide), if_pos rfl, if_neg hk]
    · rw [setA_f h1]; unfold pgS
      by_cases h0 : f = 30
      · rw [h0, if_pos rfl]; rfl
      · rw [if_neg h0, if_neg h1, if_neg h2]
theorem Inv.congr {A A' : ST} (e : ∀ f, f < 22 → A' f = A f) (h : Inv A) : Inv A' := by
  unfold Inv at h ⊢
  rw [e 0 (by decide), e 1 (by decide), e 2 (by decide), e 3 (by decide), e 4 (by decide), e 5 (by decide), e 6 (by decide), e 7 (by decide), e 8 (by decide), e 9 (by decide), e 10 (by decide), e 11 (by decide), e 12 (by decide), e 13 (by decide), e 14 (by decide), e 15 (by decide), e 16 (by decide), e 17 (by decide), e 18 (by decide), e 19 (by decide), e 20 (by decide), e 21 (by decide)]
  exact h
theorem pgS_f {A : ST} {L : List Nat} {f : Nat} (h : f < 22) : pgS A L f = A f := by funext k; exact pgS_o (by omega)
theorem Inv.pg {A : ST} (h : Inv A) (L : List Nat) : Inv (pgS A L) := h.congr (fun f hf => pgS_f hf)
theorem pgS_Pag {A : ST} {L : List Nat} (hP : Pag A) (h1 : L.length ≤ 1014) (h2 : ∀ x ∈ L, rawS x) : Pag (pgS A L) := by
  refine ⟨h1, fun k => ?_⟩
  show (bld true L).getD k (A 30 k) < 65536
  exact getD_lt (bld_lt L true (fun x hx => rawS_lt (h2 x hx))) (hP.2 k)
/-- signs and their numbers -/
theorem sm_n {x : Nat} (h : x < 65536) : s_X8_isSmall (nI x) = b2i (smn x) := by
  unfold s_X8_isSmall smn
  by_cases h1 : x < 97
  · rw [if_pos (show nI x < 97 from (nI_ltI (b := 97) (by omega) (by decide)).mpr h1), decide_eq_false (by omega)]; rfl
  · rw [if_neg (show ¬ nI x < 97 from fun q => h1 ((nI_ltI (b := 97) (by omega) (by decide)).mp q))]
    by_cases h2 : 122 < x
    · rw [if_pos (show 122 < nI x from (nI_ltI (a := 122) (by decide) (by omega)).mpr h2), decide_eq_false (by omega)]; rfl
    · rw [if_neg (show ¬ 122 < nI x from fun q => h2 ((nI_ltI (a := 122) (by decide) (by omega)).mp q)), decide_eq_true (by omega)]; rfl
theorem cap_n {x : Nat} (h : x < 65536) (o : Bool) : cap (b2i o) (nI x) = nI (capN o x) := by
  unfold cap capN
  cases o with
  | false => rw [if_pos b2i_f]; rfl
  | true =>
    rw [if_neg (by decide)]
    unfold s_X8_capital
    rw [sm_n h]
    cases hs : smn x with
    | false => rw [if_pos b2i_f]; rfl
    | true =>
      rw [if_neg (by decide)]
      have h1 : 97 ≤ x ∧ x ≤ 122 := of_decide_eq_true hs
      have h2 : (nI x - 97) + 65 = nI (x - 32) := by
        have e1 : nI x - 97 = nI (x - 97) := pk_sub h1.1
        rw [e1]
        have e2 : nI (x - 97) + 65 = nI (x - 97 + 65) := nI_add _ 65
        rw [e2, show x - 97 + 65 = x - 32 by omega]
      rw [h2]
      have h3 : isC (nI (x - 32)) := isC_nI (by omega)
      exact Value.int.inj h3
theorem ope_n {x : Nat} (h : x < 65536) (o : Bool) : s_X8_isOpenBehind (nI x) (b2i o) = b2i (nxo o x) := by
  unfold s_X8_isOpenBehind nxo
  by_cases h1 : x = 46
  · rw [if_pos (by rw [h1]; rfl), decide_eq_true h1]; rfl
  · rw [if_neg (show ¬ nI x = 46 from fun q => h1 (ni_eq (b := 46) (by omega) (by decide) q)), decide_eq_false h1, sm_n h]
    cases o with
    | false => rfl
    | true =>
      rw [if_neg (by decide)]
      cases hs : smn x <;> rfl
theorem cse_n {x : Nat} (h : x = 110 ∨ x = 103 ∨ x = 100 ∨ x = 97) : s_X8_caseOf (nI x) = nI (cseN x) := by
  rcases h with h | h | h | h <;> rw [h] <;> decide
theorem nmb_n {x : Nat} (h : x = 115 ∨ x = 112) : s_X8_numberOf (nI x) = nI (nmbN x) := by
  rcases h with h | h <;> rw [h] <;> decide
theorem slo_n {x : Nat} (h : 48 ≤ x ∧ x ≤ 52) : s_X8_slotOf (nI x) = nI (x - 48) := by
  have h2 : x = 48 ∨ x = 49 ∨ x = 50 ∨ x = 51 ∨ x = 52 := by omega
  rcases h2 with h | h | h | h | h <;> rw [h] <;> decide
theorem take_one {M : List Nat} {p z : Nat} (h : p < M.length) : M.take p ++ [M.getD p z] = M.take (p + 1) := by
  rw [List.take_succ, List.getD_eq_getElem?_getD, List.getElem?_eq_getElem h]; rfl
/-! the steps of a text -/
section TS
variable {A : ST}
theorem txL_end {t e g i : Nat} (h : A 12 t ≤ i) : txL A t e g 60 i = [] := by
  show (if A 12 t ≤ i then [] else _) = []
  rw [if_pos h]
theorem txL_slot (hI : Inv A) {t e g i : Nat} (ht : t < 30) (h : i < A 12 t) (h1 : txs A t i = 91) : txL A t e g 60 i = fmL A g (txw A t e i) (txg A t i) ++ txL A t e g 60 (i + 5) := by
  have h2 := (hI.tx t ht).1
  show (if A 12 t ≤ i then [] else if txs A t i = 91 then fmL A g (txw A t e i) (txg A t i) ++ txL A t e g 59 (i + 5) else txs A t i :: txL A t e g 59 (i + 1)) = _
  rw [if_neg (by omega), if_pos h1, txL_fuel hI 59 60 (i + 5) (by omega) (by omega)]
theorem txL_sign (hI : Inv A) {t e g i : Nat} (ht : t < 30) (h : i < A 12 t) (h1 : txs A t i ≠ 91) : txL A t e g 60 i = txs A t i :: txL A t e g 60 (i + 1) := by
  have h2 := (hI.tx t ht).1
  show (if A 12 t ≤ i then [] else if txs A t i = 91 then fmL A g (txw A t e i) (txg A t i) ++ txL A t e g 59 (i + 5) else txs A t i :: txL A t e g 59 (i + 1)) = _
  rw [if_neg (by omega), if_neg h1, txL_fuel hI 59 60 (i + 1) (by omega) (by omega)]
theorem chr_txs (hI : Inv A) {t i : Nat} (ht : t < 30) (h : i < A 12 t) : chr (rg A 11 (60 * t) 60) (A 12 t) i = nI (txs A t i) := by
  rw [chr_rg (hI.tx t ht).1, if_pos h]
theorem slB_txs (hI : Inv A) {t i : Nat} (ht : t < 30) (h : i < A 12 t) : slB (rg A 11 (60 * t) 60) (A 12 t) i = decide (txs A t i = 91) := by
  have hc := hI.ch.2.2.2.2 (60 * t + i)
  unfold slB
  rw [chr_txs hI ht h]
  by_cases h1 : txs A t i = 91
  · rw [decide_eq_true h1, h1]; rfl
  · rw [decide_eq_false h1, decide_eq_false (show ¬ nI (txs A t i) = 91 from fun q => h1 (ni_eq (b := 91) (Nat.lt_trans hc (by decide)) (by decide) q))]
theorem gra_txs (hI : Inv A) {t i : Nat} (ht : t < 30) (h : i + 5 ≤ A 12 t) (h2 : txs A t (i + 2) = 110 ∨ txs A t (i + 2) = 103 ∨ txs A t (i + 2) = 100 ∨ txs A t (i + 2) = 97) (h3 : txs A t (i + 3) = 115 ∨ txs A t (i + 3) = 112) : 2 * s_X8_caseOf (chr (rg A 11 (60 * t) 60) (A 12 t) (i + 2)) + s_X8_numberOf (chr (rg A 11 (60 * t) 60) (A 12 t) (i + 3)) = nI (txg A t i) := by
  rw [chr_txs hI ht (by omega), chr_txs hI ht (by omega), cse_n h2, nmb_n h3]
  have e1 : (2 : Int32) * nI (cseN (txs A t (i + 2))) = nI (2 * cseN (txs A t (i + 2))) := pk_mul 2 _
  rw [e1, nI_add]
end TS
theorem pgs {A B : ST} {ad : AD} {G : GH} {L : List Nat} (hW : World (pgS A L) B ad G) (hl : L.length ≤ 1014) : PG G (ad 11 0) (ad 12 0) (ad 13 0) L.length (rg (pgS A L) 30 0 1014) (b2i (opn true L)) := by
  rw [← b2n_i]
  exact ⟨hW.g 11 0 rfl, hW.g 12 0 rfl, hW.g 13 0 rfl, hl, by decide⟩
theorem c_lay {d b0 : Nat} {A B : ST} {ad : AD} {G : GH} {L : List Nat} {x : Nat} (hW : World (pgS A L) B ad G) (hl : L.length < 1014) (hx : rawS x) : CT mX3_lay (d + 2) b0 G [.ref (ad 11 0), .int (nI x)] 0 0 (fun r G' => r = none ∧ World (pgS A (L ++ [x])) B ad G') (fun _ _ => False) := by
  have hlt := rawS_lt hx
  refine (c_X3_lay (pgs hW (Nat.le_of_lt hl)) hl (isC_nI hlt)).mono (fun r G' h => ⟨h.1, ?_⟩) (fun _ _ h => h)
  rw [h.2]
  unfold pgU
  rw [cap_n hlt, ope_n hlt, ← b2n_i, ← pgS_lay]
  exact w_p0 (w_p1 (w_p2 (c := capN (opn true L) x) hW hl) (L.length + 1)) _
theorem c_pstart {d b0 : Nat} {A B : ST} {ad : AD} {G : GH} (hW : World A B ad G) (hP : Pag A) : CT mX3_start (d + 1) b0 G [.ref (ad 11 0)] 0 0 (fun r G' => r = none ∧ World (pgS A []) B ad G') (fun _ _ => False) := by
  refine (c_X3_start (pg11 hW hP)).mono (fun r G' h => ⟨h.1, ?_⟩) (fun _ _ h => h)
  rw [h.2, ← pgS_start]
  exact w_p0 (w_p1 hW 0) 1
