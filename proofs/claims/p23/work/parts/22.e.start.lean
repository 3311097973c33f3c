/-! the world at the start of the law -/
def adL (qx : Nat) (FX Q : Nat → Nat) : AD := fun k i => if 31 ≤ k then Q (k - 30) else adS qx FX k i
def B0 : ST := fun f _ => if f = 5 then 1 else 0
theorem inv_st0 : Inv st0 := by
  have h0 : ∀ f k, f ≠ 21 → f ≠ 10 → f ≠ 32 → st0 f k = 0 := fun f k h1 h2 h3 => by unfold st0; rw [if_neg h1, if_neg h2, if_neg h3]
  refine ⟨by decide, by decide, by decide, by decide, by decide, ⟨fun k => by rw [h0 1 k (by decide) (by decide) (by decide)]; decide, fun k => by rw [h0 3 k (by decide) (by decide) (by decide)]; decide, fun k => by rw [h0 5 k (by decide) (by decide) (by decide)]; decide, fun k => by rw [h0 7 k (by decide) (by decide) (by decide)]; decide, fun k => by rw [h0 11 k (by decide) (by decide) (by decide)]; decide⟩, fun i hi => ?_, fun i hi => ?_, fun i hi => ?_, fun c hc => ?_, fun t ht => ?_, fun j => ?_, fun l hl => ?_, fun i hi => ?_, fun l hl => ?_, fun j _ => h0 3 j (by decide) (by decide) (by decide), fun i _ _ k _ => h0 7 _ (by decide) (by decide) (by decide), fun t _ => ⟨h0 12 t (by decide) (by decide) (by decide), h0 13 t (by decide) (by decide) (by decide)⟩, fun j _ => h0 11 j (by decide) (by decide) (by decide), fun k c o _ _ _ _ => h0 14 _ (by decide) (by decide) (by decide), fun l _ => h0 17 l (by decide) (by decide) (by decide), fun j _ => h0 16 j (by decide) (by decide) (by decide)⟩
  · exact absurd hi (Nat.not_lt_zero i)
  · rw [h0 6 i (by decide) (by decide) (by decide)]
    exact ⟨by decide, fun k hk => absurd hk (Nat.not_lt_zero k)⟩
  · rw [h0 8 i (by decide) (by decide) (by decide)]
    exact ⟨by decide, fun k hk => absurd hk (Nat.not_lt_zero k)⟩
  · exact absurd hc (Nat.not_lt_zero c)
  · rw [h0 12 t (by decide) (by decide) (by decide), h0 13 t (by decide) (by decide) (by decide)]
    exact ⟨by decide, by decide, rfl⟩
  · rw [h0 14 j (by decide) (by decide) (by decide)]; decide
  · rw [h0 17 l (by decide) (by decide) (by decide)]
    exact ⟨by decide, fun k hk => absurd hk (Nat.not_lt_zero k)⟩
  · exact absurd hi (Nat.not_lt_zero i)
  · show (1 : Nat) ≤ 1000
    decide
theorem pag_st0 : Pag st0 := ⟨by decide, fun k => by show (0 : Nat) < 65536; decide⟩
set_option maxRecDepth 100000 in
set_option maxHeartbeats 4000000 in
theorem wC_st {qx : Nat} {FX Q : Nat → Nat} : ∀ k i, k ≤ 18 → wC st0 st0 (adS qx FX) k i = wC st0 B0 (adL qx FX Q) k i := by
  intro k i h
  match k, h with
  | 0, h => rfl
  | 1, h => rfl
  | 2, h => rfl
  | 3, h => rfl
  | 4, h => rfl
  | 5, h => rfl
  | 6, h => rfl
  | 7, h => rfl
  | 8, h => rfl
  | 9, h => rfl
  | 10, h => rfl
  | 11, h => rfl
  | 12, h => rfl
  | 13, h => rfl
  | 14, h => rfl
  | 15, h => rfl
  | 16, h => rfl
  | 17, h => rfl
  | 18, h => rfl
  | k + 19, h => exact absurd h (by omega)
abbrev LX : List Nat := [14, 13, 12, 11, 10, 9, 8, 7, 6, 5, 4, 3, 2, 1]
/-- whose number a role has, at the start -/
def psX (e k i : Nat) : Prop := (1 ≤ e ∧ e ≤ 14 ∧ k = e ∧ i = 0) ∨ (100 ≤ e ∧ e < 148 ∧ k = 17 + e % 2 ∧ i = (e - 100) / 2)
set_option maxRecDepth 100000 in
set_option maxHeartbeats 4000000 in
theorem lv_st {qx : Nat} {FX Q : Nat → Nat} {k i : Nat} (h : lvw st0 k i) : (k = 0 ∧ i = 0 ∧ adL qx FX Q k i = qx) ∨ (∃ e, psX e k i ∧ adL qx FX Q k i = FX e) ∨ (31 ≤ k ∧ k ≤ 35 ∧ i = 0 ∧ adL qx FX Q k i = Q (k - 30)) := by
  match k, h with
  | 0, h => exact Or.inl ⟨rfl, h, rfl⟩
  | 1, h => exact Or.inr (Or.inl ⟨1, Or.inl ⟨by decide, by decide, rfl, h⟩, rfl⟩)
  | 2, h => exact Or.inr (Or.inl ⟨2, Or.inl ⟨by decide, by decide, rfl, h⟩, rfl⟩)
  | 3, h => exact Or.inr (Or.inl ⟨3, Or.inl ⟨by decide, by decide, rfl, h⟩, rfl⟩)
  | 4, h => exact Or.inr (Or.inl ⟨4, Or.inl ⟨by decide, by decide, rfl, h⟩, rfl⟩)
  | 5, h => exact Or.inr (Or.inl ⟨5, Or.inl ⟨by decide, by decide, rfl, h⟩, rfl⟩)
  | 6, h => exact Or.inr (Or.inl ⟨6, Or.inl ⟨by decide, by decide, rfl, h⟩, rfl⟩)
  | 7, h => exact Or.inr (Or.inl ⟨7, Or.inl ⟨by decide, by decide, rfl, h⟩, rfl⟩)
  | 8, h => exact Or.inr (Or.inl ⟨8, Or.inl ⟨by decide, by decide, rfl, h⟩, rfl⟩)
  | 9, h => exact Or.inr (Or.inl ⟨9, Or.inl ⟨by decide, by decide, rfl, h⟩, rfl⟩)
  | 10, h => exact Or.inr (Or.inl ⟨10, Or.inl ⟨by decide, by decide, rfl, h⟩, rfl⟩)
  | 11, h => exact Or.inr (Or.inl ⟨11, Or.inl ⟨by decide, by decide, rfl, h⟩, rfl⟩)
  | 12, h => exact Or.inr (Or.inl ⟨12, Or.inl ⟨by decide, by decide, rfl, h⟩, rfl⟩)
  | 13, h => exact Or.inr (Or.inl ⟨13, Or.inl ⟨by decide, by decide, rfl, h⟩, rfl⟩)
  | 14, h => exact Or.inr (Or.inl ⟨14, Or.inl ⟨by decide, by decide, rfl, h⟩, rfl⟩)
  | 15, h => exact absurd h (Nat.not_lt_zero i)
  | 16, h => exact absurd h (Nat.not_lt_zero i)
  | 21, h => exact absurd h (Nat.not_lt_zero i)
  | 22, h => exact absurd h (Nat.not_lt_zero i)
  | 23, h => exact absurd h (Nat.not_lt_zero i)
  | 24, h => exact absurd h (Nat.not_lt_zero i)
  | 25, h => exact absurd h (Nat.not_lt_zero i)
  | 26, h => exact absurd h (Nat.not_lt_zero i)
  | 27, h => exact absurd h (Nat.not_lt_zero i)
  | 28, h => exact absurd h (Nat.not_lt_zero i)
  | 29, h => exact absurd h (Nat.not_lt_zero i)
  | 30, h => exact absurd h (Nat.not_lt_zero i)
  | 17, h =>
    have h2 : i < 24 := h
    exact Or.inr (Or.inl ⟨100 + 2 * i, Or.inr ⟨by omega, by omega, by omega, by omega⟩, rfl⟩)
  | 18, h =>
    have h2 : i < 24 := h
    exact Or.inr (Or.inl ⟨101 + 2 * i, Or.inr ⟨by omega, by omega, by omega, by omega⟩, rfl⟩)
  | 19, h => exact absurd rfl h.2
  | 20, h => exact absurd rfl h.2
  | 31, h => exact Or.inr (Or.inr ⟨by decide, by decide, h, rfl⟩)
  | 32, h => exact Or.inr (Or.inr ⟨by decide, by decide, h, rfl⟩)
  | 33, h => exact Or.inr (Or.inr ⟨by decide, by decide, h, rfl⟩)
  | 34, h => exact Or.inr (Or.inr ⟨by decide, by decide, h, rfl⟩)
  | 35, h => exact Or.inr (Or.inr ⟨by decide, by decide, h, rfl⟩)
  | k + 36, h => exact h.elim
theorem psX_US {e k i : Nat} (h : psX e k i) : US LX 148 e := by
  rcases h with q | q
  · refine Or.inl ?_
    have h2 : e = 1 ∨ e = 2 ∨ e = 3 ∨ e = 4 ∨ e = 5 ∨ e = 6 ∨ e = 7 ∨ e = 8 ∨ e = 9 ∨ e = 10 ∨ e = 11 ∨ e = 12 ∨ e = 13 ∨ e = 14 := by omega
    rcases h2 with r | r | r | r | r | r | r | r | r | r | r | r | r | r <;> rw [r] <;> decide
  · exact Or.inr ⟨q.1, q.2.1⟩
theorem psX_inj {e k i k' i' : Nat} (h : psX e k i) (h' : psX e k' i') : k = k' ∧ i = i' := by
  unfold psX at h h'
  omega
theorem w_startL {qx : Nat} {G0 Ga Gf : GH} {rawX : LC} {FX Q : Nat → Nat} (HX : NI (va_up G0 qx (some rawX)) Ga qx LX 148 FX) (HC : ∀ k i, lv0 k i → Ga (adS qx FX k i) = some (wC st0 st0 (adS qx FX) k i)) (h0 : Q 0 = qx) (hN : ∀ j, 1 ≤ j → j ≤ 5 → Ga (Q j) = none) (hQ : ∀ a b, 1 ≤ a → a ≤ 5 → 1 ≤ b → b ≤ 5 → Q a = Q b → a = b) (hk : ∀ x c, Ga x = some c → Gf x = some c) (g1 : Gf (Q 1) = some (inA 5 (rg B0 1 0 5))) (g2 : Gf (Q 2) = some (inA 64 (rg B0 2 0 64))) (g3 : Gf (Q 3) = some (inA 42 (rg B0 3 0 42))) (g4 : Gf (Q 4) = some (inA 8 (rg B0 4 0 8))) (g5 : Gf (Q 5) = some (inA 3 (rg B0 5 0 3))) : LW Q st0 B0 Gf := by
  have hqx : ∃ c, Ga qx = some c := HX.2.2.2.2.2
  have hFX : ∀ e, US LX 148 e → ∃ c, Ga (FX e) = some c := HX.2.1
  have hXx : ∀ e, US LX 148 e → FX e ≠ qx := fun e he r => by
    have h1 := HX.1 e he
    rw [r, up_s] at h1; cases h1
  have ne1 : ∀ x j : Nat, (∃ c, Ga x = some c) → 1 ≤ j → j ≤ 5 → x ≠ Q j := fun x j hx h1 h2 r => by
    obtain ⟨c, hc⟩ := hx
    rw [r, hN j h1 h2] at hc; cases hc
  have hm : mix st0 st0 = st0 := mix_of (fun _ _ => rfl)
  refine ⟨st0, adL qx FX Q, ?_, by rw [hm]; exact pag_st0, fun j hj => ?_⟩
  · rw [hm]
    refine ⟨fun k i hk9 => ?_, fun k i k' i' h1 h2 e => ?_⟩
    · by_cases h18 : k ≤ 18
      · have hh := HC k i ⟨h18, hk9⟩
        have ha : adL qx FX Q k i = adS qx FX k i := if_neg (by omega)
        rw [ha, ← wC_st (qx := qx) (FX := FX) (Q := Q) k i h18]
        exact hk _ _ hh
      · rcases lv_st (qx := qx) (FX := FX) (Q := Q) hk9 with ⟨q, _⟩ | ⟨e, q, _⟩ | ⟨q1, q2, q3, q4⟩
        · omega
        · unfold psX at q; omega
        · have hc : k = 31 ∨ k = 32 ∨ k = 33 ∨ k = 34 ∨ k = 35 := by omega
          rw [q4]
          rcases hc with r | r | r | r | r <;> subst r
          · exact g1
          · exact g2
          · exact g3
          · exact g4
          · exact g5
    · rcases lv_st (qx := qx) (FX := FX) (Q := Q) h1 with ⟨p, p2, p3⟩ | ⟨e1, p, p3⟩ | ⟨p, p1, p2, p3⟩ <;> rcases lv_st (qx := qx) (FX := FX) (Q := Q) h2 with ⟨r, r2, r3⟩ | ⟨e2, r, r3⟩ | ⟨r, r1, r2, r3⟩ <;> rw [p3, r3] at e
      · exact ⟨by omega, by omega⟩
      · exact absurd e.symm (hXx e2 (psX_US r))
      · exact absurd e (ne1 _ _ hqx (by omega) (by omega))
      · exact absurd e (hXx e1 (psX_US p))
      · have h3 := HX.2.2.1 e1 e2 (psX_US p) (psX_US r) e
        rw [h3] at p
        exact psX_inj p r
      · exact absurd e (ne1 _ _ (hFX e1 (psX_US p)) (by omega) (by omega))
      · exact absurd e.symm (ne1 _ _ hqx (by omega) (by omega))
      · exact absurd e.symm (ne1 _ _ (hFX e2 (psX_US r)) (by omega) (by omega))
      · have h3 := hQ _ _ (by omega) (by omega) (by omega) (by omega) e
        exact ⟨by omega, by omega⟩
  · have hc : j = 0 ∨ j = 1 ∨ j = 2 ∨ j = 3 ∨ j = 4 ∨ j = 5 := by omega
    rcases hc with r | r | r | r | r | r <;> subst r
    · exact h0.symm
    · rfl
    · rfl
    · rfl
    · rfl
    · rfl
theorem rl_st0 : Rl st0 B0 := by
  refine ⟨⟨rfl, rfl, rfl, rfl, rfl⟩, by decide, fun k hk => ⟨fun hk1 => absurd hk1 (Nat.not_lt_zero k), fun g hg => ⟨rfl, rfl⟩⟩, fun i hi => ⟨rfl, fun k hk => absurd hk (Nat.not_lt_zero k)⟩, fun e he => absurd he (Nat.not_lt_zero e), fun g hg => rfl⟩
theorem ap_st0 : Ap st0 := fun _ _ _ => rfl
theorem rg_B0 {f n : Nat} (h : f ≠ 5) : (fun _ => 0 : Nat → Int32) = rg B0 f 0 n := by
  funext k
  dsimp only [rg, B0]
  rw [if_neg h]
  split <;> rfl
theorem rg_B5 : upd (upd (upd (fun _ => 0) (nI 0).toNatClampNeg (nI 1)) (nI 1).toNatClampNeg (nI 1)) (nI 2).toNatClampNeg (nI 1) = rg B0 5 0 3 := by
  funext k
  rw [nI_cl (by decide), nI_cl (by decide), nI_cl (by decide)]
  dsimp only [rg, B0, upd]
  rw [if_pos rfl]
  by_cases h2 : k = 2
  · rw [if_pos h2, if_pos (by omega)]
  · rw [if_neg h2]
    by_cases h1 : k = 1
    · rw [if_pos h1, if_pos (by omega)]
    · rw [if_neg h1]
      by_cases h0 : k = 0
      · rw [if_pos h0, if_pos (by omega)]
      · rw [if_neg h0, if_neg (by omega)]
def QS (a b c d e f : Nat) : Nat → Nat := fun j => if j = 0 then a else if j = 1 then b else if j = 2 then c else if j = 3 then d else if j = 4 then e else f
set_option maxRecDepth 100000 in
set_option maxHeartbeats 4000000 in
theorem l_law49 {X : SX} {b0 : Nat} {Q : Nat → Nat} {G : GH} (hX : X.2.1 < 2 ^ 31) (hL : LW Q st0 B0 G) : WL X mL_law 12 b0 (fun r _ => r = some (.int 1)) NoX G 599000 7298000 49 [(6, .ref (Q 5)), (5, .ref (Q 4)), (4, .ref (Q 3)), (3, .ref (Q 2)), (2, .ref (Q 1)), (1, .ref (Q 0)), (0, .ref X.1)] [] := by
  refine q_aload_n dL_law_49 rfl 5 rfl ?_
  refine q_aload_n dL_law_50 rfl 4 rfl ?_
  refine q_aload_n dL_law_51 rfl 3 rfl ?_
  refine q_aload dL_law_52 2 rfl ?_
  refine q_iconst (v := (nI 0)) dL_law_54 (by decide) ?_
  refine q_callS (st := []) [.ref (Q 0), .ref (Q 1), .ref (Q 2), .ref (Q 3), .int (nI 0)] 591400 7146000 dL_law_55 kL_isRefused nL_isRefused lRL_116 (l_isRefused (d := 0) hL inv_st0 rl_st0 (x := 0) (by decide)) rfl rfl (Nat.le_of_ble_eq_true rfl) (by omega) (by omega) ?_
  intro r G1 hr
  obtain ⟨rfl, hL2⟩ := hr
  show WL X mL_law _ _ _ _ _ _ _ 58 [(6, .ref (Q 5)), (5, .ref (Q 4)), (4, .ref (Q 3)), (3, .ref (Q 2)), (2, .ref (Q 1)), (1, .ref (Q 0)), (0, .ref X.1)] [.int (nI 1)]
  refine nq_if_eq 94 dL_law_58 (by decide) (by omega) (fun c3 => absurd c3 (by decide)) (fun c3 => ?_)
  refine q_aload_n dL_law_61 rfl 5 rfl ?_
  refine q_aload_n dL_law_62 rfl 4 rfl ?_
  refine q_aload_n dL_law_63 rfl 3 rfl ?_
  refine q_aload dL_law_64 2 rfl ?_
  refine q_iconst (v := (nI 1)) dL_law_66 (by decide) ?_
  refine q_callS (st := []) [.ref (Q 0), .ref (Q 1), .ref (Q 2), .ref (Q 3), .int (nI 1)] 583800 6994000 dL_law_67 kL_isRefused nL_isRefused lRL_116 (l_isRefused (d := 0) hL2 inv_st0 rl_st0 (x := 1) (by decide)) rfl rfl (Nat.le_of_ble_eq_true rfl) (by omega) (by omega) ?_
  intro r G4 hr
  obtain ⟨rfl, hL5⟩ := hr
  show WL X mL_law _ _ _ _ _ _ _ 70 [(6, .ref (Q 5)), (5, .ref (Q 4)), (4, .ref (Q 3)), (3, .ref (Q 2)), (2, .ref (Q 1)), (1, .ref (Q 0)), (0, .ref X.1)] [.int (nI 1)]
  refine nq_if_eq 94 dL_law_70 (by decide) (by omega) (fun c6 => absurd c6 (by decide)) (fun c6 => ?_)
  refine q_aload_n dL_law_73 rfl 5 rfl ?_
  refine q_aload_n dL_law_74 rfl 4 rfl ?_
  refine q_aload_n dL_law_75 rfl 3 rfl ?_
  refine q_aload dL_law_76 2 rfl ?_
  refine q_aload dL_law_78 1 rfl ?_
  refine q_aload dL_law_80 0 rfl ?_
  refine q_iconst (v := (nI 0)) dL_law_82 (by decide) ?_
  refine q_iconst (v := (nI 0)) dL_law_83 (by decide) ?_
  refine q_callS (st := []) [.ref (Q 0), .ref (Q 1), .ref (Q 2), .ref (Q 3), .ref (Q 4), .ref (Q 5), .int (nI 0), .int (nI 0)] 583120 6980400 dL_law_84 kL_areSound nL_areSound lRL_119 (l_areSound (d := 0) hL5 inv_st0 rl_st0 (x := 0) (t := 0) (by decide) (by decide)) rfl rfl (Nat.le_of_ble_eq_true rfl) (by omega) (by omega) ?_
  intro r G7 hr
  obtain ⟨rfl, hL8⟩ := hr
  show WL X mL_law _ _ _ _ _ _ _ 87 [(6, .ref (Q 5)), (5, .ref (Q 4)), (4, .ref (Q 3)), (3, .ref (Q 2)), (2, .ref (Q 1)), (1, .ref (Q 0)), (0, .ref X.1)] [.int (nI 1)]
  refine nq_if_eq 94 dL_law_87 (by decide) (by omega) (fun c9 => absurd c9 (by decide)) (fun c9 => ?_)
  refine q_iconst (v := (nI 1)) dL_law_90 (by decide) ?_
  refine q_goto 95 dL_law_91 (by decide) ?_
  refine q_istore [(7, .int (nI 1)), (6, .ref (Q 5)), (5, .ref (Q 4)), (4, .ref (Q 3)), (3, .ref (Q 2)), (2, .ref (Q 1)), (1, .ref (Q 0)), (0, .ref X.1)] dL_law_95 (by decide) rfl ?_
  refine q_iconst (v := (nI 0)) dL_law_97 (by decide) ?_
  refine q_istore [(8, .int (nI 0)), (7, .int (nI 1)), (6, .ref (Q 5)), (5, .ref (Q 4)), (4, .ref (Q 3)), (3, .ref (Q 2)), (2, .ref (Q 1)), (1, .ref (Q 0)), (0, .ref X.1)] dL_law_98 (by decide) rfl ?_
  exact WL.loc [0, 1, 8, 7, 6, 5, 4, 3, 2] rfl (WL.bud (by decide) (by decide) (l_loop hX 121 0 st0 B0 _ ⟨hL8, inv_st0, rl_st0, ap_st0, by decide⟩ (by decide)))
set_option maxRecDepth 100000 in
set_option maxHeartbeats 4000000 in
theorem law_all {X : SX} {b0 : Nat} (hX : X.2.1 ≤ 260) : WL X mL_law 12 b0 (fun r _ => r = some (.int 1)) NoX (fun _ => none) 600104 7301314 0 [(0, .ref X.1)] [] := by
  refine q_new [.null, .null, .null, .null, .null, .null, .null, .null, .int 0, .int 0, .int 0] 600103 7301303 dL_law_0 wRL_10 (by decide) (by decide) (fun qx hqx hbx => ?_)
  refine q_dup dL_law_3 rfl ?_
  refine q_callI (st := [.ref qx]) [] 600003 7298303 dL_law_4 kX8_init nX8_init rfl rfl lRL_115 (c_X8_init (d := 7) (G := va_up (fun _ => none) qx (some (.inr (8, [.null, .null, .null, .null, .null, .null, .null, .null, .int 0, .int 0, .int 0])))) up_s) rfl rfl (Nat.le_of_ble_eq_true rfl) (by decide) (by decide) ?_
  intro r G1 hr
  obtain ⟨rfl, FX, HX, HC⟩ := hr
  show WL X mL_law _ _ _ _ _ _ _ 7 [(0, .ref X.1)] [.ref qx]
  refine q_astore_n [(1, .ref qx), (0, .ref X.1)] dL_law_7 rfl (by decide) rfl ?_
  refine q_iconst (v := 5) dL_law_8 (by decide) ?_
  refine q_newa (.int) 5 (5, .inl (fun _ => 0)) 600002 7298298 dL_law_9 ac_int rfl (fun _ _ h => h) (fun _ => rfl) (by decide) (by decide) (by decide) (by decide) (by decide) (fun q1 hq1 hb1 => ?_)
  refine q_astore_n [(2, .ref q1), (1, .ref qx), (0, .ref X.1)] dL_law_11 rfl (by decide) rfl ?_
  refine q_bipush (v := 64) dL_law_12 (by decide) ?_
  refine q_newa (.int) 64 (64, .inl (fun _ => 0)) 600001 7298234 dL_law_14 ac_int rfl (fun _ _ h => h) (fun _ => rfl) (by decide) (by decide) (by decide) (by decide) (by decide) (fun q2 hq2 hb2 => ?_)
  refine q_astore_n [(3, .ref q2), (2, .ref q1), (1, .ref qx), (0, .ref X.1)] dL_law_16 rfl (by decide) rfl ?_
  refine q_bipush (v := 42) dL_law_17 (by decide) ?_
  refine q_newa (.int) 42 (42, .inl (fun _ => 0)) 600000 7298192 dL_law_19 ac_int rfl (fun _ _ h => h) (fun _ => rfl) (by decide) (by decide) (by decide) (by decide) (by decide) (fun q3 hq3 hb3 => ?_)
  refine q_astore [(4, .ref q3), (3, .ref q2), (2, .ref q1), (1, .ref qx), (0, .ref X.1)] dL_law_21 (by decide) rfl ?_
  refine q_bipush (v := 8) dL_law_23 (by decide) ?_
  refine q_newa (.int) 8 (8, .inl (fun _ => 0)) 599999 7298184 dL_law_25 ac_int rfl (fun _ _ h => h) (fun _ => rfl) (by decide) (by decide) (by decide) (by decide) (by decide) (fun q4 hq4 hb4 => ?_)
  refine q_astore [(5, .ref q4), (4, .ref q3), (3, .ref q2), (2, .ref q1), (1, .ref qx), (0, .ref X.1)] dL_law_27 (by decide) rfl ?_
  refine q_iconst (v := 3) dL_law_29 (by decide) ?_
  refine q_newa (.int) 3 (3, .inl (fun _ => 0)) 599998 7298181 dL_law_30 ac_int rfl (fun _ _ h => h) (fun _ => rfl) (by decide) (by decide) (by decide) (by decide) (by decide) (fun q5 hq5 hb5 => ?_)
  refine q_astore [(6, .ref q5), (5, .ref q4), (4, .ref q3), (3, .ref q2), (2, .ref q1), (1, .ref qx), (0, .ref X.1)] dL_law_32 (by decide) rfl ?_
  have f5 : (va_up (va_up (va_up (va_up (va_up G1 q1 (some (.inl (.int, 5, .inl (fun _ => 0))))) q2 (some (.inl (.int, 64, .inl (fun _ => 0))))) q3 (some (.inl (.int, 42, .inl (fun _ => 0))))) q4 (some (.inl (.int, 8, .inl (fun _ => 0))))) q5 (some (.inl (.int, 3, .inl (fun _ => 0))))) q5 = some (.inl (.int, 3, .inl (fun _ => 0))) := up_s
  refine q_aload dL_law_34 0 rfl ?_
  refine q_iconst (v := nI 0) dL_law_36 (by decide) ?_
  refine q_iconst (v := nI 1) dL_law_37 (by decide) ?_
  refine q_iast dL_law_38 f5 (vp_in_nI (by decide) (by decide)) ?_
  refine q_aload dL_law_39 0 rfl ?_
  refine q_iconst (v := nI 1) dL_law_41 (by decide) ?_
  refine q_iconst (v := nI 1) dL_law_42 (by decide) ?_
  refine q_iast dL_law_43 up_s (vp_in_nI (by decide) (by decide)) ?_
  refine q_aload dL_law_44 0 rfl ?_
  refine q_iconst (v := nI 2) dL_law_46 (by decide) ?_
  refine q_iconst (v := nI 1) dL_law_47 (by decide) ?_
  refine q_iast dL_law_48 up_s (vp_in_nI (by decide) (by decide)) ?_
  have kk : ∀ x c, G1 x = some c → (va_up G1 q1 (some (.inl (.int, 5, .inl (fun _ => 0))))) x = some c ∧ (va_up (va_up G1 q1 (some (.inl (.int, 5, .inl (fun _ => 0))))) q2 (some (.inl (.int, 64, .inl (fun _ => 0))))) x = some c ∧ (va_up (va_up (va_up G1 q1 (some (.inl (.int, 5, .inl (fun _ => 0))))) q2 (some (.inl (.int, 64, .inl (fun _ => 0))))) q3 (some (.inl (.int, 42, .inl (fun _ => 0))))) x = some c ∧ (va_up (va_up (va_up (va_up G1 q1 (some (.inl (.int, 5, .inl (fun _ => 0))))) q2 (some (.inl (.int, 64, .inl (fun _ => 0))))) q3 (some (.inl (.int, 42, .inl (fun _ => 0))))) q4 (some (.inl (.int, 8, .inl (fun _ => 0))))) x = some c ∧ (va_up (va_up (va_up (va_up (va_up G1 q1 (some (.inl (.int, 5, .inl (fun _ => 0))))) q2 (some (.inl (.int, 64, .inl (fun _ => 0))))) q3 (some (.inl (.int, 42, .inl (fun _ => 0))))) q4 (some (.inl (.int, 8, .inl (fun _ => 0))))) q5 (some (.inl (.int, 3, .inl (fun _ => 0))))) x = some c ∧ (va_up (va_up (va_up (va_up (va_up (va_up (va_up (va_up G1 q1 (some (.inl (.int, 5, .inl (fun _ => 0))))) q2 (some (.inl (.int, 64, .inl (fun _ => 0))))) q3 (some (.inl (.int, 42, .inl (fun _ => 0))))) q4 (some (.inl (.int, 8, .inl (fun _ => 0))))) q5 (some (.inl (.int, 3, .inl (fun _ => 0))))) q5 (some (.inl (.int, 3, .inl (upd (fun _ => 0) (nI 0).toNatClampNeg (nI 1)))))) q5 (some (.inl (.int, 3, .inl (upd (upd (fun _ => 0) (nI 0).toNatClampNeg (nI 1)) (nI 1).toNatClampNeg (nI 1)))))) q5 (some (.inl (.int, 3, .inl (upd (upd (upd (fun _ => 0) (nI 0).toNatClampNeg (nI 1)) (nI 1).toNatClampNeg (nI 1)) (nI 2).toNatClampNeg (nI 1)))))) x = some c := fun x c y0 => by
    have n1 : x ≠ q1 := cx_nf y0 hq1
    have y1 := up_n (e := some (.inl (.int, 5, .inl (fun _ => 0)))) n1 y0
    have n2 : x ≠ q2 := cx_nf y1 hq2
    have y2 := up_n (e := some (.inl (.int, 64, .inl (fun _ => 0)))) n2 y1
    have n3 : x ≠ q3 := cx_nf y2 hq3
    have y3 := up_n (e := some (.inl (.int, 42, .inl (fun _ => 0)))) n3 y2
    have n4 : x ≠ q4 := cx_nf y3 hq4
    have y4 := up_n (e := some (.inl (.int, 8, .inl (fun _ => 0)))) n4 y3
    have n5 : x ≠ q5 := cx_nf y4 hq5
    have y5 := up_n (e := some (.inl (.int, 3, .inl (fun _ => 0)))) n5 y4
    have y6 := up_n (e := some (.inl (.int, 3, .inl (upd (fun _ => 0) (nI 0).toNatClampNeg (nI 1))))) n5 y5
    have y7 := up_n (e := some (.inl (.int, 3, .inl (upd (upd (fun _ => 0) (nI 0).toNatClampNeg (nI 1)) (nI 1).toNatClampNeg (nI 1))))) n5 y6
    have y8 := up_n (e := some (.inl (.int, 3, .inl (upd (upd (upd (fun _ => 0) (nI 0).toNatClampNeg (nI 1)) (nI 1).toNatClampNeg (nI 1)) (nI 2).toNatClampNeg (nI 1))))) n5 y7
    exact ⟨y1, y2, y3, y4, y5, y8⟩
  have z1 : G1 q1 = none := by
    cases hx : G1 q1 with
    | none => rfl
    | some c =>
      exfalso
      have y9 := hq1
      rw [hx] at y9
      cases y9
  have z2 : G1 q2 = none := by
    cases hx : G1 q2 with
    | none => rfl
    | some c =>
      exfalso
      have y9 := hq2
      rw [(kk _ _ hx).1] at y9
      cases y9
  have z3 : G1 q3 = none := by
    cases hx : G1 q3 with
    | none => rfl
    | some c =>
      exfalso
      have y9 := hq3
      rw [(kk _ _ hx).2.1] at y9
      cases y9
  have z4 : G1 q4 = none := by
    cases hx : G1 q4 with
    | none => rfl
    | some c =>
      exfalso
      have y9 := hq4
      rw [(kk _ _ hx).2.2.1] at y9
      cases y9
  have z5 : G1 q5 = none := by
    cases hx : G1 q5 with
    | none => rfl
    | some c =>
      exfalso
      have y9 := hq5
      rw [(kk _ _ hx).2.2.2.1] at y9
      cases y9
  have r1_1 : (va_up G1 q1 (some (.inl (.int, 5, .inl (fun _ => 0))))) q1 = some (.inl (.int, 5, .inl (fun _ => 0))) := up_s
  have n1_2 : q1 ≠ q2 := cx_nf r1_1 hq2
  have r1_2 := up_n (e := some (.inl (.int, 64, .inl (fun _ => 0)))) n1_2 r1_1
  have n1_3 : q1 ≠ q3 := cx_nf r1_2 hq3
  have r1_3 := up_n (e := some (.inl (.int, 42, .inl (fun _ => 0)))) n1_3 r1_2
  have n1_4 : q1 ≠ q4 := cx_nf r1_3 hq4
  have r1_4 := up_n (e := some (.inl (.int, 8, .inl (fun _ => 0)))) n1_4 r1_3
  have n1_5 : q1 ≠ q5 := cx_nf r1_4 hq5
  have r1_5 := up_n (e := some (.inl (.int, 3, .inl (fun _ => 0)))) n1_5 r1_4
  have r1_6 := up_n (e := some (.inl (.int, 3, .inl (upd (fun _ => 0) (nI 0).toNatClampNeg (nI 1))))) n1_5 r1_5
  have r1_7 := up_n (e := some (.inl (.int, 3, .inl (upd (upd (fun _ => 0) (nI 0).toNatClampNeg (nI 1)) (nI 1).toNatClampNeg (nI 1))))) n1_5 r1_6
  have r1_8 := up_n (e := some (.inl (.int, 3, .inl (upd (upd (upd (fun _ => 0) (nI 0).toNatClampNeg (nI 1)) (nI 1).toNatClampNeg (nI 1)) (nI 2).toNatClampNeg (nI 1))))) n1_5 r1_7
  have r2_2 : (va_up (va_up G1 q1 (some (.inl (.int, 5, .inl (fun _ => 0))))) q2 (some (.inl (.int, 64, .inl (fun _ => 0))))) q2 = some (.inl (.int, 64, .inl (fun _ => 0))) := up_s
  have n2_3 : q2 ≠ q3 := cx_nf r2_2 hq3
  have r2_3 := up_n (e := some (.inl (.int, 42, .inl (fun _ => 0)))) n2_3 r2_2
  have n2_4 : q2 ≠ q4 := cx_nf r2_3 hq4
  have r2_4 := up_n (e := some (.inl (.int, 8, .inl (fun _ => 0)))) n2_4 r2_3
  have n2_5 : q2 ≠ q5 := cx_nf r2_4 hq5
  have r2_5 := up_n (e := some (.inl (.int, 3, .inl (fun _ => 0)))) n2_5 r2_4
  have r2_6 := up_n (e := some (.inl (.int, 3, .inl (upd (fun _ => 0) (nI 0).toNatClampNeg (nI 1))))) n2_5 r2_5
  have r2_7 := up_n (e := some (.inl (.int, 3, .inl (upd (upd (fun _ => 0) (nI 0).toNatClampNeg (nI 1)) (nI 1).toNatClampNeg (nI 1))))) n2_5 r2_6
  have r2_8 := up_n (e := some (.inl (.int, 3, .inl (upd (upd (upd (fun _ => 0) (nI 0).toNatClampNeg (nI 1)) (nI 1).toNatClampNeg (nI 1)) (nI 2).toNatClampNeg (nI 1))))) n2_5 r2_7
  have r3_3 : (va_up (va_up (va_up G1 q1 (some (.inl (.int, 5, .inl (fun _ => 0))))) q2 (some (.inl (.int, 64, .inl (fun _ => 0))))) q3 (some (.inl (.int, 42, .inl (fun _ => 0))))) q3 = some (.inl (.int, 42, .inl (fun _ => 0))) := up_s
  have n3_4 : q3 ≠ q4 := cx_nf r3_3 hq4
  have r3_4 := up_n (e := some (.inl (.int, 8, .inl (fun _ => 0)))) n3_4 r3_3
  have n3_5 : q3 ≠ q5 := cx_nf r3_4 hq5
  have r3_5 := up_n (e := some (.inl (.int, 3, .inl (fun _ => 0)))) n3_5 r3_4
  have r3_6 := up_n (e := some (.inl (.int, 3, .inl (upd (fun _ => 0) (nI 0).toNatClampNeg (nI 1))))) n3_5 r3_5
  have r3_7 := up_n (e := some (.inl (.int, 3, .inl (upd (upd (fun _ => 0) (nI 0).toNatClampNeg (nI 1)) (nI 1).toNatClampNeg (nI 1))))) n3_5 r3_6
  have r3_8 := up_n (e := some (.inl (.int, 3, .inl (upd (upd (upd (fun _ => 0) (nI 0).toNatClampNeg (nI 1)) (nI 1).toNatClampNeg (nI 1)) (nI 2).toNatClampNeg (nI 1))))) n3_5 r3_7
  have r4_4 : (va_up (va_up (va_up (va_up G1 q1 (some (.inl (.int, 5, .inl (fun _ => 0))))) q2 (some (.inl (.int, 64, .inl (fun _ => 0))))) q3 (some (.inl (.int, 42, .inl (fun _ => 0))))) q4 (some (.inl (.int, 8, .inl (fun _ => 0))))) q4 = some (.inl (.int, 8, .inl (fun _ => 0))) := up_s
  have n4_5 : q4 ≠ q5 := cx_nf r4_4 hq5
  have r4_5 := up_n (e := some (.inl (.int, 3, .inl (fun _ => 0)))) n4_5 r4_4
  have r4_6 := up_n (e := some (.inl (.int, 3, .inl (upd (fun _ => 0) (nI 0).toNatClampNeg (nI 1))))) n4_5 r4_5
  have r4_7 := up_n (e := some (.inl (.int, 3, .inl (upd (upd (fun _ => 0) (nI 0).toNatClampNeg (nI 1)) (nI 1).toNatClampNeg (nI 1))))) n4_5 r4_6
  have r4_8 := up_n (e := some (.inl (.int, 3, .inl (upd (upd (upd (fun _ => 0) (nI 0).toNatClampNeg (nI 1)) (nI 1).toNatClampNeg (nI 1)) (nI 2).toNatClampNeg (nI 1))))) n4_5 r4_7
  have r5_5 : (va_up (va_up (va_up (va_up (va_up G1 q1 (some (.inl (.int, 5, .inl (fun _ => 0))))) q2 (some (.inl (.int, 64, .inl (fun _ => 0))))) q3 (some (.inl (.int, 42, .inl (fun _ => 0))))) q4 (some (.inl (.int, 8, .inl (fun _ => 0))))) q5 (some (.inl (.int, 3, .inl (fun _ => 0))))) q5 = some (.inl (.int, 3, .inl (fun _ => 0))) := up_s
  refine WL.bud (bc' := 599000) (bs' := 7298000) (by decide) (by decide) ?_
  refine l_law49 (Q := QS qx q1 q2 q3 q4 q5) (by omega) (w_startL HX HC rfl (fun j h1 h2 => ?_) (fun a b h1 h2 h3 h4 h5 => ?_) (fun x c hx => (kk x c hx).2.2.2.2.2) ?_ ?_ ?_ ?_ ?_)
  · have hc : j = 1 ∨ j = 2 ∨ j = 3 ∨ j = 4 ∨ j = 5 := by omega
    rcases hc with r | r | r | r | r <;> subst r
    · exact z1
    · exact z2
    · exact z3
    · exact z4
    · exact z5
  · have hc : a = 1 ∨ a = 2 ∨ a = 3 ∨ a = 4 ∨ a = 5 := by omega
    have hc2 : b = 1 ∨ b = 2 ∨ b = 3 ∨ b = 4 ∨ b = 5 := by omega
    rcases hc with r | r | r | r | r <;> subst r <;> rcases hc2 with s | s | s | s | s <;> subst s
    · rfl
    · exact absurd h5 n1_2
    · exact absurd h5 n1_3
    · exact absurd h5 n1_4
    · exact absurd h5 n1_5
    · exact absurd h5.symm n1_2
    · rfl
    · exact absurd h5 n2_3
    · exact absurd h5 n2_4
    · exact absurd h5 n2_5
    · exact absurd h5.symm n1_3
    · exact absurd h5.symm n2_3
    · rfl
    · exact absurd h5 n3_4
    · exact absurd h5 n3_5
    · exact absurd h5.symm n1_4
    · exact absurd h5.symm n2_4
    · exact absurd h5.symm n3_4
    · rfl
    · exact absurd h5 n4_5
    · exact absurd h5.symm n1_5
    · exact absurd h5.symm n2_5
    · exact absurd h5.symm n3_5
    · exact absurd h5.symm n4_5
    · rfl
  · rw [← rg_B0 (by decide)]; exact r1_8
  · rw [← rg_B0 (by decide)]; exact r2_8
  · rw [← rg_B0 (by decide)]; exact r3_8
  · rw [← rg_B0 (by decide)]; exact r4_8
  · rw [← rg_B5]; exact up_s
