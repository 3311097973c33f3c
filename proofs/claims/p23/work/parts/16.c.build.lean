theorem rg_pg {A : ST} {L : List Nat} {f b n : Nat} (h : f < 22) : rg (pgS A L) f b n = rg A f b n := by unfold rg; rw [pgS_f h]
theorem frL_pg {A : ST} {L : List Nat} {l w g : Nat} : frL (pgS A L) l w g = frL A l w g := by
  unfold frL kpA
  rw [rg_pg (by decide), rg_pg (by decide), pgS_f (f := 8) (by decide), pgS_f (f := 4) (by decide), pgS_f (f := 6) (by decide)]
theorem frI_pg {A : ST} {L : List Nat} {l w g p : Nat} : frI (pgS A L) l w g p = frI A l w g p := by
  unfold frI kpA
  rw [rg_pg (f := 3) (by decide), rg_pg (f := 5) (by decide), rg_pg (f := 7) (by decide), pgS_f (f := 8) (by decide), pgS_f (f := 4) (by decide), pgS_f (f := 6) (by decide)]
section PGL
variable {d b0 : Nat} {A B : ST} {ad : AD} {G : GH} {L : List Nat}
theorem c_flp (hW : World (pgS A L) B ad G) (hI : Inv A) {l w g : Nat} (hl : l < 3) (hw : w < A 2 0) (hg : g < 8) : CTd mX7_formLength (d + 2) b0 G [.ref (ad 3 0), .int (nI l), .int (nI w), .int (nI g)] 0 0 (some (.int (nI (fmL A l w g).length))) G := by
  rw [fmL_len, ← frL_pg (L := L)]
  exact c_X7_formLength hW (hI.pg L) hl hw hg
theorem c_fsp (hW : World (pgS A L) B ad G) (hI : Inv A) {l w g : Nat} (hl : l < 3) (hw : w < A 2 0) (hg : g < 8) {p : Nat} (hp : p < 2 ^ 31) : CTd mX7_formSign (d + 2) b0 G [.ref (ad 3 0), .int (nI l), .int (nI w), .int (nI g), .int (nI p)] 0 0 (some (.int (nI ((fmL A l w g).getD p 0)))) G := by
  rw [← fmL_get hI hl hw hg, ← frI_pg (L := L)]
  exact c_X7_formSign hW (hI.pg L) hl hw hg hp
theorem tpp (hW : World (pgS A L) B ad G) (hI : Inv A) {i : Nat} (hi : i < 3 * A 9 0) : TP G (ad 24 i) (ad 25 i) (ad 26 i) (A 12 i) (rg A 11 (60 * i) 60) (nI (A 13 i)) := by
  have h := tp24 hW (hI.pg L) (i := i) hi
  rw [rg_pg (by decide), pgS_f (f := 12) (by decide), pgS_f (f := 13) (by decide)] at h
  exact h
theorem dtp (hW : World (pgS A L) B ad G) {i : Nat} (hi : i < A 18 0) : DT G (ad 29 i) (ad 30 i) (nI (A 20 i)) (rg A 19 (5 * i) 5) := by
  have h := dt29 hW (i := i) hi
  rw [rg_pg (by decide), pgS_f (f := 20) (by decide)] at h
  exact h
theorem ltp (hW : World (pgS A L) B ad G) (hI : Inv A) {i : Nat} (hi : i < A 15 0) : LT G (ad 27 i) (ad 28 i) (A 17 i) (rg A 16 (6 * i) 6) := by
  have h := lt27 hW (hI.pg L) (i := i) hi
  rw [rg_pg (by decide), pgS_f (f := 17) (by decide)] at h
  exact h
end PGL
set_option maxRecDepth 100000 in
set_option maxHeartbeats 1000000 in
theorem lp_X8_layForm {d b0 : Nat} {G : GH} {A B : ST} {ad : AD} {L : List Nat} (hI : Inv A) {l w g : Nat} (hl : l < 3) (hw : w < A 2 0) (hg : g < 8) (hlen : L.length + (fmL A l w g).length ≤ 1013) : ∀ (fu : Nat) (p : Nat) (G2 : GH), p ≤ (fmL A l w g).length ∧ World (pgS A (L ++ (fmL A l w g).take p)) B ad G2 → (fmL A l w g).length - p < fu → WP mX8_layForm (d + 3) b0 (fun r G' => r = none ∧ World (pgS A (L ++ fmL A l w g)) B ad G') (fun _ _ => False) G2 0 0 15 [(5, .int (nI p)), (4, .int (nI (fmL A l w g).length)), (0, .ref (ad 0 0)), (1, .int (nI l)), (2, .int (nI w)), (3, .int (nI g))] [] := by
  intro fu
  induction fu with
  | zero => intro p G2 hinv hn; exact absurd hn (Nat.not_lt_zero _)
  | succ fu ih =>
    intro p G2 hinv hn
    have hb2 := hI.b2
    refine r_iload dX8_layForm_15 0 rfl ?_
    refine r_iload dX8_layForm_17 1 rfl ?_
    refine r_icmp_ge 47 dX8_layForm_19 (by decide) (fun c_1 => ?_) (fun c_1 => ?_)
    · refine r_vret dX8_layForm_47 rfl ?_
      have hp : p = (fmL A l w g).length := by have := ni_le (by omega) (by omega) c_1; omega
      have hq := hinv.2
      rw [hp, List.take_length] at hq
      exact ⟨rfl, hq⟩
    · have hp : p < (fmL A l w g).length := ni_nle (by omega) (by omega) c_1
      have hraw : rawS ((fmL A l w g).getD p 0) := Or.inl (by
        rw [List.getD_eq_getElem?_getD, List.getElem?_eq_getElem hp]
        exact fmL_sml hI hl hw hg _ (List.getElem_mem hp))
      refine r_aload_n dX8_layForm_22 rfl 2 rfl ?_
      refine r_get 6 dX8_layForm_23 fRX8_50 (hinv.2.g 0 0 rfl) rfl ?_
      refine r_aload_n dX8_layForm_26 rfl 2 rfl ?_
      refine r_get 1 dX8_layForm_27 fRX8_21 (hinv.2.g 0 0 rfl) rfl ?_
      refine r_iload_n dX8_layForm_30 rfl 3 rfl ?_
      refine r_iload_n dX8_layForm_31 rfl 4 rfl ?_
      refine r_iload_n dX8_layForm_32 rfl 5 rfl ?_
      refine r_iload dX8_layForm_33 0 rfl ?_
      refine r_callV (st := [.ref (ad 11 0)]) [.int (nI l), .int (nI w), .int (nI g), .int (nI p)] 0 0 dX8_layForm_35 kX7_formSign nX7_formSign lRX8_343 (hinv.2.g 3 0 rfl) rfl (c_fsp hinv.2 hI hl hw hg (show p < 2147483648 by omega)) rfl rfl (Nat.le_of_ble_eq_true rfl) (Nat.le_refl _) (Nat.le_refl _) (fun _ _ h => h.elim) ?_
      refine cx_det (st2 := [.int (nI ((fmL A l w g).getD p 0)), .ref (ad 11 0)]) rfl ?_
      refine r_callV (st := []) [.int (nI ((fmL A l w g).getD p 0))] 0 0 dX8_layForm_38 kX3_lay nX3_lay lRX8_317 (hinv.2.g 11 0 rfl) rfl (c_lay hinv.2 (by rw [List.length_append, List.length_take]; omega) hraw) rfl rfl (Nat.le_of_ble_eq_true rfl) (Nat.le_refl _) (Nat.le_refl _) (fun _ _ h => h.elim) ?_
      intro r G_2 hr
      obtain ⟨rfl, hW_3⟩ := hr
      rw [List.append_assoc, take_one hp] at hW_3
      refine r_iinc (nI (p + 1)) [(5, .int (nI (p + 1))), (4, .int (nI (fmL A l w g).length)), (0, .ref (ad 0 0)), (1, .int (nI l)), (2, .int (nI w)), (3, .int (nI g))] dX8_layForm_41 0 rfl (nI_1 p) (by decide) rfl ?_
      refine r_goto 15 dX8_layForm_44 (by decide) ?_
      exact WP.loc [0, 1, 2, 3, 4, 5] rfl (ih (p + 1) _ ⟨by omega, hW_3⟩ (by omega))
set_option maxRecDepth 100000 in
set_option maxHeartbeats 1000000 in
theorem c_layForm {d b0 : Nat} {G : GH} {A B : ST} {ad : AD} {L : List Nat} (hI : Inv A) (hW : World (pgS A L) B ad G) {l w g : Nat} (hl : l < 3) (hw : w < A 2 0) (hg : g < 8) (hlen : L.length + (fmL A l w g).length ≤ 1013) : CT mX8_layForm (d + 3) b0 G [.ref (ad 0 0), .int (nI l), .int (nI w), .int (nI g)] 0 0 (fun r G' => r = none ∧ World (pgS A (L ++ fmL A l w g)) B ad G') (fun _ _ => False) := by
  refine CT.intro (by decide +kernel) rfl (Nat.le_of_ble_eq_true rfl) ?_
  show WP mX8_layForm _ _ _ _ _ 0 0 0 [(0, .ref (ad 0 0)), (1, .int (nI l)), (2, .int (nI w)), (3, .int (nI g))] []
  refine r_aload_n dX8_layForm_0 rfl 0 rfl ?_
  refine r_get 1 dX8_layForm_1 fRX8_21 (hW.g 0 0 rfl) rfl ?_
  refine r_iload_n dX8_layForm_4 rfl 1 rfl ?_
  refine r_iload_n dX8_layForm_5 rfl 2 rfl ?_
  refine r_iload_n dX8_layForm_6 rfl 3 rfl ?_
  refine r_callV (st := []) [.int (nI l), .int (nI w), .int (nI g)] 0 0 dX8_layForm_7 kX7_formLength nX7_formLength lRX8_339 (hW.g 3 0 rfl) rfl (c_flp hW hI hl hw hg) rfl rfl (Nat.le_of_ble_eq_true rfl) (Nat.le_refl _) (Nat.le_refl _) (fun _ _ h => h.elim) ?_
  refine cx_det (st2 := [.int (nI (fmL A l w g).length)]) rfl ?_
  refine r_istore [(4, .int (nI (fmL A l w g).length)), (0, .ref (ad 0 0)), (1, .int (nI l)), (2, .int (nI w)), (3, .int (nI g))] dX8_layForm_10 (by decide) rfl ?_
  refine r_iconst (v := nI 0) dX8_layForm_12 (by decide) ?_
  refine r_istore [(5, .int (nI 0)), (4, .int (nI (fmL A l w g).length)), (0, .ref (ad 0 0)), (1, .int (nI l)), (2, .int (nI w)), (3, .int (nI g))] dX8_layForm_13 (by decide) rfl ?_
  have hq := hW
  rw [show L = L ++ (fmL A l w g).take 0 from (List.append_nil L).symm] at hq
  exact lp_X8_layForm (G := G) hI hl hw hg hlen _ 0 _ ⟨Nat.zero_le _, hq⟩ (Nat.lt_succ_self _)
set_option maxRecDepth 100000 in
set_option maxHeartbeats 1000000 in
theorem lp_X8_layTemplate {d b0 : Nat} {G : GH} {A B : ST} {ad : AD} {L : List Nat} (hI : Inv A) {t e g : Nat} (ht : t < 3 * A 9 0) (he : e < A 18 0) (hg : g < 3) (hlen : L.length + (txL A t e g 60 0).length ≤ 1013) : ∀ (fu : Nat) (i : Nat) (Y : List Nat) (G2 : GH), i ≤ A 12 t ∧ pw (fun k => A 11 (60 * t + k)) i = 0 ∧ Y ++ txL A t e g 60 i = txL A t e g 60 0 ∧ World (pgS A (L ++ Y)) B ad G2 → A 12 t - i < fu → WP mX8_layTemplate (d + 4) b0 (fun r G' => r = none ∧ World (pgS A (L ++ txL A t e g 60 0)) B ad G') (fun _ _ => False) G2 0 0 3 [(4, .int (nI i)), (0, .ref (ad 0 0)), (1, .ref (ad 24 t)), (2, .ref (ad 29 e)), (3, .int (nI g))] [] := by
  intro fu
  induction fu with
  | zero => intro i Y G2 hinv hn; exact absurd hn (Nat.not_lt_zero _)
  | succ fu ih =>
    intro i Y G2 hinv hn
    have hb9 := hI.b9
    have htx := hI.tx t (by omega)
    refine r_iload dX8_layTemplate_3 0 rfl ?_
    refine r_aload_n dX8_layTemplate_5 rfl 2 rfl ?_
    refine r_callV (st := [.int (nI i)]) [] 0 0 dX8_layTemplate_6 kX6_length nX6_length lRX8_325 (hinv.2.2.2.g 24 t ht) rfl (c_X6_length (tpp hinv.2.2.2 hI ht)) rfl rfl (Nat.le_of_ble_eq_true rfl) (Nat.le_refl _) (Nat.le_refl _) (fun _ _ h => h.elim) ?_
    refine cx_det (st2 := [.int (nI (A 12 t)), .int (nI i)]) rfl ?_
    refine r_icmp_ge 67 dX8_layTemplate_9 (by decide) (fun c_1 => ?_) (fun c_1 => ?_)
    · refine r_vret dX8_layTemplate_67 rfl ?_
      have hi : A 12 t ≤ i := ni_le (by omega) (by omega) c_1
      have hq := hinv.2.2.2
      rw [show Y = txL A t e g 60 0 by rw [← hinv.2.2.1, txL_end hi, List.append_nil]] at hq
      exact ⟨rfl, hq⟩
    · have hi : i < A 12 t := ni_nle (by omega) (by omega) c_1
      have hok := txL_ok hI (t := t) (e := e) (g := g) (by omega) he hg 60 i hinv.2.1 hinv.1
      have hYl : Y.length + (txL A t e g 60 i).length ≤ (txL A t e g 60 0).length := by rw [← hinv.2.2.1, List.length_append]; omega
      refine r_aload_n dX8_layTemplate_12 rfl 2 rfl ?_
      refine r_iload dX8_layTemplate_13 0 rfl ?_
      have hisl := c_X6_isSlot_n (d := d + 2) (b0 := b0) (tpp hinv.2.2.2 hI ht) (fun k _ => rg_C hI.ch.2.2.2.2 k) (k := i) (by omega)
      rw [slB_txs hI (by omega) hi] at hisl
      refine r_callV (st := []) [.int (nI i)] 0 0 dX8_layTemplate_15 kX6_isSlot nX6_isSlot lRX8_326 (hinv.2.2.2.g 24 t ht) rfl hisl rfl rfl (Nat.le_of_ble_eq_true rfl) (Nat.le_refl _) (Nat.le_refl _) (fun _ _ h => h.elim) ?_
      refine cx_det (st2 := [.int (b2i (decide (txs A t i = 91)))]) rfl ?_
      refine r_if_eq 48 dX8_layTemplate_18 (by decide) (fun c_2 => ?_) (fun c_2 => ?_)
      · have h91 : txs A t i ≠ 91 := of_decide_eq_false (b2i_0 c_2)
        obtain ⟨p1, p2⟩ := pw_plain hinv.2.1 h91 htx.2.2 hi
        rw [txL_sign hI (by omega) hi h91] at hYl
        rw [List.length_cons] at hYl
        refine r_aload_n dX8_layTemplate_48 rfl 1 rfl ?_
        refine r_get 6 dX8_layTemplate_49 fRX8_50 (hinv.2.2.2.g 0 0 rfl) rfl ?_
        refine r_aload_n dX8_layTemplate_52 rfl 2 rfl ?_
        refine r_iload dX8_layTemplate_53 0 rfl ?_
        have hat := c_X6_at_n (d := d + 2) (b0 := b0) (tpp hinv.2.2.2 hI ht) (fun k _ => rg_C hI.ch.2.2.2.2 k) (k := i) (by omega)
        rw [chr_txs hI (by omega) hi] at hat
        refine r_callV (st := [.ref (ad 11 0)]) [.int (nI i)] 0 0 dX8_layTemplate_55 kX6_at nX6_at lRX8_338 (hinv.2.2.2.g 24 t ht) rfl hat rfl rfl (Nat.le_of_ble_eq_true rfl) (Nat.le_refl _) (Nat.le_refl _) (fun _ _ h => h.elim) ?_
        refine cx_det (st2 := [.int (nI (txs A t i)), .ref (ad 11 0)]) rfl ?_
        refine r_callV (st := []) [.int (nI (txs A t i))] 0 0 dX8_layTemplate_58 kX3_lay nX3_lay lRX8_317 (hinv.2.2.2.g 11 0 rfl) rfl (c_lay hinv.2.2.2 (by rw [List.length_append]; omega) p1) rfl rfl (Nat.le_of_ble_eq_true rfl) (Nat.le_refl _) (Nat.le_refl _) (fun _ _ h => h.elim) ?_
        intro r G_3 hr
        obtain ⟨rfl, hW_4⟩ := hr
        rw [List.append_assoc] at hW_4
        refine r_iinc (nI (i + 1)) [(4, .int (nI (i + 1))), (0, .ref (ad 0 0)), (1, .ref (ad 24 t)), (2, .ref (ad 29 e)), (3, .int (nI g))] dX8_layTemplate_61 0 rfl (nI_1 i) (by decide) rfl ?_
        refine r_goto 3 dX8_layTemplate_64 (by decide) ?_
        exact WP.loc [0, 1, 2, 3, 4] rfl (ih (i + 1) _ _ ⟨by omega, p2, by rw [List.append_assoc, ← hinv.2.2.1, txL_sign hI (by omega) hi h91]; rfl, hW_4⟩ (by omega))
      · have h91 : txs A t i = 91 := of_decide_eq_true (b2i_n0 c_2)
        obtain ⟨p1, p2, p3, p4, p5, p6⟩ := pw_slot hinv.2.1 h91 htx.2.2 hi
        have hw : txw A t e i < A 2 0 := (hI.da e he).2 _ (by have q := p2; show A 11 (60 * t + (i + 1)) - 48 < 5; omega)
        have hsl : txs A t (i + 1) - 48 < 5 := by have q := p2; show A 11 (60 * t + (i + 1)) - 48 < 5; omega
        rw [txL_slot hI (by omega) hi h91] at hYl
        rw [List.length_append] at hYl
        have hz11 : ∀ k, k < A 12 t → isC (rg A 11 (60 * t) 60 k) := fun k _ => rg_C hI.ch.2.2.2.2 k
        have hslot := c_X6_slotAt_n (d := d + 2) (b0 := b0) (tpp hinv.2.2.2 hI ht) hz11 (k := i) (by omega)
        rw [chr_txs hI (by omega) (show i + 1 < A 12 t by omega), slo_n p2] at hslot
        have hword := c_X1_wordOf (d := d + 2) (b0 := b0) (dtp hinv.2.2.2 he) hsl
        rw [show rg A 19 (5 * e) 5 (txs A t (i + 1) - 48) = nI (txw A t e i) by dsimp only [rg]; rw [if_pos hsl]] at hword
        have hgram := c_X6_grammarAt_n (d := d + 2) (b0 := b0) (tpp hinv.2.2.2 hI ht) hz11 (k := i) (by omega)
        rw [gra_txs hI (by omega) p1 p3 p4] at hgram
        refine r_aload_n dX8_layTemplate_21 rfl 1 rfl ?_
        refine r_iload_n dX8_layTemplate_22 rfl 4 rfl ?_
        refine r_aload_n dX8_layTemplate_23 rfl 3 rfl ?_
        refine r_aload_n dX8_layTemplate_24 rfl 2 rfl ?_
        refine r_iload dX8_layTemplate_25 0 rfl ?_
        refine r_callV (st := [.ref (ad 29 e), .int (nI g), .ref (ad 0 0)]) [.int (nI i)] 0 0 dX8_layTemplate_27 kX6_slotAt nX6_slotAt lRX8_329 (hinv.2.2.2.g 24 t ht) rfl hslot rfl rfl (Nat.le_of_ble_eq_true rfl) (Nat.le_refl _) (Nat.le_refl _) (fun _ _ h => h.elim) ?_
        refine cx_det (st2 := [.int (nI (txs A t (i + 1) - 48)), .ref (ad 29 e), .int (nI g), .ref (ad 0 0)]) rfl ?_
        refine r_callV (st := [.int (nI g), .ref (ad 0 0)]) [.int (nI (txs A t (i + 1) - 48))] 0 0 dX8_layTemplate_30 kX1_wordOf nX1_wordOf lRX8_220 (hinv.2.2.2.g 29 e he) rfl hword rfl rfl (Nat.le_of_ble_eq_true rfl) (Nat.le_refl _) (Nat.le_refl _) (fun _ _ h => h.elim) ?_
        refine cx_det (st2 := [.int (nI (txw A t e i)), .int (nI g), .ref (ad 0 0)]) rfl ?_
        refine r_aload_n dX8_layTemplate_33 rfl 2 rfl ?_
        refine r_iload dX8_layTemplate_34 0 rfl ?_
        refine r_callV (st := [.int (nI (txw A t e i)), .int (nI g), .ref (ad 0 0)]) [.int (nI i)] 0 0 dX8_layTemplate_36 kX6_grammarAt nX6_grammarAt lRX8_332 (hinv.2.2.2.g 24 t ht) rfl hgram rfl rfl (Nat.le_of_ble_eq_true rfl) (Nat.le_refl _) (Nat.le_refl _) (fun _ _ h => h.elim) ?_
        refine cx_det (st2 := [.int (nI (txg A t i)), .int (nI (txw A t e i)), .int (nI g), .ref (ad 0 0)]) rfl ?_
        refine r_callV (st := []) [.int (nI g), .int (nI (txw A t e i)), .int (nI (txg A t i))] 0 0 dX8_layTemplate_39 kX8_layForm nX8_layForm lRX8_335 (hinv.2.2.2.g 0 0 rfl) rfl (c_layForm hI hinv.2.2.2 hg hw (txg_lt A t i) (by rw [List.length_append]; omega)) rfl rfl (Nat.le_of_ble_eq_true rfl) (Nat.le_refl _) (Nat.le_refl _) (fun _ _ h => h.elim) ?_
        intro r G_5 hr
        obtain ⟨rfl, hW_6⟩ := hr
        rw [List.append_assoc] at hW_6
        refine r_iinc (nI (i + 4)) [(4, .int (nI (i + 4))), (0, .ref (ad 0 0)), (1, .ref (ad 24 t)), (2, .ref (ad 29 e)), (3, .int (nI g))] dX8_layTemplate_42 0 rfl (nI_add i 4) (by decide) rfl ?_
        refine r_goto 61 dX8_layTemplate_45 (by decide) ?_
        refine r_iinc (nI (i + 5)) [(4, .int (nI (i + 5))), (0, .ref (ad 0 0)), (1, .ref (ad 24 t)), (2, .ref (ad 29 e)), (3, .int (nI g))] dX8_layTemplate_61 0 rfl (nI_1 (i + 4)) (by decide) rfl ?_
        refine r_goto 3 dX8_layTemplate_64 (by decide) ?_
        exact WP.loc [0, 1, 2, 3, 4] rfl (ih (i + 5) _ _ ⟨p1, p6, by rw [List.append_assoc, ← hinv.2.2.1, txL_slot hI (by omega) hi h91], hW_6⟩ (by omega))
set_option maxRecDepth 100000 in
set_option maxHeartbeats 1000000 in
theorem c_layTemplate {d b0 : Nat} {G : GH} {A B : ST} {ad : AD} {L : List Nat} (hI : Inv A) (hW : World (pgS A L) B ad G) {t e g : Nat} (ht : t < 3 * A 9 0) (he : e < A 18 0) (hg : g < 3) (hlen : L.length + (txL A t e g 60 0).length ≤ 1013) : CT mX8_layTemplate (d + 4) b0 G [.ref (ad 0 0), .ref (ad 24 t), .ref (ad 29 e), .int (nI g)] 0 0 (fun r G' => r = none ∧ World (pgS A (L ++ txL A t e g 60 0)) B ad G') (fun _ _ => False) := by
  refine CT.intro (by decide +kernel) rfl (Nat.le_of_ble_eq_true rfl) ?_
  show WP mX8_layTemplate _ _ _ _ _ 0 0 0 [(0, .ref (ad 0 0)), (1, .ref (ad 24 t)), (2, .ref (ad 29 e)), (3, .int (nI g))] []
  refine r_iconst (v := nI 0) dX8_layTemplate_0 (by decide) ?_
  refine r_istore [(4, .int (nI 0)), (0, .ref (ad 0 0)), (1, .ref (ad 24 t)), (2, .ref (ad 29 e)), (3, .int (nI g))] dX8_layTemplate_1 (by decide) rfl ?_
  exact lp_X8_layTemplate (G := G) hI ht he hg hlen _ 0 [] _ ⟨Nat.zero_le _, rfl, rfl, by rw [List.append_nil]; exact hW⟩ (Nat.lt_succ_self _)
set_option maxRecDepth 100000 in
set_option maxHeartbeats 1000000 in
theorem c_X8_laidAt_t {d b0 : Nat} {G : GH} {A B : ST} {ad : AD} (hW : World A B ad G) (hI : Inv A) {l e g p : Nat} (hl : l < A 15 0) (he : e < A 18 0) (hg : g < 3) (hp : p < A 17 l) (h : isL A l e g p = true) : CTd mX8_laidAt (d + 3) b0 G [.ref (ad 0 0), .ref (ad 27 l), .int (nI p), .ref (ad 29 e), .int (nI g)] 0 0 (some (.ref (ad 24 (3 * (cla A l p) + g)))) G := by
  have hb0 := hI.b0
  have hb2 := hI.b2
  have hb9 := hI.b9
  have hb15 := hI.b15
  have hb18 := hI.b18
  have h17 := (hI.ro l (by omega)).1
  have hcl : cla A l p < A 9 0 := ((hI.ro l (by omega)).2 p hp).1
  have hT : 3 * cla A l p + g < 3 * A 9 0 := by omega
  have hca := c_X2_at (d := d + 1) (b0 := b0) (lt27 hW hI hl) hp
  rw [show rg A 16 (6 * l) 6 p = nI (cla A l p) by dsimp only [rg]; rw [if_pos (by omega)]] at hca
  have hm : meB A e (cla A l p) = true := by unfold isL at h; rw [Bool.and_eq_true] at h; exact h.1
  have hn : 0 < A 12 (3 * (cla A l p) + g) := by unfold isL at h; rw [Bool.and_eq_true] at h; have h9 := of_decide_eq_true h.2; omega
  refine CT.intro (by decide +kernel) rfl (Nat.le_of_ble_eq_true rfl) ?_
  show WP mX8_laidAt _ _ _ _ _ 0 0 0 [(0, .ref (ad 0 0)), (1, .ref (ad 27 l)), (2, .int (nI p)), (3, .ref (ad 29 e)), (4, .int (nI g))] []
  refine r_aload_n dX8_laidAt_0 rfl 0 rfl ?_
  refine r_aload_n dX8_laidAt_1 rfl 1 rfl ?_
  refine r_iload_n dX8_laidAt_2 rfl 2 rfl ?_
  refine r_callV (st := [.ref (ad 0 0)]) [.int (nI p)] 0 0 dX8_laidAt_3 kX2_at nX2_at lRX8_235 (hW.g 27 l hl) rfl hca rfl rfl (Nat.le_of_ble_eq_true rfl) (Nat.le_refl _) (Nat.le_refl _) (fun _ _ h => h.elim) ?_
  refine cx_det (st2 := [.int (nI (cla A l p)), .ref (ad 0 0)]) rfl ?_
  refine r_callV (st := []) [.int (nI (cla A l p))] 0 0 dX8_laidAt_6 kX8_clauseAt nX8_clauseAt lRX8_163 (hW.g 0 0 rfl) rfl (c_X8_clauseAt_t hW hI hcl) rfl rfl (Nat.le_of_ble_eq_true rfl) (Nat.le_refl _) (Nat.le_refl _) (fun _ _ h => h.elim) ?_
  refine cx_det (st2 := [.ref (ad 21 (cla A l p))]) rfl ?_
  refine r_astore [(5, .ref (ad 21 (cla A l p))), (0, .ref (ad 0 0)), (1, .ref (ad 27 l)), (2, .int (nI p)), (3, .ref (ad 29 e)), (4, .int (nI g))] dX8_laidAt_9 (by decide) rfl ?_
  refine r_aload dX8_laidAt_11 0 rfl ?_
  refine r_ifnullR dX8_laidAt_13 ?_
  refine r_aload_n dX8_laidAt_16 rfl 4 rfl ?_
  refine r_aload dX8_laidAt_17 0 rfl ?_
  refine r_callV (st := [.ref (ad 29 e)]) [] 0 0 dX8_laidAt_19 kX0_condition nX0_condition lRX8_300 (hW.g 21 (cla A l p) hcl) rfl (c_X0_condition hW hI hcl) rfl rfl (Nat.le_of_ble_eq_true rfl) (Nat.le_refl _) (Nat.le_refl _) (fun _ _ h => h.elim) ?_
  refine cx_det (st2 := [.int (nI (A 10 (cla A l p)) - 1), .ref (ad 29 e)]) rfl ?_
  refine r_callV (st := []) [.int (nI (A 10 (cla A l p)) - 1)] 0 0 dX8_laidAt_22 kX1_meets nX1_meets lRX8_303 (hW.g 29 e he) rfl (c_meets hW he (cla A l p)) rfl rfl (Nat.le_of_ble_eq_true rfl) (Nat.le_refl _) (Nat.le_refl _) (fun _ _ h => h.elim) ?_
  refine cx_det (st2 := [.int (b2i (meB A e (cla A l p)))]) rfl ?_
  refine r_if_ne 30 dX8_laidAt_25 (by decide) (fun c_1 => ?_) (fun c_1 => absurd c_1 (b2i_no hm))
  refine r_aload dX8_laidAt_30 0 rfl ?_
  refine r_iload dX8_laidAt_32 5 rfl ?_
  refine r_callV (st := []) [.int (nI g)] 0 0 dX8_laidAt_34 kX0_templateIn nX0_templateIn lRX8_278 (hW.g 21 (cla A l p) hcl) rfl (c_X0_templateIn_t hW hI hcl hg) rfl rfl (Nat.le_of_ble_eq_true rfl) (Nat.le_refl _) (Nat.le_refl _) (fun _ _ h => h.elim) ?_
  refine cx_det (st2 := [.ref (ad 24 (3 * (cla A l p) + g))]) rfl ?_
  refine r_astore [(6, .ref (ad 24 (3 * (cla A l p) + g))), (5, .ref (ad 21 (cla A l p))), (0, .ref (ad 0 0)), (1, .ref (ad 27 l)), (2, .int (nI p)), (3, .ref (ad 29 e)), (4, .int (nI g))] dX8_laidAt_37 (by decide) rfl ?_
  refine r_aload dX8_laidAt_39 0 rfl ?_
  refine r_ifnullR dX8_laidAt_41 ?_
  refine r_aload dX8_laidAt_44 0 rfl ?_
  refine r_callV (st := []) [] 0 0 dX8_laidAt_46 kX6_isThere nX6_isThere lRX8_151 (hW.g 24 (3 * (cla A l p) + g) hT) rfl (c_X6_isThere (tp24 hW hI hT)) rfl rfl (Nat.le_of_ble_eq_true rfl) (Nat.le_refl _) (Nat.le_refl _) (fun _ _ h => h.elim) ?_
  refine cx_det (st2 := [.int (b2i (decide (0 < A 12 (3 * (cla A l p) + g))))]) rfl ?_
  refine r_if_eq 57 dX8_laidAt_49 (by decide) (fun c_2 => absurd c_2 (b2i_no (decide_eq_true hn))) (fun c_2 => ?_)
  refine r_aload dX8_laidAt_52 0 rfl ?_
  refine r_goto 58 dX8_laidAt_54 (by decide) ?_
  refine r_aret dX8_laidAt_58 rfl (Or.inl ⟨_, rfl⟩) (Or.inr ⟨_, rfl⟩) ?_
  exact ⟨rfl, rfl⟩
set_option maxRecDepth 100000 in
set_option maxHeartbeats 1000000 in
theorem c_X8_laidAt_f1 {d b0 : Nat} {G : GH} {A B : ST} {ad : AD} (hW : World A B ad G) (hI : Inv A) {l e g p : Nat} (hl : l < A 15 0) (he : e < A 18 0) (hg : g < 3) (hp : p < A 17 l) (h : meB A e (cla A l p) = false) : CTd mX8_laidAt (d + 3) b0 G [.ref (ad 0 0), .ref (ad 27 l), .int (nI p), .ref (ad 29 e), .int (nI g)] 0 0 (some .null) G := by
  have hb0 := hI.b0
  have hb2 := hI.b2
  have hb9 := hI.b9
  have hb15 := hI.b15
  have hb18 := hI.b18
  have h17 := (hI.ro l (by omega)).1
  have hcl : cla A l p < A 9 0 := ((hI.ro l (by omega)).2 p hp).1
  have hT : 3 * cla A l p + g < 3 * A 9 0 := by omega
  have hca := c_X2_at (d := d + 1) (b0 := b0) (lt27 hW hI hl) hp
  rw [show rg A 16 (6 * l) 6 p = nI (cla A l p) by dsimp only [rg]; rw [if_pos (by omega)]] at hca
  refine CT.intro (by decide +kernel) rfl (Nat.le_of_ble_eq_true rfl) ?_
  show WP mX8_laidAt _ _ _ _ _ 0 0 0 [(0, .ref (ad 0 0)), (1, .ref (ad 27 l)), (2, .int (nI p)), (3, .ref (ad 29 e)), (4, .int (nI g))] []
  refine r_aload_n dX8_laidAt_0 rfl 0 rfl ?_
  refine r_aload_n dX8_laidAt_1 rfl 1 rfl ?_
  refine r_iload_n dX8_laidAt_2 rfl 2 rfl ?_
  refine r_callV (st := [.ref (ad 0 0)]) [.int (nI p)] 0 0 dX8_laidAt_3 kX2_at nX2_at lRX8_235 (hW.g 27 l hl) rfl hca rfl rfl (Nat.le_of_ble_eq_true rfl) (Nat.le_refl _) (Nat.le_refl _) (fun _ _ h => h.elim) ?_
  refine cx_det (st2 := [.int (nI (cla A l p)), .ref (ad 0 0)]) rfl ?_
  refine r_callV (st := []) [.int (nI (cla A l p))] 0 0 dX8_laidAt_6 kX8_clauseAt nX8_clauseAt lRX8_163 (hW.g 0 0 rfl) rfl (c_X8_clauseAt_t hW hI hcl) rfl rfl (Nat.le_of_ble_eq_true rfl) (Nat.le_refl _) (Nat.le_refl _) (fun _ _ h => h.elim) ?_
  refine cx_det (st2 := [.ref (ad 21 (cla A l p))]) rfl ?_
  refine r_astore [(5, .ref (ad 21 (cla A l p))), (0, .ref (ad 0 0)), (1, .ref (ad 27 l)), (2, .int (nI p)), (3, .ref (ad 29 e)), (4, .int (nI g))] dX8_laidAt_9 (by decide) rfl ?_
  refine r_aload dX8_laidAt_11 0 rfl ?_
  refine r_ifnullR dX8_laidAt_13 ?_
  refine r_aload_n dX8_laidAt_16 rfl 4 rfl ?_
  refine r_aload dX8_laidAt_17 0 rfl ?_
  refine r_callV (st := [.ref (ad 29 e)]) [] 0 0 dX8_laidAt_19 kX0_condition nX0_condition lRX8_300 (hW.g 21 (cla A l p) hcl) rfl (c_X0_condition hW hI hcl) rfl rfl (Nat.le_of_ble_eq_true rfl) (Nat.le_refl _) (Nat.le_refl _) (fun _ _ h => h.elim) ?_
  refine cx_det (st2 := [.int (nI (A 10 (cla A l p)) - 1), .ref (ad 29 e)]) rfl ?_
  refine r_callV (st := []) [.int (nI (A 10 (cla A l p)) - 1)] 0 0 dX8_laidAt_22 kX1_meets nX1_meets lRX8_303 (hW.g 29 e he) rfl (c_meets hW he (cla A l p)) rfl rfl (Nat.le_of_ble_eq_true rfl) (Nat.le_refl _) (Nat.le_refl _) (fun _ _ h => h.elim) ?_
  refine cx_det (st2 := [.int (b2i (meB A e (cla A l p)))]) rfl ?_
  refine r_if_ne 30 dX8_laidAt_25 (by decide) (fun c_1 => absurd (b2i_z h) c_1) (fun c_1 => ?_)
  refine r_null dX8_laidAt_28 ?_
  refine r_aret dX8_laidAt_29 rfl (Or.inl ⟨_, rfl⟩) (Or.inl rfl) ?_
  exact ⟨rfl, rfl⟩
set_option maxRecDepth 100000 in
set_option maxHeartbeats 1000000 in
theorem c_X8_laidAt_f2 {d b0 : Nat} {G : GH} {A B : ST} {ad : AD} (hW : World A B ad G) (hI : Inv A) {l e g p : Nat} (hl : l < A 15 0) (he : e < A 18 0) (hg : g < 3) (hp : p < A 17 l) (hm : meB A e (cla A l p) = true) (hn : ¬ 0 < A 12 (3 * (cla A l p) + g)) : CTd mX8_laidAt (d + 3) b0 G [.ref (ad 0 0), .ref (ad 27 l), .int (nI p), .ref (ad 29 e), .int (nI g)] 0 0 (some .null) G := by
  have hb0 := hI.b0
  have hb2 := hI.b2
  have hb9 := hI.b9
  have hb15 := hI.b15
  have hb18 := hI.b18
  have h17 := (hI.ro l (by omega)).1
  have hcl : cla A l p < A 9 0 := ((hI.ro l (by omega)).2 p hp).1
  have hT : 3 * cla A l p + g < 3 * A 9 0 := by omega
  have hca := c_X2_at (d := d + 1) (b0 := b0) (lt27 hW hI hl) hp
  rw [show rg A 16 (6 * l) 6 p = nI (cla A l p) by dsimp only [rg]; rw [if_pos (by omega)]] at hca
  refine CT.intro (by decide +kernel) rfl (Nat.le_of_ble_eq_true rfl) ?_
  show WP mX8_laidAt _ _ _ _ _ 0 0 0 [(0, .ref (ad 0 0)), (1, .ref (ad 27 l)), (2, .int (nI p)), (3, .ref (ad 29 e)), (4, .int (nI g))] []
  refine r_aload_n dX8_laidAt_0 rfl 0 rfl ?_
  refine r_aload_n dX8_laidAt_1 rfl 1 rfl ?_
  refine r_iload_n dX8_laidAt_2 rfl 2 rfl ?_
  refine r_callV (st := [.ref (ad 0 0)]) [.int (nI p)] 0 0 dX8_laidAt_3 kX2_at nX2_at lRX8_235 (hW.g 27 l hl) rfl hca rfl rfl (Nat.le_of_ble_eq_true rfl) (Nat.le_refl _) (Nat.le_refl _) (fun _ _ h => h.elim) ?_
  refine cx_det (st2 := [.int (nI (cla A l p)), .ref (ad 0 0)]) rfl ?_
  refine r_callV (st := []) [.int (nI (cla A l p))] 0 0 dX8_laidAt_6 kX8_clauseAt nX8_clauseAt lRX8_163 (hW.g 0 0 rfl) rfl (c_X8_clauseAt_t hW hI hcl) rfl rfl (Nat.le_of_ble_eq_true rfl) (Nat.le_refl _) (Nat.le_refl _) (fun _ _ h => h.elim) ?_
  refine cx_det (st2 := [.ref (ad 21 (cla A l p))]) rfl ?_
  refine r_astore [(5, .ref (ad 21 (cla A l p))), (0, .ref (ad 0 0)), (1, .ref (ad 27 l)), (2, .int (nI p)), (3, .ref (ad 29 e)), (4, .int (nI g))] dX8_laidAt_9 (by decide) rfl ?_
  refine r_aload dX8_laidAt_11 0 rfl ?_
  refine r_ifnullR dX8_laidAt_13 ?_
  refine r_aload_n dX8_laidAt_16 rfl 4 rfl ?_
  refine r_aload dX8_laidAt_17 0 rfl ?_
  refine r_callV (st := [.ref (ad 29 e)]) [] 0 0 dX8_laidAt_19 kX0_condition nX0_condition lRX8_300 (hW.g 21 (cla A l p) hcl) rfl (c_X0_condition hW hI hcl) rfl rfl (Nat.le_of_ble_eq_true rfl) (Nat.le_refl _) (Nat.le_refl _) (fun _ _ h => h.elim) ?_
  refine cx_det (st2 := [.int (nI (A 10 (cla A l p)) - 1), .ref (ad 29 e)]) rfl ?_
  refine r_callV (st := []) [.int (nI (A 10 (cla A l p)) - 1)] 0 0 dX8_laidAt_22 kX1_meets nX1_meets lRX8_303 (hW.g 29 e he) rfl (c_meets hW he (cla A l p)) rfl rfl (Nat.le_of_ble_eq_true rfl) (Nat.le_refl _) (Nat.le_refl _) (fun _ _ h => h.elim) ?_
  refine cx_det (st2 := [.int (b2i (meB A e (cla A l p)))]) rfl ?_
  refine r_if_ne 30 dX8_laidAt_25 (by decide) (fun c_1 => ?_) (fun c_1 => absurd c_1 (b2i_no hm))
  refine r_aload dX8_laidAt_30 0 rfl ?_
  refine r_iload dX8_laidAt_32 5 rfl ?_
  refine r_callV (st := []) [.int (nI g)] 0 0 dX8_laidAt_34 kX0_templateIn nX0_templateIn lRX8_278 (hW.g 21 (cla A l p) hcl) rfl (c_X0_templateIn_t hW hI hcl hg) rfl rfl (Nat.le_of_ble_eq_true rfl) (Nat.le_refl _) (Nat.le_refl _) (fun _ _ h => h.elim) ?_
  refine cx_det (st2 := [.ref (ad 24 (3 * (cla A l p) + g))]) rfl ?_
  refine r_astore [(6, .ref (ad 24 (3 * (cla A l p) + g))), (5, .ref (ad 21 (cla A l p))), (0, .ref (ad 0 0)), (1, .ref (ad 27 l)), (2, .int (nI p)), (3, .ref (ad 29 e)), (4, .int (nI g))] dX8_laidAt_37 (by decide) rfl ?_
  refine r_aload dX8_laidAt_39 0 rfl ?_
  refine r_ifnullR dX8_laidAt_41 ?_
  refine r_aload dX8_laidAt_44 0 rfl ?_
  refine r_callV (st := []) [] 0 0 dX8_laidAt_46 kX6_isThere nX6_isThere lRX8_151 (hW.g 24 (3 * (cla A l p) + g) hT) rfl (c_X6_isThere (tp24 hW hI hT)) rfl rfl (Nat.le_of_ble_eq_true rfl) (Nat.le_refl _) (Nat.le_refl _) (fun _ _ h => h.elim) ?_
  refine cx_det (st2 := [.int (b2i (decide (0 < A 12 (3 * (cla A l p) + g))))]) rfl ?_
  refine r_if_eq 57 dX8_laidAt_49 (by decide) (fun c_2 => ?_) (fun c_2 => absurd (b2i_z (decide_eq_false hn)) c_2)
  refine r_null dX8_laidAt_57 ?_
  refine r_aret dX8_laidAt_58 rfl (Or.inl ⟨_, rfl⟩) (Or.inl rfl) ?_
  exact ⟨rfl, rfl⟩
theorem c_X8_laidAt_f {d b0 : Nat} {G : GH} {A B : ST} {ad : AD} (hW : World A B ad G) (hI : Inv A) {l e g p : Nat} (hl : l < A 15 0) (he : e < A 18 0) (hg : g < 3) (hp : p < A 17 l) (h : isL A l e g p = false) : CTd mX8_laidAt (d + 3) b0 G [.ref (ad 0 0), .ref (ad 27 l), .int (nI p), .ref (ad 29 e), .int (nI g)] 0 0 (some .null) G := by
  cases h1 : meB A e (cla A l p) with
  | false => exact c_X8_laidAt_f1 hW hI hl he hg hp h1
  | true =>
    refine c_X8_laidAt_f2 hW hI hl he hg hp h1 (fun q => ?_)
    unfold isL at h
    rw [h1, decide_eq_true (by omega)] at h
    cases h
theorem isL_pg {A : ST} {L : List Nat} {l e g p : Nat} : isL (pgS A L) l e g p = isL A l e g p := by
  unfold isL meB meI cla
  rw [pgS_f (f := 20) (by decide), pgS_f (f := 16) (by decide), pgS_f (f := 10) (by decide), pgS_f (f := 12) (by decide)]
