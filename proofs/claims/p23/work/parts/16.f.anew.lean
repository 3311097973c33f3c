theorem rg_sk {A : ST} {x y z f b n : Nat} (h : f < 22) : rg (skA A x y z) f b n = rg A f b n := by unfold rg; rw [skA_f h]
theorem frL_sk {A : ST} {x y z l w g : Nat} : frL (skA A x y z) l w g = frL A l w g := by
  unfold frL kpA
  rw [rg_sk (by decide), rg_sk (by decide), skA_f (f := 8) (by decide), skA_f (f := 4) (by decide), skA_f (f := 6) (by decide)]
theorem frI_sk {A : ST} {x y z l w g p : Nat} : frI (skA A x y z) l w g p = frI A l w g p := by
  unfold frI kpA
  rw [rg_sk (f := 3) (by decide), rg_sk (f := 5) (by decide), rg_sk (f := 7) (by decide), skA_f (f := 8) (by decide), skA_f (f := 4) (by decide), skA_f (f := 6) (by decide)]
theorem isL_sk {A : ST} {x y z l e g p : Nat} : isL (skA A x y z) l e g p = isL A l e g p := by
  unfold isL meB meI cla
  rw [skA_f (f := 20) (by decide), skA_f (f := 16) (by decide), skA_f (f := 10) (by decide), skA_f (f := 12) (by decide)]
section SKL
variable {d b0 : Nat} {A B : ST} {ad : AD} {G : GH} {x y z : Nat}
theorem c_fls (hW : World (skA A x y z) B ad G) (hI : Inv A) {l w g : Nat} (hl : l < 3) (hw : w < A 2 0) (hg : g < 8) : CTd mX7_formLength (d + 2) b0 G [.ref (ad 3 0), .int (nI l), .int (nI w), .int (nI g)] 0 0 (some (.int (nI (fmL A l w g).length))) G := by
  rw [fmL_len, ← frL_sk (x := x) (y := y) (z := z)]
  exact c_X7_formLength hW (hI.sk x y z) hl (by rw [skA_f (f := 2) (by decide)]; exact hw) hg
theorem c_fss (hW : World (skA A x y z) B ad G) (hI : Inv A) {l w g : Nat} (hl : l < 3) (hw : w < A 2 0) (hg : g < 8) {p : Nat} (hp : p < 2 ^ 31) : CTd mX7_formSign (d + 2) b0 G [.ref (ad 3 0), .int (nI l), .int (nI w), .int (nI g), .int (nI p)] 0 0 (some (.int (nI ((fmL A l w g).getD p 0)))) G := by
  rw [← fmL_get hI hl hw hg, ← frI_sk (x := x) (y := y) (z := z)]
  exact c_X7_formSign hW (hI.sk x y z) hl (by rw [skA_f (f := 2) (by decide)]; exact hw) hg hp
theorem tps (hW : World (skA A x y z) B ad G) (hI : Inv A) {i : Nat} (hi : i < 3 * A 9 0) : TP G (ad 24 i) (ad 25 i) (ad 26 i) (A 12 i) (rg A 11 (60 * i) 60) (nI (A 13 i)) := by
  have h := tp24 hW (hI.sk x y z) (i := i) (by rw [skA_f (f := 9) (by decide)]; exact hi)
  rw [rg_sk (by decide), skA_f (f := 12) (by decide), skA_f (f := 13) (by decide)] at h
  exact h
theorem dts (hW : World (skA A x y z) B ad G) {i : Nat} (hi : i < A 18 0) : DT G (ad 29 i) (ad 30 i) (nI (A 20 i)) (rg A 19 (5 * i) 5) := by
  have h := dt29 hW (i := i) (by rw [skA_f (f := 18) (by decide)]; exact hi)
  rw [rg_sk (by decide), skA_f (f := 20) (by decide)] at h
  exact h
theorem lts (hW : World (skA A x y z) B ad G) (hI : Inv A) {i : Nat} (hi : i < A 15 0) : LT G (ad 27 i) (ad 28 i) (A 17 i) (rg A 16 (6 * i) 6) := by
  have h := lt27 hW (hI.sk x y z) (i := i) (by rw [skA_f (f := 15) (by decide)]; exact hi)
  rw [rg_sk (by decide), skA_f (f := 17) (by decide)] at h
  exact h
theorem c_las_t (hW : World (skA A x y z) B ad G) (hI : Inv A) {l e g p : Nat} (hl : l < A 15 0) (he : e < A 18 0) (hg : g < 3) (hp : p < A 17 l) (h : isL A l e g p = true) : CTd mX8_laidAt (d + 3) b0 G [.ref (ad 0 0), .ref (ad 27 l), .int (nI p), .ref (ad 29 e), .int (nI g)] 0 0 (some (.ref (ad 24 (3 * cla A l p + g)))) G := by
  have h1 := c_X8_laidAt_t (d := d) (b0 := b0) hW (hI.sk x y z) (l := l) (e := e) (g := g) (p := p) (by rw [skA_f (f := 15) (by decide)]; exact hl) (by rw [skA_f (f := 18) (by decide)]; exact he) hg (by rw [skA_f (f := 17) (by decide)]; exact hp) (by rw [isL_sk]; exact h)
  have h2 : cla (skA A x y z) l p = cla A l p := by unfold cla; rw [skA_f (f := 16) (by decide)]
  rw [h2] at h1
  exact h1
theorem c_las_f (hW : World (skA A x y z) B ad G) (hI : Inv A) {l e g p : Nat} (hl : l < A 15 0) (he : e < A 18 0) (hg : g < 3) (hp : p < A 17 l) (h : isL A l e g p = false) : CTd mX8_laidAt (d + 3) b0 G [.ref (ad 0 0), .ref (ad 27 l), .int (nI p), .ref (ad 29 e), .int (nI g)] 0 0 (some .null) G :=
  c_X8_laidAt_f hW (hI.sk x y z) (by rw [skA_f (f := 15) (by decide)]; exact hl) (by rw [skA_f (f := 18) (by decide)]; exact he) hg (by rw [skA_f (f := 17) (by decide)]; exact hp) (by rw [isL_sk]; exact h)
end SKL
set_option maxRecDepth 100000 in
set_option maxHeartbeats 1000000 in
theorem lp_X8_seekTemplate {d b0 : Nat} {G : GH} {A B : ST} {ad : AD} {L : List Nat} (hI : Inv A) {t e g k : Nat} (ht : t < 3 * A 9 0) (he : e < A 18 0) (hg : g < 3) (hk : k < 2 ^ 31) (hlen : L.length ≤ 1013) : ∀ (fu : Nat) (i : Nat) (Y : List Nat) (G2 : GH), i ≤ A 12 t ∧ pw (fun k => A 11 (60 * t + k)) i = 0 ∧ Y ++ txL A t e g 60 i = txL A t e g 60 0 ∧ SkW A B ad G2 k (L ++ Y) → A 12 t - i < fu → WP mX8_seekTemplate (d + 4) b0 (fun r G' => r = none ∧ ∃ X R : List Nat, X ++ R = txL A t e g 60 0 ∧ SkW A B ad G' k (L ++ X) ∧ (R = [] ∨ k < (L ++ X).length)) (fun _ _ => False) G2 0 0 3 [(4, .int (nI i)), (0, .ref (ad 0 0)), (1, .ref (ad 24 t)), (2, .ref (ad 29 e)), (3, .int (nI g))] [] := by
  intro fu
  induction fu with
  | zero => intro i Y G2 hinv hn; exact absurd hn (Nat.not_lt_zero _)
  | succ fu ih =>
    intro i Y G2 hinv hn
    have hb9 := hI.b9
    have htx := hI.tx t (by omega)
    have hok := txL_ok hI (t := t) (e := e) (g := g) (by omega) he hg 60 0 rfl (Nat.zero_le _)
    have hYl : Y.length ≤ (txL A t e g 60 0).length := by rw [← hinv.2.2.1, List.length_append]; omega
    have hW_30 := hinv.2.2.2
    obtain ⟨o_1, ho_2, hW_3⟩ := hW_30
    refine r_iload dX8_seekTemplate_3 0 rfl ?_
    refine r_aload_n dX8_seekTemplate_5 rfl 2 rfl ?_
    refine r_callV (st := [.int (nI i)]) [] 0 0 dX8_seekTemplate_6 kX6_length nX6_length lRX8_325 (hW_3.g 24 t ht) rfl (c_X6_length (tps hW_3 hI ht)) rfl rfl (Nat.le_of_ble_eq_true rfl) (Nat.le_refl _) (Nat.le_refl _) (fun _ _ h => h.elim) ?_
    refine cx_det (st2 := [.int (nI (A 12 t)), .int (nI i)]) rfl ?_
    refine r_icmp_ge 118 dX8_seekTemplate_9 (by decide) (fun c_4 => ?_) (fun c_4 => ?_)
    · refine r_vret dX8_seekTemplate_118 rfl ?_
      have hi : A 12 t ≤ i := ni_le (by omega) (by omega) c_4
      exact ⟨rfl, Y, [], by rw [← hinv.2.2.1, txL_end hi], hinv.2.2.2, Or.inl rfl⟩
    · have hi : i < A 12 t := ni_nle (by omega) (by omega) c_4
      refine r_aload_n dX8_seekTemplate_12 rfl 1 rfl ?_
      refine r_get 7 dX8_seekTemplate_13 fRX8_57 (hW_3.g 0 0 rfl) rfl ?_
      refine r_callV (st := []) [] 0 0 dX8_seekTemplate_16 kX4_isDone nX4_isDone lRX8_347 (hW_3.g 14 0 rfl) rfl (c_skdone hk (by rw [List.length_append]; omega) hinv.2.2.2) rfl rfl (Nat.le_of_ble_eq_true rfl) (Nat.le_refl _) (Nat.le_refl _) (fun _ _ h => h.elim) ?_
      refine cx_det (st2 := [.int (b2i (decide (k < (L ++ Y).length)))]) rfl ?_
      refine r_if_ne 118 dX8_seekTemplate_19 (by decide) (fun c_5 => ?_) (fun c_5 => ?_)
      · refine r_vret dX8_seekTemplate_118 rfl ?_
        exact ⟨rfl, Y, _, hinv.2.2.1, hinv.2.2.2, Or.inr (of_decide_eq_true (b2i_n0 c_5))⟩
      · have hle : (L ++ Y).length ≤ k := by
          have h9 := of_decide_eq_false (b2i_0 c_5)
          omega
        have hlen2 : (L ++ Y).length < 1500 := by rw [List.length_append]; omega
        refine r_aload_n dX8_seekTemplate_22 rfl 2 rfl ?_
        refine r_iload dX8_seekTemplate_23 0 rfl ?_
        have hisl := c_X6_isSlot_n (d := d + 2) (b0 := b0) (tps hW_3 hI ht) (fun k _ => rg_C hI.ch.2.2.2.2 k) (k := i) (by omega)
        rw [slB_txs hI (by omega) hi] at hisl
        refine r_callV (st := []) [.int (nI i)] 0 0 dX8_seekTemplate_25 kX6_isSlot nX6_isSlot lRX8_326 (hW_3.g 24 t ht) rfl hisl rfl rfl (Nat.le_of_ble_eq_true rfl) (Nat.le_refl _) (Nat.le_refl _) (fun _ _ h => h.elim) ?_
        refine cx_det (st2 := [.int (b2i (decide (txs A t i = 91)))]) rfl ?_
        refine r_if_eq 99 dX8_seekTemplate_28 (by decide) (fun c_6 => ?_) (fun c_6 => ?_)
        · have h91 : txs A t i ≠ 91 := of_decide_eq_false (b2i_0 c_6)
          obtain ⟨p1, p2⟩ := pw_plain hinv.2.1 h91 htx.2.2 hi
          refine r_aload_n dX8_seekTemplate_99 rfl 1 rfl ?_
          refine r_get 7 dX8_seekTemplate_100 fRX8_57 (hW_3.g 0 0 rfl) rfl ?_
          refine r_aload_n dX8_seekTemplate_103 rfl 2 rfl ?_
          refine r_iload dX8_seekTemplate_104 0 rfl ?_
          have hat := c_X6_at_n (d := d + 2) (b0 := b0) (tps hW_3 hI ht) (fun k _ => rg_C hI.ch.2.2.2.2 k) (k := i) (by omega)
          rw [chr_txs hI (by omega) hi] at hat
          refine r_callV (st := [.ref (ad 14 0)]) [.int (nI i)] 0 0 dX8_seekTemplate_106 kX6_at nX6_at lRX8_338 (hW_3.g 24 t ht) rfl hat rfl rfl (Nat.le_of_ble_eq_true rfl) (Nat.le_refl _) (Nat.le_refl _) (fun _ _ h => h.elim) ?_
          refine cx_det (st2 := [.int (nI (txs A t i)), .ref (ad 14 0)]) rfl ?_
          refine r_callV (st := []) [.int (nI (txs A t i))] 0 0 dX8_seekTemplate_109 kX4_pass nX4_pass lRX8_350 (hW_3.g 14 0 rfl) rfl (c_skpass hk p1 hinv.2.2.2 hle (by omega)) rfl rfl (Nat.le_of_ble_eq_true rfl) (Nat.le_refl _) (Nat.le_refl _) (fun _ _ h => h.elim) ?_
          intro r G_7 hr
          obtain ⟨rfl, hS_8⟩ := hr
          rw [List.append_assoc] at hS_8
          have hW_110 := hS_8
          obtain ⟨o_9, ho_10, hW_11⟩ := hW_110
          refine r_iinc (nI (i + 1)) [(4, .int (nI (i + 1))), (0, .ref (ad 0 0)), (1, .ref (ad 24 t)), (2, .ref (ad 29 e)), (3, .int (nI g))] dX8_seekTemplate_112 0 rfl (nI_1 i) (by decide) rfl ?_
          refine r_goto 3 dX8_seekTemplate_115 (by decide) ?_
          exact WP.loc [0, 1, 2, 3, 4] rfl ((ih (i + 1) _ _ ⟨by omega, p2, by rw [List.append_assoc, ← hinv.2.2.1, txL_sign hI (by omega) hi h91]; rfl, hS_8⟩ (by omega)))
        · have h91 : txs A t i = 91 := of_decide_eq_true (b2i_n0 c_6)
          obtain ⟨p1, p2, p3, p4, p5, p6⟩ := pw_slot hinv.2.1 h91 htx.2.2 hi
          have hw : txw A t e i < A 2 0 := (hI.da e he).2 _ (by have q := p2; show A 11 (60 * t + (i + 1)) - 48 < 5; omega)
          have hsl : txs A t (i + 1) - 48 < 5 := by have q := p2; show A 11 (60 * t + (i + 1)) - 48 < 5; omega
          have hz11 : ∀ k, k < A 12 t → isC (rg A 11 (60 * t) 60 k) := fun k _ => rg_C hI.ch.2.2.2.2 k
          have hslot := c_X6_slotAt_n (d := d + 2) (b0 := b0) (tps hW_3 hI ht) hz11 (k := i) (by omega)
          rw [chr_txs hI (by omega) (show i + 1 < A 12 t by omega), slo_n p2] at hslot
          have hword := c_X1_wordOf (d := d + 2) (b0 := b0) (dts hW_3 he) hsl
          rw [show rg A 19 (5 * e) 5 (txs A t (i + 1) - 48) = nI (txw A t e i) by dsimp only [rg]; rw [if_pos hsl]] at hword
          have hgram := c_X6_grammarAt_n (d := d + 2) (b0 := b0) (tps hW_3 hI ht) hz11 (k := i) (by omega)
          rw [gra_txs hI (by omega) p1 p3 p4] at hgram
          refine r_aload_n dX8_seekTemplate_31 rfl 3 rfl ?_
          refine r_aload_n dX8_seekTemplate_32 rfl 2 rfl ?_
          refine r_iload dX8_seekTemplate_33 0 rfl ?_
          refine r_callV (st := [.ref (ad 29 e)]) [.int (nI i)] 0 0 dX8_seekTemplate_35 kX6_slotAt nX6_slotAt lRX8_329 (hW_3.g 24 t ht) rfl hslot rfl rfl (Nat.le_of_ble_eq_true rfl) (Nat.le_refl _) (Nat.le_refl _) (fun _ _ h => h.elim) ?_
          refine cx_det (st2 := [.int (nI (txs A t (i + 1) - 48)), .ref (ad 29 e)]) rfl ?_
          refine r_callV (st := []) [.int (nI (txs A t (i + 1) - 48))] 0 0 dX8_seekTemplate_38 kX1_wordOf nX1_wordOf lRX8_220 (hW_3.g 29 e he) rfl hword rfl rfl (Nat.le_of_ble_eq_true rfl) (Nat.le_refl _) (Nat.le_refl _) (fun _ _ h => h.elim) ?_
          refine cx_det (st2 := [.int (nI (txw A t e i))]) rfl ?_
          refine r_istore [(5, .int (nI (txw A t e i))), (4, .int (nI i)), (0, .ref (ad 0 0)), (1, .ref (ad 24 t)), (2, .ref (ad 29 e)), (3, .int (nI g))] dX8_seekTemplate_41 (by decide) rfl ?_
          refine r_aload_n dX8_seekTemplate_43 rfl 3 rfl ?_
          refine r_iload dX8_seekTemplate_44 1 rfl ?_
          refine r_callV (st := []) [.int (nI i)] 0 0 dX8_seekTemplate_46 kX6_grammarAt nX6_grammarAt lRX8_332 (hW_3.g 24 t ht) rfl hgram rfl rfl (Nat.le_of_ble_eq_true rfl) (Nat.le_refl _) (Nat.le_refl _) (fun _ _ h => h.elim) ?_
          refine cx_det (st2 := [.int (nI (txg A t i))]) rfl ?_
          refine r_istore [(6, .int (nI (txg A t i))), (5, .int (nI (txw A t e i))), (4, .int (nI i)), (0, .ref (ad 0 0)), (1, .ref (ad 24 t)), (2, .ref (ad 29 e)), (3, .int (nI g))] dX8_seekTemplate_49 (by decide) rfl ?_
          refine r_aload_n dX8_seekTemplate_51 rfl 3 rfl ?_
          refine r_get 1 dX8_seekTemplate_52 fRX8_21 (hW_3.g 0 0 rfl) rfl ?_
          refine r_iload_n dX8_seekTemplate_55 rfl 6 rfl ?_
          refine r_iload dX8_seekTemplate_56 1 rfl ?_
          refine r_iload dX8_seekTemplate_58 0 rfl ?_
          refine r_aload_n dX8_seekTemplate_60 rfl 3 rfl ?_
          refine r_get 7 dX8_seekTemplate_61 fRX8_57 (hW_3.g 0 0 rfl) rfl ?_
          refine r_callV (st := [.int (nI (txg A t i)), .int (nI (txw A t e i)), .int (nI g), .ref (ad 3 0)]) [] 0 0 dX8_seekTemplate_64 kX4_left nX4_left lRX8_356 (hW_3.g 14 0 rfl) rfl (c_skleft hinv.2.2.2 hle) rfl rfl (Nat.le_of_ble_eq_true rfl) (Nat.le_refl _) (Nat.le_refl _) (fun _ _ h => h.elim) ?_
          refine cx_det (st2 := [.int (nI (k - (L ++ Y).length)), .int (nI (txg A t i)), .int (nI (txw A t e i)), .int (nI g), .ref (ad 3 0)]) rfl ?_
          refine r_callV (st := []) [.int (nI g), .int (nI (txw A t e i)), .int (nI (txg A t i)), .int (nI (k - (L ++ Y).length))] 0 0 dX8_seekTemplate_67 kX7_formSign nX7_formSign lRX8_343 (hW_3.g 3 0 rfl) rfl (c_fss hW_3 hI hg hw (txg_lt A t i) (show k - (L ++ Y).length < 2147483648 by omega)) rfl rfl (Nat.le_of_ble_eq_true rfl) (Nat.le_refl _) (Nat.le_refl _) (fun _ _ h => h.elim) ?_
          refine cx_det (st2 := [.int (nI ((fmL A g (txw A t e i) (txg A t i)).getD (k - (L ++ Y).length) 0))]) rfl ?_
          refine r_istore [(7, .int (nI ((fmL A g (txw A t e i) (txg A t i)).getD (k - (L ++ Y).length) 0))), (6, .int (nI (txg A t i))), (5, .int (nI (txw A t e i))), (4, .int (nI i)), (0, .ref (ad 0 0)), (1, .ref (ad 24 t)), (2, .ref (ad 29 e)), (3, .int (nI g))] dX8_seekTemplate_70 (by decide) rfl ?_
          refine r_aload_n dX8_seekTemplate_72 rfl 4 rfl ?_
          refine r_get 7 dX8_seekTemplate_73 fRX8_57 (hW_3.g 0 0 rfl) rfl ?_
          refine r_aload_n dX8_seekTemplate_76 rfl 4 rfl ?_
          refine r_get 1 dX8_seekTemplate_77 fRX8_21 (hW_3.g 0 0 rfl) rfl ?_
          refine r_iload_n dX8_seekTemplate_80 rfl 7 rfl ?_
          refine r_iload dX8_seekTemplate_81 2 rfl ?_
          refine r_iload dX8_seekTemplate_83 1 rfl ?_
          refine r_callV (st := [.ref (ad 14 0)]) [.int (nI g), .int (nI (txw A t e i)), .int (nI (txg A t i))] 0 0 dX8_seekTemplate_85 kX7_formLength nX7_formLength lRX8_339 (hW_3.g 3 0 rfl) rfl (c_fls hW_3 hI hg hw (txg_lt A t i)) rfl rfl (Nat.le_of_ble_eq_true rfl) (Nat.le_refl _) (Nat.le_refl _) (fun _ _ h => h.elim) ?_
          refine cx_det (st2 := [.int (nI (fmL A g (txw A t e i) (txg A t i)).length), .ref (ad 14 0)]) rfl ?_
          refine r_iload dX8_seekTemplate_88 0 rfl ?_
          refine r_callV (st := []) [.int (nI (fmL A g (txw A t e i) (txg A t i)).length), .int (nI ((fmL A g (txw A t e i) (txg A t i)).getD (k - (L ++ Y).length) 0))] 0 0 dX8_seekTemplate_90 kX4_passForm nX4_passForm lRX8_359 (hW_3.g 14 0 rfl) rfl (c_skform hk (fmL_sml hI hg hw (txg_lt A t i)) (fun q => by have h9 := fmL_pos hI hg hw (txg_lt A t i); rw [q] at h9; exact absurd h9 (by decide)) (fmL_le hI hg hw (txg_lt A t i)) hinv.2.2.2 hle hlen2) rfl rfl (Nat.le_of_ble_eq_true rfl) (Nat.le_refl _) (Nat.le_refl _) (fun _ _ h => h.elim) ?_
          intro r G_15 hr
          obtain ⟨rfl, hS_16⟩ := hr
          rw [List.append_assoc] at hS_16
          have hW_190 := hS_16
          obtain ⟨o_17, ho_18, hW_19⟩ := hW_190
          refine r_iinc (nI (i + 4)) [(4, .int (nI (i + 4))), (7, .int (nI ((fmL A g (txw A t e i) (txg A t i)).getD (k - (L ++ Y).length) 0))), (6, .int (nI (txg A t i))), (5, .int (nI (txw A t e i))), (0, .ref (ad 0 0)), (1, .ref (ad 24 t)), (2, .ref (ad 29 e)), (3, .int (nI g))] dX8_seekTemplate_93 3 rfl (nI_add i 4) (by decide) rfl ?_
          refine r_goto 112 dX8_seekTemplate_96 (by decide) ?_
          refine r_iinc (nI (i + 5)) [(4, .int (nI (i + 5))), (7, .int (nI ((fmL A g (txw A t e i) (txg A t i)).getD (k - (L ++ Y).length) 0))), (6, .int (nI (txg A t i))), (5, .int (nI (txw A t e i))), (0, .ref (ad 0 0)), (1, .ref (ad 24 t)), (2, .ref (ad 29 e)), (3, .int (nI g))] dX8_seekTemplate_112 0 rfl (nI_1 (i + 4)) (by decide) rfl ?_
          refine r_goto 3 dX8_seekTemplate_115 (by decide) ?_
          exact WP.loc [0, 4, 5, 6, 7] rfl (ih (i + 5) _ _ ⟨p1, p6, by rw [List.append_assoc, ← hinv.2.2.1, txL_slot hI (by omega) hi h91], hS_16⟩ (by omega))
set_option maxRecDepth 100000 in
set_option maxHeartbeats 1000000 in
theorem c_seekTemplate {d b0 : Nat} {G : GH} {A B : ST} {ad : AD} {L : List Nat} (hI : Inv A) {t e g k : Nat} (ht : t < 3 * A 9 0) (he : e < A 18 0) (hg : g < 3) (hk : k < 2 ^ 31) (hlen : L.length ≤ 1013) (hS : SkW A B ad G k L) : CT mX8_seekTemplate (d + 4) b0 G [.ref (ad 0 0), .ref (ad 24 t), .ref (ad 29 e), .int (nI g)] 0 0 (fun r G' => r = none ∧ ∃ X R : List Nat, X ++ R = txL A t e g 60 0 ∧ SkW A B ad G' k (L ++ X) ∧ (R = [] ∨ k < (L ++ X).length)) (fun _ _ => False) := by
  refine CT.intro (by decide +kernel) rfl (Nat.le_of_ble_eq_true rfl) ?_
  show WP mX8_seekTemplate _ _ _ _ _ 0 0 0 [(0, .ref (ad 0 0)), (1, .ref (ad 24 t)), (2, .ref (ad 29 e)), (3, .int (nI g))] []
  refine r_iconst (v := nI 0) dX8_seekTemplate_0 (by decide) ?_
  refine r_istore [(4, .int (nI 0)), (0, .ref (ad 0 0)), (1, .ref (ad 24 t)), (2, .ref (ad 29 e)), (3, .int (nI g))] dX8_seekTemplate_1 (by decide) rfl ?_
  exact lp_X8_seekTemplate (G := G) hI ht he hg hk hlen _ 0 [] _ ⟨Nat.zero_le _, rfl, rfl, by rw [List.append_nil]; exact hS⟩ (Nat.lt_succ_self _)
