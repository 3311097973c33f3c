def lsB (B : ST) (w e : Nat) : Bool := voB (chr (rg B 3 (10 * w) 10) (B 4 w) (B 4 w - 1)) && voB (chr (rg B 5 (4 * e) 4) (B 6 e) 0)
theorem kpA_l {B : ST} {w e : Nat} : kpA B w e = if lsB B w e then B 4 w - 1 else B 4 w := rfl
theorem lsB_eq {B : ST} {w e : Nat} (h1 : 1 ≤ B 4 w) (h2 : B 4 w ≤ 10) (h3 : B 6 e ≤ 4) : lsB B w e = (voB (nI (B 3 (10 * w + B 4 w - 1))) && (decide (0 < B 6 e) && voB (nI (B 5 (4 * e))))) := by
  unfold lsB
  rw [chr_rg h2, if_pos (by omega), chr_rg h3, show 10 * w + (B 4 w - 1) = 10 * w + B 4 w - 1 by omega]
  by_cases h : 0 < B 6 e
  · rw [if_pos h, decide_eq_true h, Bool.true_and]; rfl
  · rw [if_neg h, decide_eq_false h, Bool.false_and]; rfl
theorem voB_t {x : Int32} (h : ¬ s_X9_isVowel x = 0) : voB x = true := by
  unfold voB
  rw [decide_eq_false (show ¬ s_X8_isVowel x = 0 from h)]; rfl
theorem voB_f {x : Int32} (h : s_X9_isVowel x = 0) : voB x = false := by
  unfold voB
  rw [decide_eq_true (show s_X8_isVowel x = 0 from h)]; rfl
theorem fmL_own {B : ST} {l w g : Nat} (h : 0 < B 8 (oix l w g)) : fmL B l w g = seg B 7 (10 * oix l w g) (B 8 (oix l w g)) := by unfold fmL; rw [if_neg (by omega)]
theorem fmL_stem {B : ST} {l w g : Nat} (h : ¬ 0 < B 8 (oix l w g)) : fmL B l w g = seg B 3 (10 * w) (kpA B w (l * 8 + g)) ++ seg B 5 (4 * (l * 8 + g)) (B 6 (l * 8 + g)) := by unfold fmL; rw [if_pos (by omega)]
set_option maxRecDepth 100000 in
set_option maxHeartbeats 4000000 in
theorem lp_own {d b0 : Nat} {G : GH} {A B : ST} {ad : AD} {L : List Nat} (hI : Inv B) {l w g : Nat} (hl : l < 3) (hw : w < B 2 0) (hg : g < 8) (hh : 0 < B 8 (oix l w g)) (hlen : L.length + (fmL B l w g).length ≤ 1050) : ∀ (fu : Nat) (p : Nat) (G2 : GH), p ≤ B 8 (oix l w g) ∧ World A (blS B (L ++ seg B 7 (10 * oix l w g) p)) ad G2 → B 8 (oix l w g) - p < fu → WP mX9_laysForm (d + 2) b0 (fun r G' => r = none ∧ World A (blS B (L ++ fmL B l w g)) ad G') (fun _ _ => False) G2 0 0 30 [(6, .int (nI p)), (5, .int (nI (oix l w g))), (4, .int (nI (l * 8 + g))), (0, .ref (ad 31 0)), (1, .int (nI w)), (2, .int (nI l)), (3, .int (nI g))] [] := by
  intro fu
  induction fu with
  | zero => intro p G2 hinv hn; exact absurd hn (Nat.not_lt_zero _)
  | succ fu ih =>
    intro p G2 hinv hn
    have hb2 := hI.b2
    have hox : oix l w g < 288 := by show (w * 3 + l) * 8 + g < 288; omega
    have how := hI.ow _ hox
    have hst := hI.st w hw
    have hen := hI.en (l * 8 + g) (by omega)
    have hkp : kpA B w (l * 8 + g) ≤ B 4 w := kep_le _ _ _ _
    rw [fmL_own hh, seg_len] at hlen
    refine r_iload dX9_laysForm_30 0 rfl ?_
    refine r_aload_n dX9_laysForm_32 rfl 3 rfl ?_
    refine r_get 8 dX9_laysForm_33 fRX9_29 (hinv.2.g 31 0 rfl) rfl ?_
    refine r_iload dX9_laysForm_36 1 rfl ?_
    refine r_iald dX9_laysForm_38 (hinv.2.g 32 8 rfl) (vp_in_nI hox (by decide)) ?_
    refine r_top (nI (B 8 (oix l w g))) (by rw [nI_cl (by omega)]; exact rgm hox) ?_
    refine r_icmp_ge 65 dX9_laysForm_39 (by decide) (fun c_1 => ?_) (fun c_1 => ?_)
    · refine r_vret dX9_laysForm_65 rfl ?_
      have hp : p = B 8 (oix l w g) := by have := ni_le (by omega) (by omega) c_1; omega
      have hq := hinv.2
      rw [hp, ← fmL_own hh] at hq
      exact ⟨rfl, hq⟩
    · have hp : p < B 8 (oix l w g) := ni_nle (by omega) (by omega) c_1
      have hx := hI.ch.2.2.2.1 (10 * oix l w g + p)
      refine r_aload_n dX9_laysForm_42 rfl 3 rfl ?_
      refine r_aload_n dX9_laysForm_43 rfl 3 rfl ?_
      refine r_get 7 dX9_laysForm_44 fRX9_26 (hinv.2.g 31 0 rfl) rfl ?_
      refine r_bipush (v := 10) dX9_laysForm_47 (by decide) ?_
      refine r_iload dX9_laysForm_49 1 rfl ?_
      refine r_imul dX9_laysForm_51 ?_
      refine r_top (nI (10 * oix l w g)) (pk_mul 10 _) ?_
      refine r_iload dX9_laysForm_52 0 rfl ?_
      refine r_iadd dX9_laysForm_54 ?_
      refine r_top (nI (10 * oix l w g + p)) (nI_add _ _) ?_
      refine r_cald dX9_laysForm_55 (hinv.2.g 32 7 rfl) (vp_in_nI (by omega) (by decide)) ?_
      refine r_top (nI (B 7 (10 * oix l w g + p))) (by rw [nI_cl (by omega)]; exact rgm (by omega)) ?_
      refine r_callV (st := []) [.int (nI (B 7 (10 * oix l w g + p)))] 0 0 dX9_laysForm_56 kX9_lays nX9_lays lRX9_158 (hinv.2.g 31 0 rfl) rfl (m_lay hinv.2 (by rw [List.length_append, seg_len]; omega) hx) rfl rfl (Nat.le_of_ble_eq_true rfl) (Nat.le_refl _) (Nat.le_refl _) (fun _ _ h => h.elim) ?_
      refine cx_val (st2 := []) rfl ?_
      intro G_2 hW_3
      have hW_4 : World A (blS B ((L ++ seg B 7 (10 * oix l w g) p) ++ [B 7 (10 * oix l w g + p)])) ad G_2 := hW_3
      refine r_iinc (nI (p + 1)) [(6, .int (nI (p + 1))), (5, .int (nI (oix l w g))), (4, .int (nI (l * 8 + g))), (0, .ref (ad 31 0)), (1, .int (nI w)), (2, .int (nI l)), (3, .int (nI g))] dX9_laysForm_59 0 rfl (nI_1 p) (by decide) rfl ?_
      refine r_goto 30 dX9_laysForm_62 (by decide) ?_
      have hq := hW_4
      rw [List.append_assoc, ← seg_s] at hq
      exact WP.loc [0, 1, 2, 3, 4, 5, 6] rfl (ih (p + 1) _ ⟨by omega, hq⟩ (by omega))
set_option maxRecDepth 100000 in
set_option maxHeartbeats 4000000 in
theorem lp_end {d b0 : Nat} {G : GH} {A B : ST} {ad : AD} {L : List Nat} (hI : Inv B) {l w g : Nat} (hl : l < 3) (hw : w < B 2 0) (hg : g < 8) (hh : ¬ 0 < B 8 (oix l w g)) {x : Int32} (hlen : L.length + (fmL B l w g).length ≤ 1050) : ∀ (fu : Nat) (p : Nat) (G2 : GH), p ≤ B 6 (l * 8 + g) ∧ World A (blS B ((L ++ seg B 3 (10 * w) (kpA B w (l * 8 + g))) ++ seg B 5 (4 * (l * 8 + g)) p)) ad G2 → B 6 (l * 8 + g) - p < fu → WP mX9_laysForm (d + 2) b0 (fun r G' => r = none ∧ World A (blS B (L ++ fmL B l w g)) ad G') (fun _ _ => False) G2 0 0 176 [(8, .int (nI p)), (7, .int (b2i (lsB B w (l * 8 + g)))), (6, .int x), (5, .int (nI (oix l w g))), (4, .int (nI (l * 8 + g))), (0, .ref (ad 31 0)), (1, .int (nI w)), (2, .int (nI l)), (3, .int (nI g))] [] := by
  intro fu
  induction fu with
  | zero => intro p G2 hinv hn; exact absurd hn (Nat.not_lt_zero _)
  | succ fu ih =>
    intro p G2 hinv hn
    have hb2 := hI.b2
    have hox : oix l w g < 288 := by show (w * 3 + l) * 8 + g < 288; omega
    have how := hI.ow _ hox
    have hst := hI.st w hw
    have hen := hI.en (l * 8 + g) (by omega)
    have hkp : kpA B w (l * 8 + g) ≤ B 4 w := kep_le _ _ _ _
    rw [fmL_stem hh, List.length_append, seg_len, seg_len] at hlen
    refine r_iload dX9_laysForm_176 0 rfl ?_
    refine r_aload_n dX9_laysForm_178 rfl 5 rfl ?_
    refine r_get 6 dX9_laysForm_179 fRX9_23 (hinv.2.g 31 0 rfl) rfl ?_
    refine r_iload dX9_laysForm_182 4 rfl ?_
    refine r_iald dX9_laysForm_184 (hinv.2.g 32 6 rfl) (vp_in_nI (by omega) (by decide)) ?_
    refine r_top (nI (B 6 (l * 8 + g))) (by rw [nI_cl (by omega)]; exact rgm (by omega)) ?_
    refine r_icmp_ge 210 dX9_laysForm_185 (by decide) (fun c_1 => ?_) (fun c_1 => ?_)
    · refine r_vret dX9_laysForm_210 rfl ?_
      have hp : p = B 6 (l * 8 + g) := by have := ni_le (by omega) (by omega) c_1; omega
      have hq := hinv.2
      rw [hp, List.append_assoc, ← fmL_stem hh] at hq
      exact ⟨rfl, hq⟩
    · have hp : p < B 6 (l * 8 + g) := ni_nle (by omega) (by omega) c_1
      have hx := hI.ch.2.2.1 (4 * (l * 8 + g) + p)
      refine r_aload_n dX9_laysForm_188 rfl 5 rfl ?_
      refine r_aload_n dX9_laysForm_189 rfl 5 rfl ?_
      refine r_get 5 dX9_laysForm_190 fRX9_20 (hinv.2.g 31 0 rfl) rfl ?_
      refine r_iconst (v := 4) dX9_laysForm_193 (by decide) ?_
      refine r_iload dX9_laysForm_194 4 rfl ?_
      refine r_imul dX9_laysForm_196 ?_
      refine r_top (nI (4 * (l * 8 + g))) (pk_mul 4 _) ?_
      refine r_iload dX9_laysForm_197 0 rfl ?_
      refine r_iadd dX9_laysForm_199 ?_
      refine r_top (nI (4 * (l * 8 + g) + p)) (nI_add _ _) ?_
      refine r_cald dX9_laysForm_200 (hinv.2.g 32 5 rfl) (vp_in_nI (by omega) (by decide)) ?_
      refine r_top (nI (B 5 (4 * (l * 8 + g) + p))) (by rw [nI_cl (by omega)]; exact rgm (by omega)) ?_
      refine r_callV (st := []) [.int (nI (B 5 (4 * (l * 8 + g) + p)))] 0 0 dX9_laysForm_201 kX9_lays nX9_lays lRX9_158 (hinv.2.g 31 0 rfl) rfl (m_lay hinv.2 (by rw [List.length_append, List.length_append, seg_len, seg_len]; omega) hx) rfl rfl (Nat.le_of_ble_eq_true rfl) (Nat.le_refl _) (Nat.le_refl _) (fun _ _ h => h.elim) ?_
      refine cx_val (st2 := []) rfl ?_
      intro G_2 hW_3
      have hW_4 : World A (blS B (((L ++ seg B 3 (10 * w) (kpA B w (l * 8 + g))) ++ seg B 5 (4 * (l * 8 + g)) p) ++ [B 5 (4 * (l * 8 + g) + p)])) ad G_2 := hW_3
      refine r_iinc (nI (p + 1)) [(8, .int (nI (p + 1))), (7, .int (b2i (lsB B w (l * 8 + g)))), (6, .int x), (5, .int (nI (oix l w g))), (4, .int (nI (l * 8 + g))), (0, .ref (ad 31 0)), (1, .int (nI w)), (2, .int (nI l)), (3, .int (nI g))] dX9_laysForm_204 0 rfl (nI_1 p) (by decide) rfl ?_
      refine r_goto 176 dX9_laysForm_207 (by decide) ?_
      have hq := hW_4
      rw [List.append_assoc, ← seg_s] at hq
      exact WP.loc [0, 1, 2, 3, 4, 5, 6, 7, 8] rfl (ih (p + 1) _ ⟨by omega, hq⟩ (by omega))
set_option maxRecDepth 100000 in
set_option maxHeartbeats 4000000 in
theorem lp_stem {d b0 : Nat} {G : GH} {A B : ST} {ad : AD} {L : List Nat} (hI : Inv B) {l w g : Nat} (hl : l < 3) (hw : w < B 2 0) (hg : g < 8) (hh : ¬ 0 < B 8 (oix l w g)) {x : Int32} (hlen : L.length + (fmL B l w g).length ≤ 1050) : ∀ (fu : Nat) (p : Nat) (G2 : GH), p ≤ kpA B w (l * 8 + g) ∧ World A (blS B (L ++ seg B 3 (10 * w) p)) ad G2 → kpA B w (l * 8 + g) - p < fu → WP mX9_laysForm (d + 2) b0 (fun r G' => r = none ∧ World A (blS B (L ++ fmL B l w g)) ad G') (fun _ _ => False) G2 0 0 129 [(8, .int (nI p)), (7, .int (b2i (lsB B w (l * 8 + g)))), (6, .int x), (5, .int (nI (oix l w g))), (4, .int (nI (l * 8 + g))), (0, .ref (ad 31 0)), (1, .int (nI w)), (2, .int (nI l)), (3, .int (nI g))] [] := by
  intro fu
  induction fu with
  | zero => intro p G2 hinv hn; exact absurd hn (Nat.not_lt_zero _)
  | succ fu ih =>
    intro p G2 hinv hn
    have hb2 := hI.b2
    have hox : oix l w g < 288 := by show (w * 3 + l) * 8 + g < 288; omega
    have how := hI.ow _ hox
    have hst := hI.st w hw
    have hen := hI.en (l * 8 + g) (by omega)
    have hkp : kpA B w (l * 8 + g) ≤ B 4 w := kep_le _ _ _ _
    have hlen0 := hlen
    rw [fmL_stem hh, List.length_append, seg_len, seg_len] at hlen
    refine r_iload dX9_laysForm_129 0 rfl ?_
    refine r_aload_n dX9_laysForm_131 rfl 5 rfl ?_
    refine r_get 4 dX9_laysForm_132 fRX9_16 (hinv.2.g 31 0 rfl) rfl ?_
    refine r_iload_n dX9_laysForm_135 rfl 6 rfl ?_
    refine r_iald dX9_laysForm_136 (hinv.2.g 32 4 rfl) (vp_in_nI (by omega) (by decide)) ?_
    refine r_top (nI (B 4 w)) (by rw [nI_cl (by omega)]; exact rgm (by omega)) ?_
    refine r_iload dX9_laysForm_137 1 rfl ?_
    refine r_if_eq 146 dX9_laysForm_139 (by decide) (fun c_1 => ?_) (fun c_1 => ?_)
    · refine r_iconst (v := 0) dX9_laysForm_146 (by decide) ?_
      refine r_isub dX9_laysForm_147 ?_
      refine r_top (nI (kpA B w (l * 8 + g))) (by rw [kpA_l, b2i_0 c_1]; exact pk_sub (b := 0) (Nat.zero_le _)) ?_
      refine r_icmp_ge 173 dX9_laysForm_148 (by decide) (fun c_2 => ?_) (fun c_2 => ?_)
      · refine r_iconst (v := nI 0) dX9_laysForm_173 (by decide) ?_
        refine r_istore [(8, .int (nI 0)), (7, .int (b2i (lsB B w (l * 8 + g)))), (6, .int x), (5, .int (nI (oix l w g))), (4, .int (nI (l * 8 + g))), (0, .ref (ad 31 0)), (1, .int (nI w)), (2, .int (nI l)), (3, .int (nI g))] dX9_laysForm_174 (by decide) rfl ?_
        have hp : p = kpA B w (l * 8 + g) := by have := ni_le (by omega) (by omega) c_2; omega
        have hq := hinv.2
        rw [hp] at hq
        exact lp_end (G := G) hI hl hw hg hh hlen0 _ 0 _ ⟨Nat.zero_le _, by rw [seg_0, List.append_nil]; exact hq⟩ (Nat.lt_succ_self _)
      · have hp : p < kpA B w (l * 8 + g) := ni_nle (by omega) (by omega) c_2
        have hx := hI.ch.2.1 (10 * w + p)
        refine r_aload_n dX9_laysForm_151 rfl 5 rfl ?_
        refine r_aload_n dX9_laysForm_152 rfl 5 rfl ?_
        refine r_get 3 dX9_laysForm_153 fRX9_13 (hinv.2.g 31 0 rfl) rfl ?_
        refine r_bipush (v := 10) dX9_laysForm_156 (by decide) ?_
        refine r_iload_n dX9_laysForm_158 rfl 6 rfl ?_
        refine r_imul dX9_laysForm_159 ?_
        refine r_top (nI (10 * w)) (pk_mul 10 _) ?_
        refine r_iload dX9_laysForm_160 0 rfl ?_
        refine r_iadd dX9_laysForm_162 ?_
        refine r_top (nI (10 * w + p)) (nI_add _ _) ?_
        refine r_cald dX9_laysForm_163 (hinv.2.g 32 3 rfl) (vp_in_nI (by omega) (by decide)) ?_
        refine r_top (nI (B 3 (10 * w + p))) (by rw [nI_cl (by omega)]; exact rgm (by omega)) ?_
        refine r_callV (st := []) [.int (nI (B 3 (10 * w + p)))] 0 0 dX9_laysForm_164 kX9_lays nX9_lays lRX9_158 (hinv.2.g 31 0 rfl) rfl (m_lay hinv.2 (by rw [List.length_append, seg_len]; omega) hx) rfl rfl (Nat.le_of_ble_eq_true rfl) (Nat.le_refl _) (Nat.le_refl _) (fun _ _ h => h.elim) ?_
        refine cx_val (st2 := []) rfl ?_
        intro G_4 hW_5
        have hW_6 : World A (blS B ((L ++ seg B 3 (10 * w) p) ++ [B 3 (10 * w + p)])) ad G_4 := hW_5
        refine r_iinc (nI (p + 1)) [(8, .int (nI (p + 1))), (7, .int (b2i (lsB B w (l * 8 + g)))), (6, .int x), (5, .int (nI (oix l w g))), (4, .int (nI (l * 8 + g))), (0, .ref (ad 31 0)), (1, .int (nI w)), (2, .int (nI l)), (3, .int (nI g))] dX9_laysForm_167 0 rfl (nI_1 p) (by decide) rfl ?_
        refine r_goto 129 dX9_laysForm_170 (by decide) ?_
        have hq := hW_6
        rw [List.append_assoc, ← seg_s] at hq
        exact WP.loc [0, 1, 2, 3, 4, 5, 6, 7, 8] rfl (ih (p + 1) _ ⟨by omega, hq⟩ (by omega))
    · refine r_iconst (v := 1) dX9_laysForm_142 (by decide) ?_
      refine r_goto 147 dX9_laysForm_143 (by decide) ?_
      refine r_isub dX9_laysForm_147 ?_
      refine r_top (nI (kpA B w (l * 8 + g))) (by rw [kpA_l, b2i_n0 c_1]; exact pk_sub (b := 1) hst.1) ?_
      refine r_icmp_ge 173 dX9_laysForm_148 (by decide) (fun c_7 => ?_) (fun c_7 => ?_)
      · refine r_iconst (v := nI 0) dX9_laysForm_173 (by decide) ?_
        refine r_istore [(8, .int (nI 0)), (7, .int (b2i (lsB B w (l * 8 + g)))), (6, .int x), (5, .int (nI (oix l w g))), (4, .int (nI (l * 8 + g))), (0, .ref (ad 31 0)), (1, .int (nI w)), (2, .int (nI l)), (3, .int (nI g))] dX9_laysForm_174 (by decide) rfl ?_
        have hp : p = kpA B w (l * 8 + g) := by have := ni_le (by omega) (by omega) c_7; omega
        have hq := hinv.2
        rw [hp] at hq
        exact lp_end (G := G) hI hl hw hg hh hlen0 _ 0 _ ⟨Nat.zero_le _, by rw [seg_0, List.append_nil]; exact hq⟩ (Nat.lt_succ_self _)
      · have hp : p < kpA B w (l * 8 + g) := ni_nle (by omega) (by omega) c_7
        have hx := hI.ch.2.1 (10 * w + p)
        refine r_aload_n dX9_laysForm_151 rfl 5 rfl ?_
        refine r_aload_n dX9_laysForm_152 rfl 5 rfl ?_
        refine r_get 3 dX9_laysForm_153 fRX9_13 (hinv.2.g 31 0 rfl) rfl ?_
        refine r_bipush (v := 10) dX9_laysForm_156 (by decide) ?_
        refine r_iload_n dX9_laysForm_158 rfl 6 rfl ?_
        refine r_imul dX9_laysForm_159 ?_
        refine r_top (nI (10 * w)) (pk_mul 10 _) ?_
        refine r_iload dX9_laysForm_160 0 rfl ?_
        refine r_iadd dX9_laysForm_162 ?_
        refine r_top (nI (10 * w + p)) (nI_add _ _) ?_
        refine r_cald dX9_laysForm_163 (hinv.2.g 32 3 rfl) (vp_in_nI (by omega) (by decide)) ?_
        refine r_top (nI (B 3 (10 * w + p))) (by rw [nI_cl (by omega)]; exact rgm (by omega)) ?_
        refine r_callV (st := []) [.int (nI (B 3 (10 * w + p)))] 0 0 dX9_laysForm_164 kX9_lays nX9_lays lRX9_158 (hinv.2.g 31 0 rfl) rfl (m_lay hinv.2 (by rw [List.length_append, seg_len]; omega) hx) rfl rfl (Nat.le_of_ble_eq_true rfl) (Nat.le_refl _) (Nat.le_refl _) (fun _ _ h => h.elim) ?_
        refine cx_val (st2 := []) rfl ?_
        intro G_9 hW_10
        have hW_11 : World A (blS B ((L ++ seg B 3 (10 * w) p) ++ [B 3 (10 * w + p)])) ad G_9 := hW_10
        refine r_iinc (nI (p + 1)) [(8, .int (nI (p + 1))), (7, .int (b2i (lsB B w (l * 8 + g)))), (6, .int x), (5, .int (nI (oix l w g))), (4, .int (nI (l * 8 + g))), (0, .ref (ad 31 0)), (1, .int (nI w)), (2, .int (nI l)), (3, .int (nI g))] dX9_laysForm_167 0 rfl (nI_1 p) (by decide) rfl ?_
        refine r_goto 129 dX9_laysForm_170 (by decide) ?_
        have hq := hW_11
        rw [List.append_assoc, ← seg_s] at hq
        exact WP.loc [0, 1, 2, 3, 4, 5, 6, 7, 8] rfl (ih (p + 1) _ ⟨by omega, hq⟩ (by omega))
set_option maxRecDepth 100000 in
set_option maxHeartbeats 4000000 in
theorem m_laysForm {d b0 : Nat} {G : GH} {A B : ST} {ad : AD} {L : List Nat} (hW : World A (blS B L) ad G) (hI : Inv B) {l w g : Nat} (hl : l < 3) (hw : w < B 2 0) (hg : g < 8) (hlen : L.length + (fmL B l w g).length ≤ 1050) : CT mX9_laysForm (d + 2) b0 G [.ref (ad 31 0), .int (nI w), .int (nI l), .int (nI g)] 0 0 (fun r G' => r = none ∧ World A (blS B (L ++ fmL B l w g)) ad G') (fun _ _ => False) := by
  have hb2 := hI.b2
  have hox : oix l w g < 288 := by show (w * 3 + l) * 8 + g < 288; omega
  have how := hI.ow _ hox
  have hst := hI.st w hw
  have hen := hI.en (l * 8 + g) (by omega)
  have hkp : kpA B w (l * 8 + g) ≤ B 4 w := kep_le _ _ _ _
  refine CT.intro (by decide +kernel) rfl (Nat.le_of_ble_eq_true rfl) ?_
  show WP mX9_laysForm _ _ _ _ _ 0 0 0 [(0, .ref (ad 31 0)), (1, .int (nI w)), (2, .int (nI l)), (3, .int (nI g))] []
  refine r_bipush (v := 8) dX9_laysForm_0 (by decide) ?_
  refine r_iload_n dX9_laysForm_2 rfl 2 rfl ?_
  refine r_imul dX9_laysForm_3 ?_
  refine r_top (nI (l * 8)) (by rw [show l * 8 = 8 * l by omega]; exact pk_mul 8 l) ?_
  refine r_iload_n dX9_laysForm_4 rfl 3 rfl ?_
  refine r_iadd dX9_laysForm_5 ?_
  refine r_top (nI (l * 8 + g)) (nI_add _ _) ?_
  refine r_istore [(4, .int (nI (l * 8 + g))), (0, .ref (ad 31 0)), (1, .int (nI w)), (2, .int (nI l)), (3, .int (nI g))] dX9_laysForm_6 (by decide) rfl ?_
  refine r_bipush (v := 24) dX9_laysForm_8 (by decide) ?_
  refine r_iload_n dX9_laysForm_10 rfl 2 rfl ?_
  refine r_imul dX9_laysForm_11 ?_
  refine r_top (nI (24 * w)) (pk_mul 24 w) ?_
  refine r_iload dX9_laysForm_12 0 rfl ?_
  refine r_iadd dX9_laysForm_14 ?_
  refine r_top (nI (oix l w g)) (by rw [nI_add]; exact congrArg nI (by show 24 * w + (l * 8 + g) = (w * 3 + l) * 8 + g; omega)) ?_
  refine r_istore [(5, .int (nI (oix l w g))), (4, .int (nI (l * 8 + g))), (0, .ref (ad 31 0)), (1, .int (nI w)), (2, .int (nI l)), (3, .int (nI g))] dX9_laysForm_15 (by decide) rfl ?_
  refine r_aload_n dX9_laysForm_17 rfl 2 rfl ?_
  refine r_get 8 dX9_laysForm_18 fRX9_29 (hW.g 31 0 rfl) rfl ?_
  refine r_iload dX9_laysForm_21 0 rfl ?_
  refine r_iald dX9_laysForm_23 (hW.g 32 8 rfl) (vp_in_nI hox (by decide)) ?_
  refine r_top (nI (B 8 (oix l w g))) (by rw [nI_cl (by omega)]; exact rgm hox) ?_
  refine r_if_le 66 dX9_laysForm_24 (by decide) (fun c_3 => ?_) (fun c_3 => ?_)
  · refine r_aload_n dX9_laysForm_66 rfl 2 rfl ?_
    refine r_get 3 dX9_laysForm_67 fRX9_13 (hW.g 31 0 rfl) rfl ?_
    refine r_bipush (v := 10) dX9_laysForm_70 (by decide) ?_
    refine r_iload_n dX9_laysForm_72 rfl 3 rfl ?_
    refine r_imul dX9_laysForm_73 ?_
    refine r_top (nI (10 * w)) (pk_mul 10 w) ?_
    refine r_aload_n dX9_laysForm_74 rfl 2 rfl ?_
    refine r_get 4 dX9_laysForm_75 fRX9_16 (hW.g 31 0 rfl) rfl ?_
    refine r_iload_n dX9_laysForm_78 rfl 3 rfl ?_
    refine r_iald dX9_laysForm_79 (hW.g 32 4 rfl) (vp_in_nI (by omega) (by decide)) ?_
    refine r_top (nI (B 4 w)) (by rw [nI_cl (by omega)]; exact rgm (by omega)) ?_
    refine r_iadd dX9_laysForm_80 ?_
    refine r_top (nI (10 * w + B 4 w)) (nI_add _ _) ?_
    refine r_iconst (v := 1) dX9_laysForm_81 (by decide) ?_
    refine r_isub dX9_laysForm_82 ?_
    refine r_top (nI (10 * w + B 4 w - 1)) (pk_sub (b := 1) (by omega)) ?_
    refine r_cald dX9_laysForm_83 (hW.g 32 3 rfl) (vp_in_nI (by omega) (by decide)) ?_
    refine r_top (nI (B 3 (10 * w + B 4 w - 1))) (by rw [nI_cl (by omega)]; exact rgm (by omega)) ?_
    refine r_istore [(6, .int (nI (B 3 (10 * w + B 4 w - 1)))), (5, .int (nI (oix l w g))), (4, .int (nI (l * 8 + g))), (0, .ref (ad 31 0)), (1, .int (nI w)), (2, .int (nI l)), (3, .int (nI g))] dX9_laysForm_84 (by decide) rfl ?_
    refine r_aload_n dX9_laysForm_86 rfl 3 rfl ?_
    refine r_get 6 dX9_laysForm_87 fRX9_23 (hW.g 31 0 rfl) rfl ?_
    refine r_iload dX9_laysForm_90 2 rfl ?_
    refine r_iald dX9_laysForm_92 (hW.g 32 6 rfl) (vp_in_nI (by omega) (by decide)) ?_
    refine r_top (nI (B 6 (l * 8 + g))) (by rw [nI_cl (by omega)]; exact rgm (by omega)) ?_
    refine r_if_le 123 dX9_laysForm_93 (by decide) (fun c_5 => ?_) (fun c_5 => ?_)
    · have hls : lsB B w (l * 8 + g) = false := by rw [lsB_eq hst.1 hst.2.1 hen.1, decide_eq_false (show ¬ 0 < B 6 (l * 8 + g) by have h9 := ni_le (b := 0) (by omega) (by decide) c_5; omega), Bool.false_and, Bool.and_false] <;> rfl
      refine r_iconst (v := b2i (lsB B w (l * 8 + g))) dX9_laysForm_123 (by rw [hls]; rfl) ?_
      refine r_istore [(7, .int (b2i (lsB B w (l * 8 + g)))), (6, .int (nI (B 3 (10 * w + B 4 w - 1)))), (5, .int (nI (oix l w g))), (4, .int (nI (l * 8 + g))), (0, .ref (ad 31 0)), (1, .int (nI w)), (2, .int (nI l)), (3, .int (nI g))] dX9_laysForm_124 (by decide) rfl ?_
      refine r_iconst (v := nI 0) dX9_laysForm_126 (by decide) ?_
      refine r_istore [(8, .int (nI 0)), (7, .int (b2i (lsB B w (l * 8 + g)))), (6, .int (nI (B 3 (10 * w + B 4 w - 1)))), (5, .int (nI (oix l w g))), (4, .int (nI (l * 8 + g))), (0, .ref (ad 31 0)), (1, .int (nI w)), (2, .int (nI l)), (3, .int (nI g))] dX9_laysForm_127 (by decide) rfl ?_
      exact lp_stem (G := G) hI hl hw hg (fun q => by have h9 := ni_le (b := 0) (by omega) (by decide) c_3; omega) hlen _ 0 _ ⟨Nat.zero_le _, by rw [seg_0, List.append_nil]; exact hW⟩ (Nat.lt_succ_self _)
    · refine r_iload dX9_laysForm_96 0 rfl ?_
      refine r_callS (st := []) [.int (nI (B 3 (10 * w + B 4 w - 1)))] 0 0 dX9_laysForm_98 kX9_isVowel nX9_isVowel lRX9_162 (c_X9_isVowel (nI (B 3 (10 * w + B 4 w - 1)))) rfl rfl (Nat.le_of_ble_eq_true rfl) (Nat.le_refl _) (Nat.le_refl _) (fun _ _ h => h.elim) ?_
      refine cx_det (st2 := [.int (s_X9_isVowel (nI (B 3 (10 * w + B 4 w - 1))))]) rfl ?_
      refine r_if_eq 123 dX9_laysForm_101 (by decide) (fun c_8 => ?_) (fun c_8 => ?_)
      · have hls : lsB B w (l * 8 + g) = false := by rw [lsB_eq hst.1 hst.2.1 hen.1, voB_f c_8, Bool.false_and] <;> rfl
        refine r_iconst (v := b2i (lsB B w (l * 8 + g))) dX9_laysForm_123 (by rw [hls]; rfl) ?_
        refine r_istore [(7, .int (b2i (lsB B w (l * 8 + g)))), (6, .int (nI (B 3 (10 * w + B 4 w - 1)))), (5, .int (nI (oix l w g))), (4, .int (nI (l * 8 + g))), (0, .ref (ad 31 0)), (1, .int (nI w)), (2, .int (nI l)), (3, .int (nI g))] dX9_laysForm_124 (by decide) rfl ?_
        refine r_iconst (v := nI 0) dX9_laysForm_126 (by decide) ?_
        refine r_istore [(8, .int (nI 0)), (7, .int (b2i (lsB B w (l * 8 + g)))), (6, .int (nI (B 3 (10 * w + B 4 w - 1)))), (5, .int (nI (oix l w g))), (4, .int (nI (l * 8 + g))), (0, .ref (ad 31 0)), (1, .int (nI w)), (2, .int (nI l)), (3, .int (nI g))] dX9_laysForm_127 (by decide) rfl ?_
        exact lp_stem (G := G) hI hl hw hg (fun q => by have h9 := ni_le (b := 0) (by omega) (by decide) c_3; omega) hlen _ 0 _ ⟨Nat.zero_le _, by rw [seg_0, List.append_nil]; exact hW⟩ (Nat.lt_succ_self _)
      · refine r_aload_n dX9_laysForm_104 rfl 3 rfl ?_
        refine r_get 5 dX9_laysForm_105 fRX9_20 (hW.g 31 0 rfl) rfl ?_
        refine r_iconst (v := 4) dX9_laysForm_108 (by decide) ?_
        refine r_iload dX9_laysForm_109 2 rfl ?_
        refine r_imul dX9_laysForm_111 ?_
        refine r_top (nI (4 * (l * 8 + g))) (pk_mul 4 _) ?_
        refine r_cald dX9_laysForm_112 (hW.g 32 5 rfl) (vp_in_nI (by omega) (by decide)) ?_
        refine r_top (nI (B 5 (4 * (l * 8 + g)))) (by rw [nI_cl (by omega)]; exact rgm (by omega)) ?_
        refine r_callS (st := []) [.int (nI (B 5 (4 * (l * 8 + g))))] 0 0 dX9_laysForm_113 kX9_isVowel nX9_isVowel lRX9_162 (c_X9_isVowel (nI (B 5 (4 * (l * 8 + g))))) rfl rfl (Nat.le_of_ble_eq_true rfl) (Nat.le_refl _) (Nat.le_refl _) (fun _ _ h => h.elim) ?_
        refine cx_det (st2 := [.int (s_X9_isVowel (nI (B 5 (4 * (l * 8 + g)))))]) rfl ?_
        refine r_if_eq 123 dX9_laysForm_116 (by decide) (fun c_11 => ?_) (fun c_11 => ?_)
        · have hls : lsB B w (l * 8 + g) = false := by rw [lsB_eq hst.1 hst.2.1 hen.1, voB_f c_11, Bool.and_false, Bool.and_false] <;> rfl
          refine r_iconst (v := b2i (lsB B w (l * 8 + g))) dX9_laysForm_123 (by rw [hls]; rfl) ?_
          refine r_istore [(7, .int (b2i (lsB B w (l * 8 + g)))), (6, .int (nI (B 3 (10 * w + B 4 w - 1)))), (5, .int (nI (oix l w g))), (4, .int (nI (l * 8 + g))), (0, .ref (ad 31 0)), (1, .int (nI w)), (2, .int (nI l)), (3, .int (nI g))] dX9_laysForm_124 (by decide) rfl ?_
          refine r_iconst (v := nI 0) dX9_laysForm_126 (by decide) ?_
          refine r_istore [(8, .int (nI 0)), (7, .int (b2i (lsB B w (l * 8 + g)))), (6, .int (nI (B 3 (10 * w + B 4 w - 1)))), (5, .int (nI (oix l w g))), (4, .int (nI (l * 8 + g))), (0, .ref (ad 31 0)), (1, .int (nI w)), (2, .int (nI l)), (3, .int (nI g))] dX9_laysForm_127 (by decide) rfl ?_
          exact lp_stem (G := G) hI hl hw hg (fun q => by have h9 := ni_le (b := 0) (by omega) (by decide) c_3; omega) hlen _ 0 _ ⟨Nat.zero_le _, by rw [seg_0, List.append_nil]; exact hW⟩ (Nat.lt_succ_self _)
        · have hls : lsB B w (l * 8 + g) = true := by rw [lsB_eq hst.1 hst.2.1 hen.1, voB_t c_8, voB_t c_11, decide_eq_true (ni_gt0 c_5)] <;> rfl
          refine r_iconst (v := b2i (lsB B w (l * 8 + g))) dX9_laysForm_119 (by rw [hls]; rfl) ?_
          refine r_goto 124 dX9_laysForm_120 (by decide) ?_
          refine r_istore [(7, .int (b2i (lsB B w (l * 8 + g)))), (6, .int (nI (B 3 (10 * w + B 4 w - 1)))), (5, .int (nI (oix l w g))), (4, .int (nI (l * 8 + g))), (0, .ref (ad 31 0)), (1, .int (nI w)), (2, .int (nI l)), (3, .int (nI g))] dX9_laysForm_124 (by decide) rfl ?_
          refine r_iconst (v := nI 0) dX9_laysForm_126 (by decide) ?_
          refine r_istore [(8, .int (nI 0)), (7, .int (b2i (lsB B w (l * 8 + g)))), (6, .int (nI (B 3 (10 * w + B 4 w - 1)))), (5, .int (nI (oix l w g))), (4, .int (nI (l * 8 + g))), (0, .ref (ad 31 0)), (1, .int (nI w)), (2, .int (nI l)), (3, .int (nI g))] dX9_laysForm_127 (by decide) rfl ?_
          exact lp_stem (G := G) hI hl hw hg (fun q => by have h9 := ni_le (b := 0) (by omega) (by decide) c_3; omega) hlen _ 0 _ ⟨Nat.zero_le _, by rw [seg_0, List.append_nil]; exact hW⟩ (Nat.lt_succ_self _)
  · refine r_iconst (v := nI 0) dX9_laysForm_27 (by decide) ?_
    refine r_istore [(6, .int (nI 0)), (5, .int (nI (oix l w g))), (4, .int (nI (l * 8 + g))), (0, .ref (ad 31 0)), (1, .int (nI w)), (2, .int (nI l)), (3, .int (nI g))] dX9_laysForm_28 (by decide) rfl ?_
    exact lp_own (G := G) hI hl hw hg (ni_gt0 c_3) hlen _ 0 _ ⟨Nat.zero_le _, by rw [seg_0, List.append_nil]; exact hW⟩ (Nat.lt_succ_self _)
theorem gram_n {x y : Nat} (hx : x = 110 ∨ x = 103 ∨ x = 100 ∨ x = 97) (hy : y = 115 ∨ y = 112) : s_X9_grammar (nI x) (nI y) = nI (2 * cseN x + nmbN y) := by
  rcases hx with e | e | e | e <;> rcases hy with e2 | e2 <;> rw [e, e2] <;> decide +kernel
set_option maxRecDepth 100000 in
set_option maxHeartbeats 4000000 in
theorem lp_X9_laysText {d b0 : Nat} {G : GH} {A B : ST} {ad : AD} {L : List Nat} (hI : Inv B) {t e g : Nat} (ht : t < 30) (he : e < B 18 0) (hg : g < 3) (hlen : L.length + (txL B t e g 60 0).length ≤ 1050) : ∀ (fu : Nat) (i : Nat) (Y : List Nat) (G2 : GH), i ≤ B 12 t ∧ pw (fun k => B 11 (60 * t + k)) i = 0 ∧ Y ++ txL B t e g 60 i = txL B t e g 60 0 ∧ World A (blS B (L ++ Y)) ad G2 → B 12 t - i < fu → WP mX9_laysText (d + 3) b0 (fun r G' => r = none ∧ World A (blS B (L ++ txL B t e g 60 0)) ad G') (fun _ _ => False) G2 0 0 17 [(5, .int (nI (60 * t + B 12 t))), (4, .int (nI (60 * t + i))), (0, .ref (ad 31 0)), (1, .int (nI t)), (2, .int (nI e)), (3, .int (nI g))] [] := by
  intro fu
  induction fu with
  | zero => intro i Y G2 hinv hn; exact absurd hn (Nat.not_lt_zero _)
  | succ fu ih =>
    intro i Y G2 hinv hn
    have hb18 := hI.b18
    have htx := hI.tx t ht
    refine r_iload dX9_laysText_17 1 rfl ?_
    refine r_iload dX9_laysText_19 0 rfl ?_
    refine r_icmp_ge 106 dX9_laysText_21 (by decide) (fun c_1 => ?_) (fun c_1 => ?_)
    · refine r_vret dX9_laysText_106 rfl ?_
      have hi : B 12 t ≤ i := by have := ni_le (by omega) (by omega) c_1; omega
      have hq := hinv.2.2.2
      rw [show Y = txL B t e g 60 0 by rw [← hinv.2.2.1, txL_end hi, List.append_nil]] at hq
      exact ⟨rfl, hq⟩
    · have hi : i < B 12 t := by have := ni_nle (by omega) (by omega) c_1; omega
      have hok := txL_ok hI (t := t) (e := e) (g := g) ht he hg 60 i hinv.2.1 hinv.1
      have hYl : Y.length + (txL B t e g 60 i).length ≤ (txL B t e g 60 0).length := by rw [← hinv.2.2.1, List.length_append]; omega
      refine r_aload_n dX9_laysText_24 rfl 2 rfl ?_
      refine r_get 11 dX9_laysText_25 fRX9_35 (hinv.2.2.2.g 31 0 rfl) rfl ?_
      refine r_iload dX9_laysText_28 1 rfl ?_
      refine r_cald dX9_laysText_30 (hinv.2.2.2.g 32 11 rfl) (vp_in_nI (by omega) (by decide)) ?_
      refine r_top (nI (B 11 (60 * t + i))) (by rw [nI_cl (by omega)]; exact rgm (by omega)) ?_
      refine r_bipush (v := 91) dX9_laysText_31 (by decide) ?_
      refine r_icmp_ne 89 dX9_laysText_33 (by decide) (fun c_2 => ?_) (fun c_2 => ?_)
      · have h91 : txs B t i ≠ 91 := ni_ne (b := 91) (Nat.lt_trans (hI.ch.2.2.2.2 _) (by decide)) (by decide) c_2
        obtain ⟨p1, p2⟩ := pw_plain hinv.2.1 h91 htx.2.2 hi
        rw [txL_sign hI ht hi h91] at hYl
        rw [List.length_cons] at hYl
        refine r_aload_n dX9_laysText_89 rfl 2 rfl ?_
        refine r_aload_n dX9_laysText_90 rfl 2 rfl ?_
        refine r_get 11 dX9_laysText_91 fRX9_35 (hinv.2.2.2.g 31 0 rfl) rfl ?_
        refine r_iload dX9_laysText_94 1 rfl ?_
        refine r_cald dX9_laysText_96 (hinv.2.2.2.g 32 11 rfl) (vp_in_nI (by omega) (by decide)) ?_
        refine r_top (nI (B 11 (60 * t + i))) (by rw [nI_cl (by omega)]; exact rgm (by omega)) ?_
        refine r_callV (st := []) [.int (nI (B 11 (60 * t + i)))] 0 0 dX9_laysText_97 kX9_lays nX9_lays lRX9_158 (hinv.2.2.2.g 31 0 rfl) rfl (m_lay hinv.2.2.2 (by rw [List.length_append]; omega) (hI.ch.2.2.2.2 _)) rfl rfl (Nat.le_of_ble_eq_true rfl) (Nat.le_refl _) (Nat.le_refl _) (fun _ _ h => h.elim) ?_
        refine cx_val (st2 := []) rfl ?_
        intro G_3 hW_4
        have hW_5 : World A (blS B ((L ++ Y) ++ [txs B t i])) ad G_3 := hW_4
        refine r_iinc (nI (60 * t + (i + 1))) [(4, .int (nI (60 * t + (i + 1)))), (5, .int (nI (60 * t + B 12 t))), (0, .ref (ad 31 0)), (1, .int (nI t)), (2, .int (nI e)), (3, .int (nI g))] dX9_laysText_100 1 rfl (nI_add (60 * t + i) 1) (by decide) rfl ?_
        refine r_goto 17 dX9_laysText_103 (by decide) ?_
        have hq := hW_5
        rw [List.append_assoc] at hq
        exact WP.loc [1, 0, 2, 3, 4, 5] rfl (ih (i + 1) _ _ ⟨by omega, p2, by rw [List.append_assoc, ← hinv.2.2.1, txL_sign hI ht hi h91]; rfl, hq⟩ (by omega))
      · have h91 : txs B t i = 91 := ni_eq (b := 91) (Nat.lt_trans (hI.ch.2.2.2.2 _) (by decide)) (by decide) c_2
        obtain ⟨p1, p2, p3, p4, p5, p6⟩ := pw_slot hinv.2.1 h91 htx.2.2 hi
        have p2b : 48 ≤ B 11 (60 * t + (i + 1)) ∧ B 11 (60 * t + (i + 1)) ≤ 52 := p2
        have hw : txw B t e i < B 2 0 := (hI.da e he).2 _ (by show B 11 (60 * t + (i + 1)) - 48 < 5; omega)
        rw [txL_slot hI ht hi h91] at hYl
        rw [List.length_append] at hYl
        refine r_aload_n dX9_laysText_36 rfl 2 rfl ?_
        refine r_aload_n dX9_laysText_37 rfl 2 rfl ?_
        refine r_get 19 dX9_laysText_38 fRX9_54 (hinv.2.2.2.g 31 0 rfl) rfl ?_
        refine r_iconst (v := 5) dX9_laysText_41 (by decide) ?_
        refine r_iload_n dX9_laysText_42 rfl 4 rfl ?_
        refine r_imul dX9_laysText_43 ?_
        refine r_top (nI (5 * e)) (pk_mul 5 e) ?_
        refine r_aload_n dX9_laysText_44 rfl 2 rfl ?_
        refine r_get 11 dX9_laysText_45 fRX9_35 (hinv.2.2.2.g 31 0 rfl) rfl ?_
        refine r_iload dX9_laysText_48 1 rfl ?_
        refine r_iconst (v := 1) dX9_laysText_50 (by decide) ?_
        refine r_iadd dX9_laysText_51 ?_
        refine r_top (nI (60 * t + (i + 1))) (nI_add (60 * t + i) 1) ?_
        refine r_cald dX9_laysText_52 (hinv.2.2.2.g 32 11 rfl) (vp_in_nI (by omega) (by decide)) ?_
        refine r_top (nI (B 11 (60 * t + (i + 1)))) (by rw [nI_cl (by omega)]; exact rgm (by omega)) ?_
        refine r_iadd dX9_laysText_53 ?_
        refine r_top (nI (5 * e + B 11 (60 * t + (i + 1)))) (nI_add _ _) ?_
        refine r_bipush (v := 48) dX9_laysText_54 (by decide) ?_
        refine r_isub dX9_laysText_56 ?_
        refine r_top (nI (5 * e + (B 11 (60 * t + (i + 1)) - 48))) (by rw [show 5 * e + (B 11 (60 * t + (i + 1)) - 48) = 5 * e + B 11 (60 * t + (i + 1)) - 48 by omega]; exact pk_sub (b := 48) (by omega)) ?_
        refine r_iald dX9_laysText_57 (hinv.2.2.2.g 32 19 rfl) (vp_in_nI (by omega) (by decide)) ?_
        refine r_top (nI (B 19 (5 * e + (B 11 (60 * t + (i + 1)) - 48)))) (by rw [nI_cl (by omega)]; exact rgm (by omega)) ?_
        refine r_top (nI (txw B t e i)) rfl ?_
        refine r_iload_n dX9_laysText_58 rfl 5 rfl ?_
        refine r_aload_n dX9_laysText_59 rfl 2 rfl ?_
        refine r_get 11 dX9_laysText_60 fRX9_35 (hinv.2.2.2.g 31 0 rfl) rfl ?_
        refine r_iload dX9_laysText_63 1 rfl ?_
        refine r_iconst (v := 2) dX9_laysText_65 (by decide) ?_
        refine r_iadd dX9_laysText_66 ?_
        refine r_top (nI (60 * t + (i + 2))) (nI_add (60 * t + i) 2) ?_
        refine r_cald dX9_laysText_67 (hinv.2.2.2.g 32 11 rfl) (vp_in_nI (by omega) (by decide)) ?_
        refine r_top (nI (B 11 (60 * t + (i + 2)))) (by rw [nI_cl (by omega)]; exact rgm (by omega)) ?_
        refine r_aload_n dX9_laysText_68 rfl 2 rfl ?_
        refine r_get 11 dX9_laysText_69 fRX9_35 (hinv.2.2.2.g 31 0 rfl) rfl ?_
        refine r_iload dX9_laysText_72 1 rfl ?_
        refine r_iconst (v := 3) dX9_laysText_74 (by decide) ?_
        refine r_iadd dX9_laysText_75 ?_
        refine r_top (nI (60 * t + (i + 3))) (nI_add (60 * t + i) 3) ?_
        refine r_cald dX9_laysText_76 (hinv.2.2.2.g 32 11 rfl) (vp_in_nI (by omega) (by decide)) ?_
        refine r_top (nI (B 11 (60 * t + (i + 3)))) (by rw [nI_cl (by omega)]; exact rgm (by omega)) ?_
        have hgr := c_X9_grammar (d := d + 2) (b0 := b0) (G := G2) (nI (B 11 (60 * t + (i + 2)))) (nI (B 11 (60 * t + (i + 3))))
        rw [gram_n (x := B 11 (60 * t + (i + 2))) (y := B 11 (60 * t + (i + 3))) p3 p4] at hgr
        refine r_callS (st := [.int (nI g), .int (nI (txw B t e i)), .ref (ad 31 0)]) [.int (nI (B 11 (60 * t + (i + 2)))), .int (nI (B 11 (60 * t + (i + 3))))] 0 0 dX9_laysText_77 kX9_grammar nX9_grammar lRX9_165 hgr rfl rfl (Nat.le_of_ble_eq_true rfl) (Nat.le_refl _) (Nat.le_refl _) (fun _ _ h => h.elim) ?_
        refine cx_det (st2 := [.int (nI (txg B t i)), .int (nI g), .int (nI (txw B t e i)), .ref (ad 31 0)]) rfl ?_
        refine r_callV (st := []) [.int (nI (txw B t e i)), .int (nI g), .int (nI (txg B t i))] 0 0 dX9_laysText_80 kX9_laysForm nX9_laysForm lRX9_169 (hinv.2.2.2.g 31 0 rfl) rfl (m_laysForm hinv.2.2.2 hI hg hw (txg_lt B t i) (by rw [List.length_append]; omega)) rfl rfl (Nat.le_of_ble_eq_true rfl) (Nat.le_refl _) (Nat.le_refl _) (fun _ _ h => h.elim) ?_
        refine cx_val (st2 := []) rfl ?_
        intro G_6 hW_7
        have hW_8 : World A (blS B ((L ++ Y) ++ fmL B g (txw B t e i) (txg B t i))) ad G_6 := hW_7
        refine r_iinc (nI (60 * t + (i + 5))) [(4, .int (nI (60 * t + (i + 5)))), (5, .int (nI (60 * t + B 12 t))), (0, .ref (ad 31 0)), (1, .int (nI t)), (2, .int (nI e)), (3, .int (nI g))] dX9_laysText_83 1 rfl (nI_add (60 * t + i) 5) (by decide) rfl ?_
        refine r_goto 17 dX9_laysText_86 (by decide) ?_
        have hq := hW_8
        rw [List.append_assoc] at hq
        exact WP.loc [1, 0, 2, 3, 4, 5] rfl (ih (i + 5) _ _ ⟨p1, p6, by rw [List.append_assoc, ← hinv.2.2.1, txL_slot hI ht hi h91], hq⟩ (by omega))
set_option maxRecDepth 100000 in
set_option maxHeartbeats 4000000 in
theorem m_laysText {d b0 : Nat} {G : GH} {A B : ST} {ad : AD} {L : List Nat} (hW : World A (blS B L) ad G) (hI : Inv B) {t e g : Nat} (ht : t < 30) (he : e < B 18 0) (hg : g < 3) (hlen : L.length + (txL B t e g 60 0).length ≤ 1050) : CT mX9_laysText (d + 3) b0 G [.ref (ad 31 0), .int (nI t), .int (nI e), .int (nI g)] 0 0 (fun r G' => r = none ∧ World A (blS B (L ++ txL B t e g 60 0)) ad G') (fun _ _ => False) := by
  refine CT.intro (by decide +kernel) rfl (Nat.le_of_ble_eq_true rfl) ?_
  show WP mX9_laysText _ _ _ _ _ 0 0 0 [(0, .ref (ad 31 0)), (1, .int (nI t)), (2, .int (nI e)), (3, .int (nI g))] []
  refine r_bipush (v := 60) dX9_laysText_0 (by decide) ?_
  refine r_iload_n dX9_laysText_2 rfl 1 rfl ?_
  refine r_imul dX9_laysText_3 ?_
  refine r_top (nI (60 * t + 0)) (pk_mul 60 t) ?_
  refine r_istore [(4, .int (nI (60 * t + 0))), (0, .ref (ad 31 0)), (1, .int (nI t)), (2, .int (nI e)), (3, .int (nI g))] dX9_laysText_4 (by decide) rfl ?_
  refine r_iload dX9_laysText_6 0 rfl ?_
  refine r_aload_n dX9_laysText_8 rfl 1 rfl ?_
  refine r_get 12 dX9_laysText_9 fRX9_38 (hW.g 31 0 rfl) rfl ?_
  refine r_iload_n dX9_laysText_12 rfl 2 rfl ?_
  refine r_iald dX9_laysText_13 (hW.g 32 12 rfl) (vp_in_nI (by omega) (by decide)) ?_
  refine r_top (nI (B 12 t)) (by rw [nI_cl (by omega)]; exact rgm (by omega)) ?_
  refine r_iadd dX9_laysText_14 ?_
  refine r_top (nI (60 * t + B 12 t)) (nI_add _ _) ?_
  refine r_istore [(5, .int (nI (60 * t + B 12 t))), (4, .int (nI (60 * t + 0))), (0, .ref (ad 31 0)), (1, .int (nI t)), (2, .int (nI e)), (3, .int (nI g))] dX9_laysText_15 (by decide) rfl ?_
  exact lp_X9_laysText (G := G) hI ht he hg hlen _ 0 [] _ ⟨Nat.zero_le _, rfl, rfl, by rw [List.append_nil]; exact hW⟩ (Nat.lt_succ_self _)
