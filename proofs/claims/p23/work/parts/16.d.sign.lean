theorem c_lap_t {d b0 : Nat} {G : GH} {A B : ST} {ad : AD} {L : List Nat} (hW : World (pgS A L) B ad G) (hI : Inv A) {l e g p : Nat} (hl : l < A 15 0) (he : e < A 18 0) (hg : g < 3) (hp : p < A 17 l) (h : isL A l e g p = true) : CTd mX8_laidAt (d + 3) b0 G [.ref (ad 0 0), .ref (ad 27 l), .int (nI p), .ref (ad 29 e), .int (nI g)] 0 0 (some (.ref (ad 24 (3 * cla A l p + g)))) G := by
  have h1 := c_X8_laidAt_t (d := d) (b0 := b0) hW (hI.pg L) (l := l) (e := e) (g := g) (p := p) hl he hg hp (by rw [isL_pg]; exact h)
  have h2 : cla (pgS A L) l p = cla A l p := pgS_o (f := 16) (by decide)
  rw [h2] at h1
  exact h1
theorem c_lap_f {d b0 : Nat} {G : GH} {A B : ST} {ad : AD} {L : List Nat} (hW : World (pgS A L) B ad G) (hI : Inv A) {l e g p : Nat} (hl : l < A 15 0) (he : e < A 18 0) (hg : g < 3) (hp : p < A 17 l) (h : isL A l e g p = false) : CTd mX8_laidAt (d + 3) b0 G [.ref (ad 0 0), .ref (ad 27 l), .int (nI p), .ref (ad 29 e), .int (nI g)] 0 0 (some .null) G :=
  c_X8_laidAt_f hW (hI.pg L) hl he hg hp (by rw [isL_pg]; exact h)
set_option maxRecDepth 100000 in
set_option maxHeartbeats 1000000 in
theorem lp_X8_build {d b0 : Nat} {G : GH} {A B : ST} {ad : AD} (hI : Inv A) {l e g : Nat} (hl : l < A 15 0) (he : e < A 18 0) (hg : g < 3) : ∀ (fu : Nat) (p : Nat) (G2 : GH), p ≤ A 17 l ∧ World (pgS A (ltL A l e g p)) B ad G2 → A 17 l - p < fu → WP mX8_build (d + 5) b0 (fun r G' => r = none ∧ World (pgS A (ltL A l e g (A 17 l))) B ad G') (fun _ _ => False) G2 0 0 10 [(4, .int (nI p)), (0, .ref (ad 0 0)), (1, .ref (ad 27 l)), (2, .ref (ad 29 e)), (3, .int (nI g))] [] := by
  intro fu
  induction fu with
  | zero => intro p G2 hinv hn; exact absurd hn (Nat.not_lt_zero _)
  | succ fu ih =>
    intro p G2 hinv hn
    have hb15 := hI.b15
    have hb9 := hI.b9
    have h17 := (hI.ro l (by omega)).1
    refine r_iload dX8_build_10 0 rfl ?_
    refine r_aload_n dX8_build_12 rfl 2 rfl ?_
    refine r_callV (st := [.int (nI p)]) [] 0 0 dX8_build_13 kX2_count nX2_count lRX8_201 (hinv.2.g 27 l hl) rfl (c_X2_count (ltp hinv.2 hI hl)) rfl rfl (Nat.le_of_ble_eq_true rfl) (Nat.le_refl _) (Nat.le_refl _) (fun _ _ h => h.elim) ?_
    refine cx_det (st2 := [.int (nI (A 17 l)), .int (nI p)]) rfl ?_
    refine r_icmp_ge 68 dX8_build_16 (by decide) (fun c_1 => ?_) (fun c_1 => ?_)
    · refine r_vret dX8_build_68 rfl ?_
      have hp : p = A 17 l := by have := ni_le (by omega) (by omega) c_1; omega
      have hq := hinv.2
      rw [hp] at hq
      exact ⟨rfl, hq⟩
    · have hp : p < A 17 l := ni_nle (by omega) (by omega) c_1
      have hcl : cla A l p < A 9 0 := ((hI.ro l (by omega)).2 p hp).1
      have hT : 3 * cla A l p + g < 3 * A 9 0 := by omega
      have hok := ltL_ok hI hl he hg p (by omega)
      have hok2 := ltL_ok hI hl he hg (p + 1) hp
      have htl := txL_ok hI (t := 3 * cla A l p + g) (e := e) (g := g) (by omega) he hg 60 0 rfl (Nat.zero_le _)
      by_cases hisl : isL A l e g p = true
      · have hstep : ltL A l e g (p + 1) = (if isL A l e g p = true then (if ltL A l e g p = [] then txL A (3 * cla A l p + g) e g 60 0 else ltL A l e g p ++ 32 :: txL A (3 * cla A l p + g) e g 60 0) else ltL A l e g p) := rfl
        rw [if_pos hisl] at hstep
        refine r_aload_n dX8_build_19 rfl 1 rfl ?_
        refine r_aload_n dX8_build_20 rfl 2 rfl ?_
        refine r_iload dX8_build_21 0 rfl ?_
        refine r_aload_n dX8_build_23 rfl 3 rfl ?_
        refine r_iload_n dX8_build_24 rfl 4 rfl ?_
        refine r_callV (st := []) [.ref (ad 27 l), .int (nI p), .ref (ad 29 e), .int (nI g)] 0 0 dX8_build_25 kX8_laidAt nX8_laidAt lRX8_312 (hinv.2.g 0 0 rfl) rfl (c_lap_t hinv.2 hI hl he hg hp hisl) rfl rfl (Nat.le_of_ble_eq_true rfl) (Nat.le_refl _) (Nat.le_refl _) (fun _ _ h => h.elim) ?_
        refine cx_det (st2 := [.ref (ad 24 (3 * cla A l p + g))]) rfl ?_
        refine r_astore [(5, .ref (ad 24 (3 * cla A l p + g))), (4, .int (nI p)), (0, .ref (ad 0 0)), (1, .ref (ad 27 l)), (2, .ref (ad 29 e)), (3, .int (nI g))] dX8_build_28 (by decide) rfl ?_
        refine r_aload dX8_build_30 0 rfl ?_
        refine r_ifnullR dX8_build_32 ?_
        refine r_aload_n dX8_build_35 rfl 2 rfl ?_
        refine r_get 6 dX8_build_36 fRX8_50 (hinv.2.g 0 0 rfl) rfl ?_
        refine r_callV (st := []) [] 0 0 dX8_build_39 kX3_length nX3_length lRX8_316 (hinv.2.g 11 0 rfl) rfl (c_X3_length (pgs hinv.2 (by omega))) rfl rfl (Nat.le_of_ble_eq_true rfl) (Nat.le_refl _) (Nat.le_refl _) (fun _ _ h => h.elim) ?_
        refine cx_det (st2 := [.int (nI (ltL A l e g p).length)]) rfl ?_
        refine r_if_le 54 dX8_build_42 (by decide) (fun c_2 => ?_) (fun c_2 => ?_)
        · refine r_aload_n dX8_build_54 rfl 2 rfl ?_
          refine r_aload dX8_build_55 0 rfl ?_
          refine r_aload_n dX8_build_57 rfl 4 rfl ?_
          refine r_iload_n dX8_build_58 rfl 5 rfl ?_
          have hem : ltL A l e g p = [] := by
            have h9 := ni_le (b := 0) (by omega) (by decide) c_2
            exact List.length_eq_zero_iff.mp (by omega)
          rw [if_pos hem] at hstep
          have h9 := hok2.2
          rw [hstep] at h9
          refine r_callV (st := []) [.ref (ad 24 (3 * cla A l p + g)), .ref (ad 29 e), .int (nI g)] 0 0 dX8_build_59 kX8_layTemplate nX8_layTemplate lRX8_321 (hinv.2.g 0 0 rfl) rfl (c_layTemplate hI hinv.2 hT he hg (by rw [hem]; show 0 + _ ≤ 1013; omega)) rfl rfl (Nat.le_of_ble_eq_true rfl) (Nat.le_refl _) (Nat.le_refl _) (fun _ _ h => h.elim) ?_
          intro r G_3 hr
          obtain ⟨rfl, hW_4⟩ := hr
          rw [hem, List.nil_append, ← hstep] at hW_4
          refine r_iinc (nI (p + 1)) [(4, .int (nI (p + 1))), (5, .ref (ad 24 (3 * cla A l p + g))), (0, .ref (ad 0 0)), (1, .ref (ad 27 l)), (2, .ref (ad 29 e)), (3, .int (nI g))] dX8_build_62 1 rfl (nI_1 p) (by decide) rfl ?_
          refine r_goto 10 dX8_build_65 (by decide) ?_
          exact WP.loc [0, 2, 3, 4, 5] rfl (ih (p + 1) _ ⟨by omega, hW_4⟩ (by omega))
        · refine r_aload_n dX8_build_45 rfl 2 rfl ?_
          refine r_get 6 dX8_build_46 fRX8_50 (hinv.2.g 0 0 rfl) rfl ?_
          refine r_bipush (v := 32) dX8_build_49 (by decide) ?_
          refine r_callV (st := []) [.int 32] 0 0 dX8_build_51 kX3_lay nX3_lay lRX8_317 (hinv.2.g 11 0 rfl) rfl (c_lay hinv.2 (by omega) (Or.inr (Or.inl rfl))) rfl rfl (Nat.le_of_ble_eq_true rfl) (Nat.le_refl _) (Nat.le_refl _) (fun _ _ h => h.elim) ?_
          intro r G_5 hr
          obtain ⟨rfl, hW_6⟩ := hr
          refine r_aload_n dX8_build_54 rfl 2 rfl ?_
          refine r_aload dX8_build_55 0 rfl ?_
          refine r_aload_n dX8_build_57 rfl 4 rfl ?_
          refine r_iload_n dX8_build_58 rfl 5 rfl ?_
          have hne : ltL A l e g p ≠ [] := fun q => c_2 (by rw [q]; decide)
          rw [if_neg hne] at hstep
          have h9 := hok2.2
          rw [hstep, List.length_append, List.length_cons] at h9
          refine r_callV (st := []) [.ref (ad 24 (3 * cla A l p + g)), .ref (ad 29 e), .int (nI g)] 0 0 dX8_build_59 kX8_layTemplate nX8_layTemplate lRX8_321 (hW_6.g 0 0 rfl) rfl (c_layTemplate hI hW_6 hT he hg (by rw [List.length_append]; show _ + 1 + _ ≤ 1013; omega)) rfl rfl (Nat.le_of_ble_eq_true rfl) (Nat.le_refl _) (Nat.le_refl _) (fun _ _ h => h.elim) ?_
          intro r G_7 hr
          obtain ⟨rfl, hW_8⟩ := hr
          rw [List.append_assoc, show [32] ++ txL A (3 * cla A l p + g) e g 60 0 = 32 :: txL A (3 * cla A l p + g) e g 60 0 from rfl, ← hstep] at hW_8
          refine r_iinc (nI (p + 1)) [(4, .int (nI (p + 1))), (5, .ref (ad 24 (3 * cla A l p + g))), (0, .ref (ad 0 0)), (1, .ref (ad 27 l)), (2, .ref (ad 29 e)), (3, .int (nI g))] dX8_build_62 1 rfl (nI_1 p) (by decide) rfl ?_
          refine r_goto 10 dX8_build_65 (by decide) ?_
          exact WP.loc [0, 2, 3, 4, 5] rfl (ih (p + 1) _ ⟨by omega, hW_8⟩ (by omega))
      · have hisf : isL A l e g p = false := Bool.eq_false_iff.mpr hisl
        have hstep : ltL A l e g (p + 1) = (if isL A l e g p = true then (if ltL A l e g p = [] then txL A (3 * cla A l p + g) e g 60 0 else ltL A l e g p ++ 32 :: txL A (3 * cla A l p + g) e g 60 0) else ltL A l e g p) := rfl
        rw [if_neg hisl] at hstep
        refine r_aload_n dX8_build_19 rfl 1 rfl ?_
        refine r_aload_n dX8_build_20 rfl 2 rfl ?_
        refine r_iload dX8_build_21 0 rfl ?_
        refine r_aload_n dX8_build_23 rfl 3 rfl ?_
        refine r_iload_n dX8_build_24 rfl 4 rfl ?_
        refine r_callV (st := []) [.ref (ad 27 l), .int (nI p), .ref (ad 29 e), .int (nI g)] 0 0 dX8_build_25 kX8_laidAt nX8_laidAt lRX8_312 (hinv.2.g 0 0 rfl) rfl (c_lap_f hinv.2 hI hl he hg hp hisf) rfl rfl (Nat.le_of_ble_eq_true rfl) (Nat.le_refl _) (Nat.le_refl _) (fun _ _ h => h.elim) ?_
        refine cx_det (st2 := [.null]) rfl ?_
        refine r_astoreN [(5, .null), (4, .int (nI p)), (0, .ref (ad 0 0)), (1, .ref (ad 27 l)), (2, .ref (ad 29 e)), (3, .int (nI g))] dX8_build_28 (by decide) rfl ?_
        refine r_aloadN dX8_build_30 0 rfl ?_
        refine r_ifnullN 62 dX8_build_32 (by decide) ?_
        refine r_iinc (nI (p + 1)) [(4, .int (nI (p + 1))), (5, .null), (0, .ref (ad 0 0)), (1, .ref (ad 27 l)), (2, .ref (ad 29 e)), (3, .int (nI g))] dX8_build_62 1 rfl (nI_1 p) (by decide) rfl ?_
        refine r_goto 10 dX8_build_65 (by decide) ?_
        have hq := hinv.2
        rw [← hstep] at hq
        exact WP.loc [0, 2, 3, 4, 5] rfl (ih (p + 1) _ ⟨by omega, hq⟩ (by omega))
set_option maxRecDepth 100000 in
set_option maxHeartbeats 1000000 in
theorem c_build {d b0 : Nat} {G : GH} {A B : ST} {ad : AD} (hW : World A B ad G) (hI : Inv A) (hP : Pag A) {l e g : Nat} (hl : l < A 15 0) (he : e < A 18 0) (hg : g < 3) : CT mX8_build (d + 5) b0 G [.ref (ad 0 0), .ref (ad 27 l), .ref (ad 29 e), .int (nI g)] 0 0 (fun r G' => r = none ∧ World (pgS A (ltL A l e g (A 17 l))) B ad G') (fun _ _ => False) := by
  refine CT.intro (by decide +kernel) rfl (Nat.le_of_ble_eq_true rfl) ?_
  show WP mX8_build _ _ _ _ _ 0 0 0 [(0, .ref (ad 0 0)), (1, .ref (ad 27 l)), (2, .ref (ad 29 e)), (3, .int (nI g))] []
  refine r_aload_n dX8_build_0 rfl 0 rfl ?_
  refine r_get 6 dX8_build_1 fRX8_50 (hW.g 0 0 rfl) rfl ?_
  refine r_callV (st := []) [] 0 0 dX8_build_4 kX3_start nX3_start lRX8_310 (hW.g 11 0 rfl) rfl (c_pstart hW hP) rfl rfl (Nat.le_of_ble_eq_true rfl) (Nat.le_refl _) (Nat.le_refl _) (fun _ _ h => h.elim) ?_
  intro r G_1 hr
  obtain ⟨rfl, hW_2⟩ := hr
  refine r_iconst (v := nI 0) dX8_build_7 (by decide) ?_
  refine r_istore [(4, .int (nI 0)), (0, .ref (ad 0 0)), (1, .ref (ad 27 l)), (2, .ref (ad 29 e)), (3, .int (nI g))] dX8_build_8 (by decide) rfl ?_
  exact lp_X8_build (G := G) hI hl he hg _ 0 _ ⟨Nat.zero_le _, hW_2⟩ (Nat.lt_succ_self _)
abbrev ltA (A : ST) (l e g : Nat) : List Nat := ltL A l e g (A 17 l)
theorem ltA_ok {A : ST} (hI : Inv A) {l e g : Nat} (hl : l < A 15 0) (he : e < A 18 0) (hg : g < 3) : (∀ x ∈ ltA A l e g, rawS x) ∧ (ltA A l e g).length ≤ 1013 := by
  have hb15 := hI.b15
  have h17 := (hI.ro l (by omega)).1
  have h := ltL_ok hI hl he hg (A 17 l) (Nat.le_refl _)
  exact ⟨h.1, by have := h.2; show (ltL A l e g (A 17 l)).length ≤ 1013; omega⟩
theorem pg_rg {A : ST} {L : List Nat} {k : Nat} (hl : L.length ≤ 1013) : chr (rg (pgS A L) 30 0 1014) L.length k = nI ((bld true L).getD k 0) := by
  rw [chr_rg (by omega)]
  by_cases h : k < L.length
  · rw [if_pos h, Nat.zero_add]
    show nI ((bld true L).getD k (A 30 k)) = _
    rw [getD_z (by rw [bld_len]; exact h)]
  · rw [if_neg h, getD_big (by rw [bld_len]; omega)]
theorem wcs_congr {f g : Nat → Int32} : ∀ {n : Nat}, (∀ k, k < n → f k = g k) → wcs f n = wcs g n
  | 0, _ => rfl
  | n + 1, h => by
    have h1 := wcs_congr (n := n) (fun k hk => h k (by omega))
    show ((wcs f n).1 + (if lB (f n) && !(wcs f n).2 then 1 else 0), lB (f n)) = ((wcs g n).1 + (if lB (g n) && !(wcs g n).2 then 1 else 0), lB (g n))
    rw [h1, h n (Nat.lt_succ_self n)]
/-- the words of a row of signs -/
def wcL (L : List Nat) : Nat := (wcs (fun k => nI (L.getD k 0)) L.length).1
theorem pg_C {A : ST} (hP : Pag A) {L : List Nat} (h2 : ∀ x ∈ L, rawS x) : ∀ k, isC (rg (pgS A L) 30 0 1014 k) := rg_C (fun k => getD_lt (bld_lt L true (fun x hx => rawS_lt (h2 x hx))) (hP.2 k))
theorem wc_rg {A : ST} {L : List Nat} (hl : L.length ≤ 1013) : (wcs (rg (pgS A L) 30 0 1014) L.length).1 = wcL (bld true L) := by
  unfold wcL
  rw [bld_len]
  refine congrArg Prod.fst (wcs_congr (fun k hk => ?_))
  rw [← pg_rg (A := A) hl]
  unfold chr
  rw [if_pos hk]
set_option maxRecDepth 100000 in
set_option maxHeartbeats 1000000 in
theorem c_sign_0 {d b0 : Nat} {G : GH} {A B : ST} {ad : AD} (hW : World A B ad G) (hI : Inv A) (hP : Pag A) {l e g : Nat} (hl : l < A 15 0) (he : e < A 18 0) (hg : g < 3) {k : Nat} (hk : k < 2 ^ 31) : CT mX8_sign (d + 8) b0 G [.ref (ad 0 0), .int (nI l), .int (nI e), .int (nI g), .int (nI k)] 20 400 (OPo (nI ((bld true (ltA A l e g)).getD k 0)) A B ad A) (fun _ _ => False) := by
  have hb0 := hI.b0
  have hb2 := hI.b2
  have hb9 := hI.b9
  have hb15 := hI.b15
  have hb18 := hI.b18
  have hok := ltA_ok hI hl he hg
  refine CT.intro (by decide +kernel) rfl (Nat.le_of_ble_eq_true rfl) ?_
  show WP mX8_sign _ _ _ _ _ 20 400 0 [(0, .ref (ad 0 0)), (1, .int (nI l)), (2, .int (nI e)), (3, .int (nI g)), (4, .int (nI k))] []
  refine r_aload_n dX8_sign_0 rfl 0 rfl ?_
  refine r_iload_n dX8_sign_1 rfl 1 rfl ?_
  refine r_callV (st := []) [.int (nI l)] 20 400 dX8_sign_2 kX8_letterAt nX8_letterAt lRX8_188 (hW.g 0 0 rfl) rfl (c_X8_letterAt_t hW hI hl) rfl rfl (Nat.le_of_ble_eq_true rfl) (Nat.le_refl _) (Nat.le_refl _) (fun _ _ h => h.elim) ?_
  refine cx_det (st2 := [.ref (ad 27 l)]) rfl ?_
  refine r_astore [(5, .ref (ad 27 l)), (0, .ref (ad 0 0)), (1, .int (nI l)), (2, .int (nI e)), (3, .int (nI g)), (4, .int (nI k))] dX8_sign_5 (by decide) rfl ?_
  refine r_aload_n dX8_sign_7 rfl 1 rfl ?_
  refine r_iload_n dX8_sign_8 rfl 3 rfl ?_
  refine r_callV (st := []) [.int (nI e)] 20 400 dX8_sign_9 kX8_dataAt nX8_dataAt lRX8_214 (hW.g 0 0 rfl) rfl (c_X8_dataAt_t hW hI he) rfl rfl (Nat.le_of_ble_eq_true rfl) (Nat.le_refl _) (Nat.le_refl _) (fun _ _ h => h.elim) ?_
  refine cx_det (st2 := [.ref (ad 29 e)]) rfl ?_
  refine r_astore [(6, .ref (ad 29 e)), (5, .ref (ad 27 l)), (0, .ref (ad 0 0)), (1, .int (nI l)), (2, .int (nI e)), (3, .int (nI g)), (4, .int (nI k))] dX8_sign_12 (by decide) rfl ?_
  refine r_aload dX8_sign_14 1 rfl ?_
  refine r_ifnullR dX8_sign_16 ?_
  refine r_aload dX8_sign_19 0 rfl ?_
  refine r_ifnullR dX8_sign_21 ?_
  refine r_iload_n dX8_sign_24 rfl 5 rfl ?_
  refine r_callS (st := []) [.int (nI g)] 20 400 dX8_sign_25 kX8_isLanguage nX8_isLanguage lRX8_92 (c_isL (nI g)) rfl rfl (Nat.le_of_ble_eq_true rfl) (Nat.le_refl _) (Nat.le_refl _) (fun _ _ h => h.elim) ?_
  refine cx_det (st2 := [.int (b2i (inB (nI g) 3))]) rfl ?_
  refine r_if_eq 36 dX8_sign_28 (by decide) (fun c_1 => absurd c_1 (b2i_no (inB_k hg (by decide)))) (fun c_1 => ?_)
  refine r_iload dX8_sign_31 6 rfl ?_
  refine r_if_ge 46 dX8_sign_33 (by decide) (fun c_2 => ?_) (fun c_2 => absurd (by have h9 := nI_leI (a := 0) (by decide) hk; exact h9.mpr (Nat.zero_le _)) c_2)
  refine r_aload_n dX8_sign_46 rfl 2 rfl ?_
  refine r_aload dX8_sign_47 1 rfl ?_
  refine r_aload dX8_sign_49 0 rfl ?_
  refine r_iload_n dX8_sign_51 rfl 5 rfl ?_
  refine r_callV (st := []) [.ref (ad 27 l), .ref (ad 29 e), .int (nI g)] 20 400 dX8_sign_52 kX8_build nX8_build lRX8_248 (hW.g 0 0 rfl) rfl (c_build hW hI hP hl he hg) rfl rfl (Nat.le_of_ble_eq_true rfl) (Nat.le_refl _) (Nat.le_refl _) (fun _ _ h => h.elim) ?_
  intro r G_3 hr
  obtain ⟨rfl, hW_4⟩ := hr
  refine r_aload_n dX8_sign_55 rfl 2 rfl ?_
  refine r_get 6 dX8_sign_56 fRX8_50 (hW_4.g 0 0 rfl) rfl ?_
  refine r_iload dX8_sign_59 6 rfl ?_
  have hpat := c_X3_at (d := d + 6) (b0 := b0) (pgs hW_4 (Nat.le_succ_of_le hok.2)) (fun k _ => pg_C hP hok.1 k) (nI k)
  rw [s_X5_at_nI (Nat.lt_of_le_of_lt hok.2 (by decide)) hk, pg_rg hok.2] at hpat
  refine r_callV (st := []) [.int (nI k)] 20 400 dX8_sign_61 kX3_at nX3_at lRX8_252 (hW_4.g 11 0 rfl) rfl hpat rfl rfl (Nat.le_of_ble_eq_true rfl) (Nat.le_refl _) (Nat.le_refl _) (fun _ _ h => h.elim) ?_
  refine cx_det (st2 := [.int (nI ((bld true (ltA A l e g)).getD k 0))]) rfl ?_
  refine r_ret .char dX8_sign_64 rfl (isC_nI (getD_lt (bld_lt _ true (fun x hx => rawS_lt (hok.1 x hx))) (by decide))) ?_
  exact ⟨rfl, _, ad, hW_4, fun _ _ _ => rfl, pgS_Pag hP (Nat.le_succ_of_le hok.2) hok.1, fun f hf => pgS_f hf⟩
set_option maxRecDepth 100000 in
set_option maxHeartbeats 1000000 in
theorem c_costs_0 {d b0 : Nat} {G : GH} {A B : ST} {ad : AD} (hW : World A B ad G) (hI : Inv A) (hP : Pag A) {l e g : Nat} (hl : l < A 15 0) (he : e < A 18 0) (hg : g < 3) : CT mX8_costs (d + 8) b0 G [.ref (ad 0 0), .int (nI l), .int (nI e), .int (nI g)] 20 400 (OPo (nI (wcL (bld true (ltA A l e g)) * A 21 g)) A B ad A) (fun _ _ => False) := by
  have hb0 := hI.b0
  have hb2 := hI.b2
  have hb9 := hI.b9
  have hb15 := hI.b15
  have hb18 := hI.b18
  have hok := ltA_ok hI hl he hg
  refine CT.intro (by decide +kernel) rfl (Nat.le_of_ble_eq_true rfl) ?_
  show WP mX8_costs _ _ _ _ _ 20 400 0 [(0, .ref (ad 0 0)), (1, .int (nI l)), (2, .int (nI e)), (3, .int (nI g))] []
  refine r_aload_n dX8_costs_0 rfl 0 rfl ?_
  refine r_iload_n dX8_costs_1 rfl 1 rfl ?_
  refine r_callV (st := []) [.int (nI l)] 20 400 dX8_costs_2 kX8_letterAt nX8_letterAt lRX8_188 (hW.g 0 0 rfl) rfl (c_X8_letterAt_t hW hI hl) rfl rfl (Nat.le_of_ble_eq_true rfl) (Nat.le_refl _) (Nat.le_refl _) (fun _ _ h => h.elim) ?_
  refine cx_det (st2 := [.ref (ad 27 l)]) rfl ?_
  refine r_astore [(4, .ref (ad 27 l)), (0, .ref (ad 0 0)), (1, .int (nI l)), (2, .int (nI e)), (3, .int (nI g))] dX8_costs_5 (by decide) rfl ?_
  refine r_aload_n dX8_costs_7 rfl 1 rfl ?_
  refine r_iload_n dX8_costs_8 rfl 3 rfl ?_
  refine r_callV (st := []) [.int (nI e)] 20 400 dX8_costs_9 kX8_dataAt nX8_dataAt lRX8_214 (hW.g 0 0 rfl) rfl (c_X8_dataAt_t hW hI he) rfl rfl (Nat.le_of_ble_eq_true rfl) (Nat.le_refl _) (Nat.le_refl _) (fun _ _ h => h.elim) ?_
  refine cx_det (st2 := [.ref (ad 29 e)]) rfl ?_
  refine r_astore [(5, .ref (ad 29 e)), (4, .ref (ad 27 l)), (0, .ref (ad 0 0)), (1, .int (nI l)), (2, .int (nI e)), (3, .int (nI g))] dX8_costs_12 (by decide) rfl ?_
  refine r_aload dX8_costs_14 1 rfl ?_
  refine r_ifnullR dX8_costs_16 ?_
  refine r_aload dX8_costs_19 0 rfl ?_
  refine r_ifnullR dX8_costs_21 ?_
  refine r_iload_n dX8_costs_24 rfl 5 rfl ?_
  refine r_aload_n dX8_costs_25 rfl 2 rfl ?_
  refine r_get 5 dX8_costs_26 fRX8_43 (hW.g 0 0 rfl) rfl ?_
  refine r_alen (v := nI 3) dX8_costs_29 (hW.g 10 0 rfl) rfl ?_
  refine r_callS (st := []) [.int (nI g), .int (nI 3)] 20 400 dX8_costs_30 kX8_isBelow nX8_isBelow lRX8_104 (c_isB (nI g) 3) rfl rfl (Nat.le_of_ble_eq_true rfl) (Nat.le_refl _) (Nat.le_refl _) (fun _ _ h => h.elim) ?_
  refine cx_det (st2 := [.int (b2i (inB (nI g) 3))]) rfl ?_
  refine r_if_ne 46 dX8_costs_33 (by decide) (fun c_1 => ?_) (fun c_1 => absurd c_1 (b2i_no (inB_k hg (by decide))))
  refine r_aload_n dX8_costs_46 rfl 2 rfl ?_
  refine r_aload dX8_costs_47 1 rfl ?_
  refine r_aload dX8_costs_49 0 rfl ?_
  refine r_iload_n dX8_costs_51 rfl 5 rfl ?_
  refine r_callV (st := []) [.ref (ad 27 l), .ref (ad 29 e), .int (nI g)] 20 400 dX8_costs_52 kX8_build nX8_build lRX8_248 (hW.g 0 0 rfl) rfl (c_build hW hI hP hl he hg) rfl rfl (Nat.le_of_ble_eq_true rfl) (Nat.le_refl _) (Nat.le_refl _) (fun _ _ h => h.elim) ?_
  intro r G_2 hr
  obtain ⟨rfl, hW_3⟩ := hr
  refine r_aload_n dX8_costs_55 rfl 2 rfl ?_
  refine r_get 6 dX8_costs_56 fRX8_50 (hW_3.g 0 0 rfl) rfl ?_
  have hcw := c_X3_countWords (d := d + 6) (b0 := b0) (pgs hW_3 (Nat.le_succ_of_le hok.2)) (fun k _ => pg_C hP hok.1 k)
  rw [wc_rg hok.2] at hcw
  refine r_callV (st := []) [] 20 400 dX8_costs_59 kX3_countWords nX3_countWords lRX8_265 (hW_3.g 11 0 rfl) rfl hcw rfl rfl (Nat.le_of_ble_eq_true rfl) (Nat.le_refl _) (Nat.le_refl _) (fun _ _ h => h.elim) ?_
  refine cx_det (st2 := [.int (nI (wcL (bld true (ltA A l e g))))]) rfl ?_
  refine r_aload_n dX8_costs_62 rfl 2 rfl ?_
  refine r_get 5 dX8_costs_63 fRX8_43 (hW_3.g 0 0 rfl) rfl ?_
  refine r_iload_n dX8_costs_66 rfl 5 rfl ?_
  refine r_iald dX8_costs_67 (hW_3.g 10 0 rfl) (vp_in_nI hg (by decide)) ?_
  refine r_top (nI (A 21 g)) (by rw [nI_cl (by omega), rg_pg (by decide)]; dsimp only [rg]; rw [if_pos hg, Nat.zero_add]) ?_
  refine r_imul dX8_costs_68 ?_
  refine r_top (nI (wcL (bld true (ltA A l e g)) * A 21 g)) (pk_mul _ _) ?_
  refine r_ireti dX8_costs_69 rfl ?_
  exact ⟨rfl, _, ad, hW_3, fun _ _ _ => rfl, pgS_Pag hP (Nat.le_succ_of_le hok.2) hok.1, fun f hf => pgS_f hf⟩
