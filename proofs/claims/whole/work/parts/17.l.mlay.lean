theorem isE_f {L : List Nat} (h : 1 ≤ L.length) : L.isEmpty = false := by
  cases L with
  | nil => exact absurd h (by decide)
  | cons a r => rfl
theorem isE_n {L : List Nat} (h : L.isEmpty = false) : L ≠ [] := fun q => by rw [q] at h; cases h
theorem lt26 {B : ST} {v l e g : Nat} : ltA (setA B 26 0 v) l e g = ltA B l e g := ltL_c (A := B) (A' := setA B 26 0 v) (fun f hf => fld26 (by omega)) _
theorem bl_me {B : ST} {L : List Nat} {t c : Nat} : meB (blS B L) t c = meB B t c := meB_c (fun f hf => blS_f hf)
set_option maxRecDepth 100000 in
set_option maxHeartbeats 4000000 in
theorem lp_X9_builds {d b0 : Nat} {G : GH} {A B : ST} {ad : AD} (hI : Inv B) {l e g : Nat} (hl : l < B 15 0) (he : e < B 18 0) (hg : g < 3) : ∀ (fu : Nat) (p : Nat) (G2 : GH), p ≤ B 17 l ∧ World A (blS B (ltL B l e g p)) ad G2 → B 17 l - p < fu → WP mX9_builds (d + 4) b0 (fun r G' => r = none ∧ World A (blS B (ltA B l e g)) ad G') (fun _ _ => False) G2 0 0 16 [(5, .int (nI p)), (4, .int (b2i (ltL B l e g p).isEmpty)), (0, .ref (ad 31 0)), (1, .int (nI l)), (2, .int (nI e)), (3, .int (nI g))] [] := by
  intro fu
  induction fu with
  | zero => intro p G2 hinv hn; exact absurd hn (Nat.not_lt_zero _)
  | succ fu ih =>
    intro p G2 hinv hn
    have hb15 := hI.b15
    have hb18 := hI.b18
    have hb9 := hI.b9
    have h17 := (hI.ro l (by omega)).1
    refine r_iload dX9_builds_16 0 rfl ?_
    refine r_aload_n dX9_builds_18 rfl 2 rfl ?_
    refine r_get 17 dX9_builds_19 fRX9_51 (hinv.2.g 31 0 rfl) rfl ?_
    refine r_iload_n dX9_builds_22 rfl 3 rfl ?_
    refine r_iald dX9_builds_23 (hinv.2.g 32 17 rfl) (vp_in_nI (by omega) (by decide)) ?_
    refine r_top (nI (B 17 l)) (by rw [nI_cl (by omega)]; exact rgm (by omega)) ?_
    refine r_icmp_ge 97 dX9_builds_24 (by decide) (fun c_1 => ?_) (fun c_1 => ?_)
    · refine r_vret dX9_builds_97 rfl ?_
      have hp : p = B 17 l := by have := ni_le (by omega) (by omega) c_1; omega
      have hq := hinv.2
      rw [hp] at hq
      exact ⟨rfl, hq⟩
    · have hp : p < B 17 l := ni_nle (by omega) (by omega) c_1
      have hcl : cla B l p < B 9 0 := ((hI.ro l (by omega)).2 p hp).1
      have hT : 3 * cla B l p + g < 30 := by omega
      have hok := ltL_ok hI hl he hg p (by omega)
      have hok2 := ltL_ok hI hl he hg (p + 1) hp
      have htl := txL_ok hI (t := 3 * cla B l p + g) (e := e) (g := g) hT he hg 60 0 rfl (Nat.zero_le _)
      have hstep : ltL B l e g (p + 1) = (if isL B l e g p = true then (if ltL B l e g p = [] then txL B (3 * cla B l p + g) e g 60 0 else ltL B l e g p ++ 32 :: txL B (3 * cla B l p + g) e g 60 0) else ltL B l e g p) := rfl
      refine r_aload_n dX9_builds_27 rfl 2 rfl ?_
      refine r_get 16 dX9_builds_28 fRX9_48 (hinv.2.g 31 0 rfl) rfl ?_
      refine r_bipush (v := 6) dX9_builds_31 (by decide) ?_
      refine r_iload_n dX9_builds_33 rfl 3 rfl ?_
      refine r_imul dX9_builds_34 ?_
      refine r_top (nI (6 * l)) (pk_mul 6 l) ?_
      refine r_iload dX9_builds_35 0 rfl ?_
      refine r_iadd dX9_builds_37 ?_
      refine r_top (nI (6 * l + p)) (nI_add _ _) ?_
      refine r_iald dX9_builds_38 (hinv.2.g 32 16 rfl) (vp_in_nI (by omega) (by decide)) ?_
      refine r_top (nI (B 16 (6 * l + p))) (by rw [nI_cl (by omega)]; exact rgm (by omega)) ?_
      refine r_top (nI (cla B l p)) rfl ?_
      refine r_istore [(6, .int (nI (cla B l p))), (5, .int (nI p)), (4, .int (b2i (ltL B l e g p).isEmpty)), (0, .ref (ad 31 0)), (1, .int (nI l)), (2, .int (nI e)), (3, .int (nI g))] dX9_builds_39 (by decide) rfl ?_
      refine r_iload dX9_builds_41 0 rfl ?_
      refine r_iload_n dX9_builds_43 rfl 6 rfl ?_
      refine r_callS (st := []) [.int (nI (cla B l p)), .int (nI g)] 0 0 dX9_builds_44 kX9_at nX9_at lRX9_128 (c_mat (cla B l p) g) rfl rfl (Nat.le_of_ble_eq_true rfl) (Nat.le_refl _) (Nat.le_refl _) (fun _ _ h => h.elim) ?_
      refine cx_det (st2 := [.int (nI (3 * (cla B l p) + g))]) rfl ?_
      refine r_istore [(7, .int (nI (3 * (cla B l p) + g))), (6, .int (nI (cla B l p))), (5, .int (nI p)), (4, .int (b2i (ltL B l e g p).isEmpty)), (0, .ref (ad 31 0)), (1, .int (nI l)), (2, .int (nI e)), (3, .int (nI g))] dX9_builds_47 (by decide) rfl ?_
      refine r_aload_n dX9_builds_49 rfl 4 rfl ?_
      refine r_iload_n dX9_builds_50 rfl 6 rfl ?_
      refine r_iload dX9_builds_51 1 rfl ?_
      have hme := c_mmeets (d := d + 3) (b0 := b0) hinv.2 (t := e) (c := cla B l p) (by omega) (by omega)
      rw [bl_me] at hme
      refine r_callV (st := []) [.int (nI e), .int (nI (cla B l p))] 0 0 dX9_builds_53 kX9_meets nX9_meets lRX9_144 (hinv.2.g 31 0 rfl) rfl hme rfl rfl (Nat.le_of_ble_eq_true rfl) (Nat.le_refl _) (Nat.le_refl _) (fun _ _ h => h.elim) ?_
      refine cx_det (st2 := [.int (b2i (meB B e (cla B l p)))]) rfl ?_
      refine r_if_eq 91 dX9_builds_56 (by decide) (fun c_4 => ?_) (fun c_4 => ?_)
      · have hisf : isL B l e g p = false := by unfold isL; rw [b2i_0 c_4]; rfl
        rw [if_neg (by rw [hisf]; decide)] at hstep
        refine r_iinc (nI (p + 1)) [(5, .int (nI (p + 1))), (7, .int (nI (3 * (cla B l p) + g))), (6, .int (nI (cla B l p))), (4, .int (b2i (ltL B l e g p).isEmpty)), (0, .ref (ad 31 0)), (1, .int (nI l)), (2, .int (nI e)), (3, .int (nI g))] dX9_builds_91 2 rfl (nI_1 p) (by decide) rfl ?_
        refine r_goto 16 dX9_builds_94 (by decide) ?_
        have hq := hinv.2
        rw [← hstep] at hq
        have hh := ih (p + 1) _ ⟨by omega, hq⟩ (by omega)
        rw [hstep] at hh
        exact WP.loc [0, 3, 4, 5, 6, 7] rfl hh
      · refine r_aload_n dX9_builds_59 rfl 4 rfl ?_
        refine r_get 12 dX9_builds_60 fRX9_38 (hinv.2.g 31 0 rfl) rfl ?_
        refine r_iload dX9_builds_63 0 rfl ?_
        refine r_iald dX9_builds_65 (hinv.2.g 32 12 rfl) (vp_in_nI (by omega) (by decide)) ?_
        refine r_top (nI (B 12 (3 * (cla B l p) + g))) (by rw [nI_cl (by omega)]; exact rgm (by omega)) ?_
        refine r_if_le 91 dX9_builds_66 (by decide) (fun c_5 => ?_) (fun c_5 => ?_)
        · have hisf : isL B l e g p = false := by unfold isL; rw [decide_eq_false (fun q => q (by have h9 := ni_le (b := 0) (by have := (hI.tx _ hT).1; omega) (by decide) c_5; omega)), Bool.and_false]
          rw [if_neg (by rw [hisf]; decide)] at hstep
          refine r_iinc (nI (p + 1)) [(5, .int (nI (p + 1))), (7, .int (nI (3 * (cla B l p) + g))), (6, .int (nI (cla B l p))), (4, .int (b2i (ltL B l e g p).isEmpty)), (0, .ref (ad 31 0)), (1, .int (nI l)), (2, .int (nI e)), (3, .int (nI g))] dX9_builds_91 2 rfl (nI_1 p) (by decide) rfl ?_
          refine r_goto 16 dX9_builds_94 (by decide) ?_
          have hq := hinv.2
          rw [← hstep] at hq
          have hh := ih (p + 1) _ ⟨by omega, hq⟩ (by omega)
          rw [hstep] at hh
          exact WP.loc [0, 3, 4, 5, 6, 7] rfl hh
        · have hT0 : 0 < B 12 (3 * cla B l p + g) := ni_gt0 c_5
          have hisl : isL B l e g p = true := by unfold isL; rw [b2i_n0 c_4, decide_eq_true (show B 12 (3 * cla B l p + g) ≠ 0 by omega)]; rfl
          rw [if_pos hisl] at hstep
          have htx1 := htl.2.2 hT0 (by decide)
          have hne1 : (ltL B l e g (p + 1)).isEmpty = false := isE_f (by
            rw [hstep]
            split
            · exact htx1
            · rw [List.length_append, List.length_cons]; omega)
          refine r_iload dX9_builds_69 3 rfl ?_
          refine r_if_ne 80 dX9_builds_71 (by decide) (fun c_6 => ?_) (fun c_6 => ?_)
          · refine r_iconst (v := b2i (ltL B l e g (p + 1)).isEmpty) dX9_builds_80 (by rw [hne1]; rfl) ?_
            refine r_istore [(4, .int (b2i (ltL B l e g (p + 1)).isEmpty)), (7, .int (nI (3 * (cla B l p) + g))), (6, .int (nI (cla B l p))), (5, .int (nI p)), (0, .ref (ad 31 0)), (1, .int (nI l)), (2, .int (nI e)), (3, .int (nI g))] dX9_builds_81 (by decide) rfl ?_
            refine r_aload_n dX9_builds_83 rfl 4 rfl ?_
            refine r_iload dX9_builds_84 1 rfl ?_
            refine r_iload_n dX9_builds_86 rfl 6 rfl ?_
            refine r_iload_n dX9_builds_87 rfl 7 rfl ?_
            have hem : ltL B l e g p = [] := List.isEmpty_iff.mp (b2i_n0 c_6)
            rw [if_pos hem] at hstep
            have h9 := hok2.2
            rw [hstep] at h9
            refine r_callV (st := []) [.int (nI (3 * (cla B l p) + g)), .int (nI e), .int (nI g)] 0 0 dX9_builds_88 kX9_laysText nX9_laysText lRX9_173 (hinv.2.g 31 0 rfl) rfl (m_laysText hinv.2 hI hT he hg (by rw [hem]; show 0 + _ ≤ 1050; omega)) rfl rfl (Nat.le_of_ble_eq_true rfl) (Nat.le_refl _) (Nat.le_refl _) (fun _ _ h => h.elim) ?_
            refine cx_val (st2 := []) rfl ?_
            intro G_8 hW_9
            have hW_10 : World A (blS B ((ltL B l e g p) ++ txL B (3 * cla B l p + g) e g 60 0)) ad G_8 := hW_9
            rw [hem, List.nil_append, ← hstep] at hW_10
            refine r_iinc (nI (p + 1)) [(5, .int (nI (p + 1))), (4, .int (b2i (ltL B l e g (p + 1)).isEmpty)), (7, .int (nI (3 * (cla B l p) + g))), (6, .int (nI (cla B l p))), (0, .ref (ad 31 0)), (1, .int (nI l)), (2, .int (nI e)), (3, .int (nI g))] dX9_builds_91 3 rfl (nI_1 p) (by decide) rfl ?_
            refine r_goto 16 dX9_builds_94 (by decide) ?_
            exact WP.loc [0, 1, 4, 5, 6, 7] rfl (ih (p + 1) _ ⟨by omega, hW_10⟩ (by omega))
          · refine r_aload_n dX9_builds_74 rfl 4 rfl ?_
            refine r_bipush (v := 32) dX9_builds_75 (by decide) ?_
            refine r_callV (st := []) [.int 32] 0 0 dX9_builds_77 kX9_lays nX9_lays lRX9_158 (hinv.2.g 31 0 rfl) rfl (m_lay hinv.2 (by omega) (by decide)) rfl rfl (Nat.le_of_ble_eq_true rfl) (Nat.le_refl _) (Nat.le_refl _) (fun _ _ h => h.elim) ?_
            refine cx_val (st2 := []) rfl ?_
            intro G_11 hW_12
            have hW_13 : World A (blS B ((ltL B l e g p) ++ [32])) ad G_11 := hW_12
            refine r_iconst (v := b2i (ltL B l e g (p + 1)).isEmpty) dX9_builds_80 (by rw [hne1]; rfl) ?_
            refine r_istore [(4, .int (b2i (ltL B l e g (p + 1)).isEmpty)), (7, .int (nI (3 * (cla B l p) + g))), (6, .int (nI (cla B l p))), (5, .int (nI p)), (0, .ref (ad 31 0)), (1, .int (nI l)), (2, .int (nI e)), (3, .int (nI g))] dX9_builds_81 (by decide) rfl ?_
            refine r_aload_n dX9_builds_83 rfl 4 rfl ?_
            refine r_iload dX9_builds_84 1 rfl ?_
            refine r_iload_n dX9_builds_86 rfl 6 rfl ?_
            refine r_iload_n dX9_builds_87 rfl 7 rfl ?_
            have hne : ltL B l e g p ≠ [] := isE_n (b2i_0 c_6)
            rw [if_neg hne] at hstep
            have h9 := hok2.2
            rw [hstep, List.length_append, List.length_cons] at h9
            refine r_callV (st := []) [.int (nI (3 * (cla B l p) + g)), .int (nI e), .int (nI g)] 0 0 dX9_builds_88 kX9_laysText nX9_laysText lRX9_173 (hW_13.g 31 0 rfl) rfl (m_laysText hW_13 hI hT he hg (by rw [List.length_append]; show _ + 1 + _ ≤ 1050; omega)) rfl rfl (Nat.le_of_ble_eq_true rfl) (Nat.le_refl _) (Nat.le_refl _) (fun _ _ h => h.elim) ?_
            refine cx_val (st2 := []) rfl ?_
            intro G_15 hW_16
            have hW_17 : World A (blS B (((ltL B l e g p) ++ [32]) ++ txL B (3 * cla B l p + g) e g 60 0)) ad G_15 := hW_16
            rw [List.append_assoc, show [32] ++ txL B (3 * cla B l p + g) e g 60 0 = 32 :: txL B (3 * cla B l p + g) e g 60 0 from rfl, ← hstep] at hW_17
            refine r_iinc (nI (p + 1)) [(5, .int (nI (p + 1))), (4, .int (b2i (ltL B l e g (p + 1)).isEmpty)), (7, .int (nI (3 * (cla B l p) + g))), (6, .int (nI (cla B l p))), (0, .ref (ad 31 0)), (1, .int (nI l)), (2, .int (nI e)), (3, .int (nI g))] dX9_builds_91 3 rfl (nI_1 p) (by decide) rfl ?_
            refine r_goto 16 dX9_builds_94 (by decide) ?_
            exact WP.loc [0, 1, 4, 5, 6, 7] rfl (ih (p + 1) _ ⟨by omega, hW_17⟩ (by omega))
set_option maxRecDepth 100000 in
set_option maxHeartbeats 4000000 in
theorem m_builds {d b0 : Nat} {G : GH} {A B : ST} {ad : AD} (hW : World A B ad G) (hI : Inv B) {l e g : Nat} (hl : l < B 15 0) (he : e < B 18 0) (hg : g < 3) : CT mX9_builds (d + 4) b0 G [.ref (ad 31 0), .int (nI l), .int (nI e), .int (nI g)] 0 0 (fun r G' => r = none ∧ World A (blS B (ltA B l e g)) ad G') (fun _ _ => False) := by
  refine CT.intro (by decide +kernel) rfl (Nat.le_of_ble_eq_true rfl) ?_
  show WP mX9_builds _ _ _ _ _ 0 0 0 [(0, .ref (ad 31 0)), (1, .int (nI l)), (2, .int (nI e)), (3, .int (nI g))] []
  refine r_aload_n dX9_builds_0 rfl 0 rfl ?_
  refine r_iconst (v := 0) dX9_builds_1 (by decide) ?_
  refine r_put 23 (.int) dX9_builds_2 gRX9_151 (hW.g 31 0 rfl) (Nat.le_of_ble_eq_true rfl) rfl rfl ?_
  have hW_1 : World A (setA B 23 0 0) ad (va_up G (ad 31 0) (some (.inr (9, (mF B ad).set 23 (.int (nI 0)))))) := m_s23 hW 0
  refine r_heap (G' := va_up G (ad 31 0) (some (.inr (9, (mF B ad).set 23 (.int (nI 0)))))) rfl ?_
  refine r_aload_n dX9_builds_5 rfl 0 rfl ?_
  refine r_iconst (v := 1) dX9_builds_6 (by decide) ?_
  refine r_put 24 (.boolean) dX9_builds_7 gRX9_154 (hW_1.g 31 0 rfl) (Nat.le_of_ble_eq_true rfl) rfl rfl ?_
  have hW_2 : World A (setA (setA B 23 0 0) 24 0 1) ad (va_up (va_up G (ad 31 0) (some (.inr (9, (mF B ad).set 23 (.int (nI 0)))))) (ad 31 0) (some (.inr (9, (mF (setA B 23 0 0) ad).set 24 (.int (nI 1)))))) := m_s24 hW_1 1
  refine r_heap (G' := va_up (va_up G (ad 31 0) (some (.inr (9, (mF B ad).set 23 (.int (nI 0)))))) (ad 31 0) (some (.inr (9, (mF (setA B 23 0 0) ad).set 24 (.int (nI 1)))))) rfl ?_
  have hq := hW_2
  rw [blS_start] at hq
  refine r_iconst (v := b2i (ltL B l e g 0).isEmpty) dX9_builds_10 rfl ?_
  refine r_istore [(4, .int (b2i (ltL B l e g 0).isEmpty)), (0, .ref (ad 31 0)), (1, .int (nI l)), (2, .int (nI e)), (3, .int (nI g))] dX9_builds_11 (by decide) rfl ?_
  refine r_iconst (v := nI 0) dX9_builds_13 (by decide) ?_
  refine r_istore [(5, .int (nI 0)), (4, .int (b2i (ltL B l e g 0).isEmpty)), (0, .ref (ad 31 0)), (1, .int (nI l)), (2, .int (nI e)), (3, .int (nI g))] dX9_builds_14 (by decide) rfl ?_
  exact lp_X9_builds (G := G) hI hl he hg _ 0 _ ⟨Nat.zero_le _, hq⟩ (Nat.lt_succ_self _)
set_option maxRecDepth 100000 in
set_option maxHeartbeats 4000000 in
theorem m_signOf_0 {d b0 : Nat} {G : GH} {A B : ST} {ad : AD} (hW : World A B ad G) (hI : Inv B) {l e g : Nat} (hl : l < B 15 0) (he : e < B 18 0) (hg : g < 3) {k : Nat} (hk : k < 2 ^ 31) : CT mX9_signOf (d + 5) b0 G [.ref (ad 31 0), .int (nI l), .int (nI e), .int (nI g), .int (nI k)] 0 0 (MPo (nI ((bld true (ltA B l e g)).getD k 0)) 0 B A ad) (fun _ _ => False) := by
  have hb0 := hI.b0
  have hb2 := hI.b2
  have hb9 := hI.b9
  have hb15 := hI.b15
  have hb18 := hI.b18
  have hok := ltA_ok hI hl he hg
  refine CT.intro (by decide +kernel) rfl (Nat.le_of_ble_eq_true rfl) ?_
  show WP mX9_signOf _ _ _ _ _ 0 0 0 [(0, .ref (ad 31 0)), (1, .int (nI l)), (2, .int (nI e)), (3, .int (nI g)), (4, .int (nI k))] []
  refine r_aload_n dX9_signOf_0 rfl 0 rfl ?_
  refine r_iload_n dX9_signOf_1 rfl 1 rfl ?_
  refine r_callV (st := []) [.int (nI l)] 0 0 dX9_signOf_2 kX9_isLetter nX9_isLetter lRX9_135 (hW.g 31 0 rfl) rfl (c_X9_isLetter hW (Nat.le_trans hb15 (by decide)) (nI l)) rfl rfl (Nat.le_of_ble_eq_true rfl) (Nat.le_refl _) (Nat.le_refl _) (fun _ _ h => h.elim) ?_
  refine cx_det (st2 := [.int (b2i (inB (nI l) (B 15 0)))]) rfl ?_
  refine r_if_eq 32 dX9_signOf_5 (by decide) (fun c_1 => absurd c_1 (b2i_no (inB_k hl (by omega)))) (fun c_1 => ?_)
  refine r_aload_n dX9_signOf_8 rfl 0 rfl ?_
  refine r_iload_n dX9_signOf_9 rfl 2 rfl ?_
  refine r_callV (st := []) [.int (nI e)] 0 0 dX9_signOf_10 kX9_isData nX9_isData lRX9_141 (hW.g 31 0 rfl) rfl (c_X9_isData hW (Nat.le_trans hb18 (by decide)) (nI e)) rfl rfl (Nat.le_of_ble_eq_true rfl) (Nat.le_refl _) (Nat.le_refl _) (fun _ _ h => h.elim) ?_
  refine cx_det (st2 := [.int (b2i (inB (nI e) (B 18 0)))]) rfl ?_
  refine r_if_eq 32 dX9_signOf_13 (by decide) (fun c_2 => absurd c_2 (b2i_no (inB_k he (by omega)))) (fun c_2 => ?_)
  refine r_iload_n dX9_signOf_16 rfl 3 rfl ?_
  refine r_callS (st := []) [.int (nI g)] 0 0 dX9_signOf_17 kX9_isLanguage nX9_isLanguage lRX9_108 (c_mLang (nI g)) rfl rfl (Nat.le_of_ble_eq_true rfl) (Nat.le_refl _) (Nat.le_refl _) (fun _ _ h => h.elim) ?_
  refine cx_det (st2 := [.int (b2i (inB (nI g) 3))]) rfl ?_
  refine r_if_eq 32 dX9_signOf_20 (by decide) (fun c_3 => absurd c_3 (b2i_no (inB_k hg (by decide)))) (fun c_3 => ?_)
  refine r_iload dX9_signOf_23 4 rfl ?_
  refine r_if_lt 32 dX9_signOf_25 (by decide) (fun c_4 => absurd c_4 (nI_pos (by omega))) (fun c_4 => ?_)
  refine r_iconst (v := 1) dX9_signOf_28 (by decide) ?_
  refine r_goto 33 dX9_signOf_29 (by decide) ?_
  refine r_istore [(5, .int 1), (0, .ref (ad 31 0)), (1, .int (nI l)), (2, .int (nI e)), (3, .int (nI g)), (4, .int (nI k))] dX9_signOf_33 (by decide) rfl ?_
  refine r_aload_n dX9_signOf_35 rfl 1 rfl ?_
  refine r_iload dX9_signOf_36 0 rfl ?_
  refine r_if_eq 45 dX9_signOf_38 (by decide) (fun c_5 => absurd c_5 (by decide)) (fun c_5 => ?_)
  refine r_iconst (v := 0) dX9_signOf_41 (by decide) ?_
  refine r_goto 46 dX9_signOf_42 (by decide) ?_
  refine r_callV (st := []) [.int 0] 0 0 dX9_signOf_46 kX9_goes nX9_goes lRX9_92 (hW.g 31 0 rfl) rfl (c_goes hW 0) rfl rfl (Nat.le_of_ble_eq_true rfl) (Nat.le_refl _) (Nat.le_refl _) (fun _ _ h => h.elim) ?_
  refine cx_det (st2 := [.int 1]) rfl ?_
  have hW_6 : World A (setA B 26 0 0) ad (va_up G (ad 31 0) (some (.inr (9, (mF B ad).set 26 (.int (nI 0)))))) := m_s26 hW 0
  refine r_heap (G' := va_up G (ad 31 0) (some (.inr (9, (mF B ad).set 26 (.int (nI 0)))))) rfl ?_
  refine r_if_ne 54 dX9_signOf_49 (by decide) (fun c_7 => ?_) (fun c_7 => absurd c_7 (by decide))
  refine r_aload_n dX9_signOf_54 rfl 1 rfl ?_
  refine r_iload_n dX9_signOf_55 rfl 2 rfl ?_
  refine r_iload_n dX9_signOf_56 rfl 3 rfl ?_
  refine r_iload_n dX9_signOf_57 rfl 4 rfl ?_
  refine r_callV (st := []) [.int (nI l), .int (nI e), .int (nI g)] 0 0 dX9_signOf_58 kX9_builds nX9_builds lRX9_176 (hW_6.g 31 0 rfl) rfl (m_builds hW_6 (Inv.congr (fun f hf => fld26 (by omega)) hI) hl he hg) rfl rfl (Nat.le_of_ble_eq_true rfl) (Nat.le_refl _) (Nat.le_refl _) (fun _ _ h => h.elim) ?_
  refine cx_val (st2 := []) rfl ?_
  intro G_8 hW_9
  have hW_10 : World A (blS (setA B 26 0 0) (ltA (setA B 26 0 0) l e g)) ad G_8 := hW_9
  rw [lt26] at hW_10
  refine r_iload dX9_signOf_61 5 rfl ?_
  refine r_aload_n dX9_signOf_63 rfl 1 rfl ?_
  refine r_get 23 dX9_signOf_64 fRX9_151 (hW_10.g 31 0 rfl) rfl ?_
  refine r_top (nI ((ltA B l e g).length)) rfl ?_
  refine r_icmp_ge 80 dX9_signOf_67 (by decide) (fun c_11 => ?_) (fun c_11 => ?_)
  · have hge : (ltA B l e g).length ≤ k := ni_le (by omega) (by omega) c_11
    refine r_iconst (v := nI ((bld true (ltA B l e g)).getD k 0)) dX9_signOf_80 (by rw [getD_big (by rw [bld_len]; exact hge)]; rfl) ?_
    refine r_ret .char dX9_signOf_81 rfl (isC_nI (getD_lt (bld_lt _ true (fun x hx => rawS_lt (hok.1 x hx))) (by decide))) ?_
    exact ⟨rfl, (blS (setA B 26 0 0) (ltA B l e g)), hW_10, rfl, (sbl (s26 (fun f _ => rfl)))⟩
  · refine r_aload_n dX9_signOf_70 rfl 1 rfl ?_
    refine r_get 22 dX9_signOf_71 fRX9_63 (hW_10.g 31 0 rfl) rfl ?_
    refine r_iload dX9_signOf_74 5 rfl ?_
    have hlt : k < (ltA B l e g).length := ni_nle (by omega) (by omega) c_11
    refine r_cald dX9_signOf_76 (hW_10.g 32 22 rfl) (vp_in_nI (show k < 1100 by omega) (by decide)) ?_
    refine r_top (nI ((blS (setA B 26 0 0) (ltA B l e g)) 22 k)) (by rw [nI_cl (by omega)]; exact rgm (show k < 1100 by omega)) ?_
    refine r_top (nI ((bld true (ltA B l e g)).getD k 0)) (congrArg nI (getD_z (by rw [bld_len]; exact hlt))) ?_
    refine r_goto 81 dX9_signOf_77 (by decide) ?_
    refine r_ret .char dX9_signOf_81 rfl (isC_nI (getD_lt (bld_lt _ true (fun x hx => rawS_lt (hok.1 x hx))) (by decide))) ?_
    exact ⟨rfl, (blS (setA B 26 0 0) (ltA B l e g)), hW_10, rfl, (sbl (s26 (fun f _ => rfl)))⟩
set_option maxRecDepth 100000 in
set_option maxHeartbeats 4000000 in
theorem m_signOf_1a {d b0 : Nat} {G : GH} {A B : ST} {ad : AD} (hW : World A B ad G) (hI : Inv B) {x y z u : Int32} (hx : inB x (B 15 0) = false) : CT mX9_signOf (d + 5) b0 G [.ref (ad 31 0), .int x, .int y, .int z, .int u] 0 0 (MPo 0 1 B A ad) (fun _ _ => False) := by
  have hb0 := hI.b0
  have hb2 := hI.b2
  have hb9 := hI.b9
  have hb15 := hI.b15
  have hb18 := hI.b18
  refine CT.intro (by decide +kernel) rfl (Nat.le_of_ble_eq_true rfl) ?_
  show WP mX9_signOf _ _ _ _ _ 0 0 0 [(0, .ref (ad 31 0)), (1, .int x), (2, .int y), (3, .int z), (4, .int u)] []
  refine r_aload_n dX9_signOf_0 rfl 0 rfl ?_
  refine r_iload_n dX9_signOf_1 rfl 1 rfl ?_
  refine r_callV (st := []) [.int x] 0 0 dX9_signOf_2 kX9_isLetter nX9_isLetter lRX9_135 (hW.g 31 0 rfl) rfl (c_X9_isLetter hW (Nat.le_trans hb15 (by decide)) x) rfl rfl (Nat.le_of_ble_eq_true rfl) (Nat.le_refl _) (Nat.le_refl _) (fun _ _ h => h.elim) ?_
  refine cx_det (st2 := [.int (b2i (inB x (B 15 0)))]) rfl ?_
  refine r_if_eq 32 dX9_signOf_5 (by decide) (fun c_1 => ?_) (fun c_1 => absurd (b2i_z hx) c_1)
  refine r_iconst (v := 0) dX9_signOf_32 (by decide) ?_
  refine r_istore [(5, .int 0), (0, .ref (ad 31 0)), (1, .int x), (2, .int y), (3, .int z), (4, .int u)] dX9_signOf_33 (by decide) rfl ?_
  refine r_aload_n dX9_signOf_35 rfl 1 rfl ?_
  refine r_iload dX9_signOf_36 0 rfl ?_
  refine r_if_eq 45 dX9_signOf_38 (by decide) (fun c_2 => ?_) (fun c_2 => absurd (by decide) c_2)
  refine r_iconst (v := 1) dX9_signOf_45 (by decide) ?_
  refine r_callV (st := []) [.int 1] 0 0 dX9_signOf_46 kX9_goes nX9_goes lRX9_92 (hW.g 31 0 rfl) rfl (c_goes hW 1) rfl rfl (Nat.le_of_ble_eq_true rfl) (Nat.le_refl _) (Nat.le_refl _) (fun _ _ h => h.elim) ?_
  refine cx_det (st2 := [.int 0]) rfl ?_
  have hW_3 : World A (setA B 26 0 1) ad (va_up G (ad 31 0) (some (.inr (9, (mF B ad).set 26 (.int (nI 1)))))) := m_s26 hW 1
  refine r_heap (G' := va_up G (ad 31 0) (some (.inr (9, (mF B ad).set 26 (.int (nI 1)))))) rfl ?_
  refine r_if_ne 54 dX9_signOf_49 (by decide) (fun c_4 => absurd (by decide) c_4) (fun c_4 => ?_)
  refine r_iconst (v := 0) dX9_signOf_52 (by decide) ?_
  refine r_ret .char dX9_signOf_53 rfl rfl ?_
  exact ⟨rfl, (setA B 26 0 1), hW_3, rfl, (s26 (fun f _ => rfl))⟩
set_option maxRecDepth 100000 in
set_option maxHeartbeats 4000000 in
theorem m_signOf_1b {d b0 : Nat} {G : GH} {A B : ST} {ad : AD} (hW : World A B ad G) (hI : Inv B) {l : Nat} {y z u : Int32} (hl : l < B 15 0) (hy : inB y (B 18 0) = false) : CT mX9_signOf (d + 5) b0 G [.ref (ad 31 0), .int (nI l), .int y, .int z, .int u] 0 0 (MPo 0 1 B A ad) (fun _ _ => False) := by
  have hb0 := hI.b0
  have hb2 := hI.b2
  have hb9 := hI.b9
  have hb15 := hI.b15
  have hb18 := hI.b18
  refine CT.intro (by decide +kernel) rfl (Nat.le_of_ble_eq_true rfl) ?_
  show WP mX9_signOf _ _ _ _ _ 0 0 0 [(0, .ref (ad 31 0)), (1, .int (nI l)), (2, .int y), (3, .int z), (4, .int u)] []
  refine r_aload_n dX9_signOf_0 rfl 0 rfl ?_
  refine r_iload_n dX9_signOf_1 rfl 1 rfl ?_
  refine r_callV (st := []) [.int (nI l)] 0 0 dX9_signOf_2 kX9_isLetter nX9_isLetter lRX9_135 (hW.g 31 0 rfl) rfl (c_X9_isLetter hW (Nat.le_trans hb15 (by decide)) (nI l)) rfl rfl (Nat.le_of_ble_eq_true rfl) (Nat.le_refl _) (Nat.le_refl _) (fun _ _ h => h.elim) ?_
  refine cx_det (st2 := [.int (b2i (inB (nI l) (B 15 0)))]) rfl ?_
  refine r_if_eq 32 dX9_signOf_5 (by decide) (fun c_1 => absurd c_1 (b2i_no (inB_k hl (by omega)))) (fun c_1 => ?_)
  refine r_aload_n dX9_signOf_8 rfl 0 rfl ?_
  refine r_iload_n dX9_signOf_9 rfl 2 rfl ?_
  refine r_callV (st := []) [.int y] 0 0 dX9_signOf_10 kX9_isData nX9_isData lRX9_141 (hW.g 31 0 rfl) rfl (c_X9_isData hW (Nat.le_trans hb18 (by decide)) y) rfl rfl (Nat.le_of_ble_eq_true rfl) (Nat.le_refl _) (Nat.le_refl _) (fun _ _ h => h.elim) ?_
  refine cx_det (st2 := [.int (b2i (inB y (B 18 0)))]) rfl ?_
  refine r_if_eq 32 dX9_signOf_13 (by decide) (fun c_2 => ?_) (fun c_2 => absurd (b2i_z hy) c_2)
  refine r_iconst (v := 0) dX9_signOf_32 (by decide) ?_
  refine r_istore [(5, .int 0), (0, .ref (ad 31 0)), (1, .int (nI l)), (2, .int y), (3, .int z), (4, .int u)] dX9_signOf_33 (by decide) rfl ?_
  refine r_aload_n dX9_signOf_35 rfl 1 rfl ?_
  refine r_iload dX9_signOf_36 0 rfl ?_
  refine r_if_eq 45 dX9_signOf_38 (by decide) (fun c_3 => ?_) (fun c_3 => absurd (by decide) c_3)
  refine r_iconst (v := 1) dX9_signOf_45 (by decide) ?_
  refine r_callV (st := []) [.int 1] 0 0 dX9_signOf_46 kX9_goes nX9_goes lRX9_92 (hW.g 31 0 rfl) rfl (c_goes hW 1) rfl rfl (Nat.le_of_ble_eq_true rfl) (Nat.le_refl _) (Nat.le_refl _) (fun _ _ h => h.elim) ?_
  refine cx_det (st2 := [.int 0]) rfl ?_
  have hW_4 : World A (setA B 26 0 1) ad (va_up G (ad 31 0) (some (.inr (9, (mF B ad).set 26 (.int (nI 1)))))) := m_s26 hW 1
  refine r_heap (G' := va_up G (ad 31 0) (some (.inr (9, (mF B ad).set 26 (.int (nI 1)))))) rfl ?_
  refine r_if_ne 54 dX9_signOf_49 (by decide) (fun c_5 => absurd (by decide) c_5) (fun c_5 => ?_)
  refine r_iconst (v := 0) dX9_signOf_52 (by decide) ?_
  refine r_ret .char dX9_signOf_53 rfl rfl ?_
  exact ⟨rfl, (setA B 26 0 1), hW_4, rfl, (s26 (fun f _ => rfl))⟩
set_option maxRecDepth 100000 in
set_option maxHeartbeats 4000000 in
theorem m_signOf_1c {d b0 : Nat} {G : GH} {A B : ST} {ad : AD} (hW : World A B ad G) (hI : Inv B) {l e : Nat} {z u : Int32} (hl : l < B 15 0) (he : e < B 18 0) (hz : inB z 3 = false) : CT mX9_signOf (d + 5) b0 G [.ref (ad 31 0), .int (nI l), .int (nI e), .int z, .int u] 0 0 (MPo 0 1 B A ad) (fun _ _ => False) := by
  have hb0 := hI.b0
  have hb2 := hI.b2
  have hb9 := hI.b9
  have hb15 := hI.b15
  have hb18 := hI.b18
  refine CT.intro (by decide +kernel) rfl (Nat.le_of_ble_eq_true rfl) ?_
  show WP mX9_signOf _ _ _ _ _ 0 0 0 [(0, .ref (ad 31 0)), (1, .int (nI l)), (2, .int (nI e)), (3, .int z), (4, .int u)] []
  refine r_aload_n dX9_signOf_0 rfl 0 rfl ?_
  refine r_iload_n dX9_signOf_1 rfl 1 rfl ?_
  refine r_callV (st := []) [.int (nI l)] 0 0 dX9_signOf_2 kX9_isLetter nX9_isLetter lRX9_135 (hW.g 31 0 rfl) rfl (c_X9_isLetter hW (Nat.le_trans hb15 (by decide)) (nI l)) rfl rfl (Nat.le_of_ble_eq_true rfl) (Nat.le_refl _) (Nat.le_refl _) (fun _ _ h => h.elim) ?_
  refine cx_det (st2 := [.int (b2i (inB (nI l) (B 15 0)))]) rfl ?_
  refine r_if_eq 32 dX9_signOf_5 (by decide) (fun c_1 => absurd c_1 (b2i_no (inB_k hl (by omega)))) (fun c_1 => ?_)
  refine r_aload_n dX9_signOf_8 rfl 0 rfl ?_
  refine r_iload_n dX9_signOf_9 rfl 2 rfl ?_
  refine r_callV (st := []) [.int (nI e)] 0 0 dX9_signOf_10 kX9_isData nX9_isData lRX9_141 (hW.g 31 0 rfl) rfl (c_X9_isData hW (Nat.le_trans hb18 (by decide)) (nI e)) rfl rfl (Nat.le_of_ble_eq_true rfl) (Nat.le_refl _) (Nat.le_refl _) (fun _ _ h => h.elim) ?_
  refine cx_det (st2 := [.int (b2i (inB (nI e) (B 18 0)))]) rfl ?_
  refine r_if_eq 32 dX9_signOf_13 (by decide) (fun c_2 => absurd c_2 (b2i_no (inB_k he (by omega)))) (fun c_2 => ?_)
  refine r_iload_n dX9_signOf_16 rfl 3 rfl ?_
  refine r_callS (st := []) [.int z] 0 0 dX9_signOf_17 kX9_isLanguage nX9_isLanguage lRX9_108 (c_mLang z) rfl rfl (Nat.le_of_ble_eq_true rfl) (Nat.le_refl _) (Nat.le_refl _) (fun _ _ h => h.elim) ?_
  refine cx_det (st2 := [.int (b2i (inB z 3))]) rfl ?_
  refine r_if_eq 32 dX9_signOf_20 (by decide) (fun c_3 => ?_) (fun c_3 => absurd (b2i_z hz) c_3)
  refine r_iconst (v := 0) dX9_signOf_32 (by decide) ?_
  refine r_istore [(5, .int 0), (0, .ref (ad 31 0)), (1, .int (nI l)), (2, .int (nI e)), (3, .int z), (4, .int u)] dX9_signOf_33 (by decide) rfl ?_
  refine r_aload_n dX9_signOf_35 rfl 1 rfl ?_
  refine r_iload dX9_signOf_36 0 rfl ?_
  refine r_if_eq 45 dX9_signOf_38 (by decide) (fun c_4 => ?_) (fun c_4 => absurd (by decide) c_4)
  refine r_iconst (v := 1) dX9_signOf_45 (by decide) ?_
  refine r_callV (st := []) [.int 1] 0 0 dX9_signOf_46 kX9_goes nX9_goes lRX9_92 (hW.g 31 0 rfl) rfl (c_goes hW 1) rfl rfl (Nat.le_of_ble_eq_true rfl) (Nat.le_refl _) (Nat.le_refl _) (fun _ _ h => h.elim) ?_
  refine cx_det (st2 := [.int 0]) rfl ?_
  have hW_5 : World A (setA B 26 0 1) ad (va_up G (ad 31 0) (some (.inr (9, (mF B ad).set 26 (.int (nI 1)))))) := m_s26 hW 1
  refine r_heap (G' := va_up G (ad 31 0) (some (.inr (9, (mF B ad).set 26 (.int (nI 1)))))) rfl ?_
  refine r_if_ne 54 dX9_signOf_49 (by decide) (fun c_6 => absurd (by decide) c_6) (fun c_6 => ?_)
  refine r_iconst (v := 0) dX9_signOf_52 (by decide) ?_
  refine r_ret .char dX9_signOf_53 rfl rfl ?_
  exact ⟨rfl, (setA B 26 0 1), hW_5, rfl, (s26 (fun f _ => rfl))⟩
set_option maxRecDepth 100000 in
set_option maxHeartbeats 4000000 in
theorem m_signOf_1d {d b0 : Nat} {G : GH} {A B : ST} {ad : AD} (hW : World A B ad G) (hI : Inv B) {l e g : Nat} {u : Int32} (hl : l < B 15 0) (he : e < B 18 0) (hg : g < 3) (hu : u < 0) : CT mX9_signOf (d + 5) b0 G [.ref (ad 31 0), .int (nI l), .int (nI e), .int (nI g), .int u] 0 0 (MPo 0 1 B A ad) (fun _ _ => False) := by
  have hb0 := hI.b0
  have hb2 := hI.b2
  have hb9 := hI.b9
  have hb15 := hI.b15
  have hb18 := hI.b18
  refine CT.intro (by decide +kernel) rfl (Nat.le_of_ble_eq_true rfl) ?_
  show WP mX9_signOf _ _ _ _ _ 0 0 0 [(0, .ref (ad 31 0)), (1, .int (nI l)), (2, .int (nI e)), (3, .int (nI g)), (4, .int u)] []
  refine r_aload_n dX9_signOf_0 rfl 0 rfl ?_
  refine r_iload_n dX9_signOf_1 rfl 1 rfl ?_
  refine r_callV (st := []) [.int (nI l)] 0 0 dX9_signOf_2 kX9_isLetter nX9_isLetter lRX9_135 (hW.g 31 0 rfl) rfl (c_X9_isLetter hW (Nat.le_trans hb15 (by decide)) (nI l)) rfl rfl (Nat.le_of_ble_eq_true rfl) (Nat.le_refl _) (Nat.le_refl _) (fun _ _ h => h.elim) ?_
  refine cx_det (st2 := [.int (b2i (inB (nI l) (B 15 0)))]) rfl ?_
  refine r_if_eq 32 dX9_signOf_5 (by decide) (fun c_1 => absurd c_1 (b2i_no (inB_k hl (by omega)))) (fun c_1 => ?_)
  refine r_aload_n dX9_signOf_8 rfl 0 rfl ?_
  refine r_iload_n dX9_signOf_9 rfl 2 rfl ?_
  refine r_callV (st := []) [.int (nI e)] 0 0 dX9_signOf_10 kX9_isData nX9_isData lRX9_141 (hW.g 31 0 rfl) rfl (c_X9_isData hW (Nat.le_trans hb18 (by decide)) (nI e)) rfl rfl (Nat.le_of_ble_eq_true rfl) (Nat.le_refl _) (Nat.le_refl _) (fun _ _ h => h.elim) ?_
  refine cx_det (st2 := [.int (b2i (inB (nI e) (B 18 0)))]) rfl ?_
  refine r_if_eq 32 dX9_signOf_13 (by decide) (fun c_2 => absurd c_2 (b2i_no (inB_k he (by omega)))) (fun c_2 => ?_)
  refine r_iload_n dX9_signOf_16 rfl 3 rfl ?_
  refine r_callS (st := []) [.int (nI g)] 0 0 dX9_signOf_17 kX9_isLanguage nX9_isLanguage lRX9_108 (c_mLang (nI g)) rfl rfl (Nat.le_of_ble_eq_true rfl) (Nat.le_refl _) (Nat.le_refl _) (fun _ _ h => h.elim) ?_
  refine cx_det (st2 := [.int (b2i (inB (nI g) 3))]) rfl ?_
  refine r_if_eq 32 dX9_signOf_20 (by decide) (fun c_3 => absurd c_3 (b2i_no (inB_k hg (by decide)))) (fun c_3 => ?_)
  refine r_iload dX9_signOf_23 4 rfl ?_
  refine r_if_lt 32 dX9_signOf_25 (by decide) (fun c_4 => ?_) (fun c_4 => absurd hu c_4)
  refine r_iconst (v := 0) dX9_signOf_32 (by decide) ?_
  refine r_istore [(5, .int 0), (0, .ref (ad 31 0)), (1, .int (nI l)), (2, .int (nI e)), (3, .int (nI g)), (4, .int u)] dX9_signOf_33 (by decide) rfl ?_
  refine r_aload_n dX9_signOf_35 rfl 1 rfl ?_
  refine r_iload dX9_signOf_36 0 rfl ?_
  refine r_if_eq 45 dX9_signOf_38 (by decide) (fun c_5 => ?_) (fun c_5 => absurd (by decide) c_5)
  refine r_iconst (v := 1) dX9_signOf_45 (by decide) ?_
  refine r_callV (st := []) [.int 1] 0 0 dX9_signOf_46 kX9_goes nX9_goes lRX9_92 (hW.g 31 0 rfl) rfl (c_goes hW 1) rfl rfl (Nat.le_of_ble_eq_true rfl) (Nat.le_refl _) (Nat.le_refl _) (fun _ _ h => h.elim) ?_
  refine cx_det (st2 := [.int 0]) rfl ?_
  have hW_6 : World A (setA B 26 0 1) ad (va_up G (ad 31 0) (some (.inr (9, (mF B ad).set 26 (.int (nI 1)))))) := m_s26 hW 1
  refine r_heap (G' := va_up G (ad 31 0) (some (.inr (9, (mF B ad).set 26 (.int (nI 1)))))) rfl ?_
  refine r_if_ne 54 dX9_signOf_49 (by decide) (fun c_7 => absurd (by decide) c_7) (fun c_7 => ?_)
  refine r_iconst (v := 0) dX9_signOf_52 (by decide) ?_
  refine r_ret .char dX9_signOf_53 rfl rfl ?_
  exact ⟨rfl, (setA B 26 0 1), hW_6, rfl, (s26 (fun f _ => rfl))⟩
set_option maxRecDepth 100000 in
set_option maxHeartbeats 4000000 in
theorem m_sign_0 {d b0 : Nat} {G : GH} {A B : ST} {ad : AD} (hW : World A B ad G) (hI : Inv B) {l e g : Nat} (hl : l < B 15 0) (he : e < B 18 0) (hg : g < 3) {k : Nat} (hk : k < 2 ^ 31) : CT mX9_sign (d + 6) b0 G [.ref (ad 31 0), .int (nI l), .int (nI e), .int (nI g), .int (nI k)] 0 0 (MPo (nI ((bld true (ltA B l e g)).getD k 0)) 0 B A ad) (fun _ _ => False) := by
  have hb0 := hI.b0
  have hb2 := hI.b2
  have hb9 := hI.b9
  have hb15 := hI.b15
  have hb18 := hI.b18
  have hok := ltA_ok hI hl he hg
  refine CT.intro (by decide +kernel) rfl (Nat.le_of_ble_eq_true rfl) ?_
  show WP mX9_sign _ _ _ _ _ 0 0 0 [(0, .ref (ad 31 0)), (1, .int (nI l)), (2, .int (nI e)), (3, .int (nI g)), (4, .int (nI k))] []
  refine r_aload_n dX9_sign_0 rfl 0 rfl ?_
  refine r_iload_n dX9_sign_1 rfl 1 rfl ?_
  refine r_iload_n dX9_sign_2 rfl 2 rfl ?_
  refine r_iload_n dX9_sign_3 rfl 3 rfl ?_
  refine r_iload dX9_sign_4 4 rfl ?_
  refine r_callV (st := []) [.int (nI l), .int (nI e), .int (nI g), .int (nI k)] 0 0 dX9_sign_6 kX9_signOf nX9_signOf lRX9_179 (hW.g 31 0 rfl) rfl (m_signOf_0 hW hI hl he hg hk) rfl rfl (Nat.le_of_ble_eq_true rfl) (Nat.le_refl _) (Nat.le_refl _) (fun _ _ h => h.elim) ?_
  intro r G9 hr
  obtain ⟨rfl, B9, hW9, h26, hst9⟩ := hr
  refine r_ret .char dX9_sign_9 rfl (isC_nI (getD_lt (bld_lt _ true (fun x hx => rawS_lt (hok.1 x hx))) (by decide))) ?_
  exact ⟨rfl, B9, hW9, h26, hst9⟩
set_option maxRecDepth 100000 in
set_option maxHeartbeats 4000000 in
theorem m_sign_1a {d b0 : Nat} {G : GH} {A B : ST} {ad : AD} (hW : World A B ad G) (hI : Inv B) {x y z u : Int32} (hx : inB x (B 15 0) = false) : CT mX9_sign (d + 6) b0 G [.ref (ad 31 0), .int x, .int y, .int z, .int u] 0 0 (MPo 0 1 B A ad) (fun _ _ => False) := by
  have hb0 := hI.b0
  have hb2 := hI.b2
  have hb9 := hI.b9
  have hb15 := hI.b15
  have hb18 := hI.b18
  refine CT.intro (by decide +kernel) rfl (Nat.le_of_ble_eq_true rfl) ?_
  show WP mX9_sign _ _ _ _ _ 0 0 0 [(0, .ref (ad 31 0)), (1, .int x), (2, .int y), (3, .int z), (4, .int u)] []
  refine r_aload_n dX9_sign_0 rfl 0 rfl ?_
  refine r_iload_n dX9_sign_1 rfl 1 rfl ?_
  refine r_iload_n dX9_sign_2 rfl 2 rfl ?_
  refine r_iload_n dX9_sign_3 rfl 3 rfl ?_
  refine r_iload dX9_sign_4 4 rfl ?_
  refine r_callV (st := []) [.int x, .int y, .int z, .int u] 0 0 dX9_sign_6 kX9_signOf nX9_signOf lRX9_179 (hW.g 31 0 rfl) rfl (m_signOf_1a hW hI hx) rfl rfl (Nat.le_of_ble_eq_true rfl) (Nat.le_refl _) (Nat.le_refl _) (fun _ _ h => h.elim) ?_
  intro r G9 hr
  obtain ⟨rfl, B9, hW9, h26, hst9⟩ := hr
  refine r_ret .char dX9_sign_9 rfl rfl ?_
  exact ⟨rfl, B9, hW9, h26, hst9⟩
set_option maxRecDepth 100000 in
set_option maxHeartbeats 4000000 in
theorem m_sign_1b {d b0 : Nat} {G : GH} {A B : ST} {ad : AD} (hW : World A B ad G) (hI : Inv B) {l : Nat} {y z u : Int32} (hl : l < B 15 0) (hy : inB y (B 18 0) = false) : CT mX9_sign (d + 6) b0 G [.ref (ad 31 0), .int (nI l), .int y, .int z, .int u] 0 0 (MPo 0 1 B A ad) (fun _ _ => False) := by
  have hb0 := hI.b0
  have hb2 := hI.b2
  have hb9 := hI.b9
  have hb15 := hI.b15
  have hb18 := hI.b18
  refine CT.intro (by decide +kernel) rfl (Nat.le_of_ble_eq_true rfl) ?_
  show WP mX9_sign _ _ _ _ _ 0 0 0 [(0, .ref (ad 31 0)), (1, .int (nI l)), (2, .int y), (3, .int z), (4, .int u)] []
  refine r_aload_n dX9_sign_0 rfl 0 rfl ?_
  refine r_iload_n dX9_sign_1 rfl 1 rfl ?_
  refine r_iload_n dX9_sign_2 rfl 2 rfl ?_
  refine r_iload_n dX9_sign_3 rfl 3 rfl ?_
  refine r_iload dX9_sign_4 4 rfl ?_
  refine r_callV (st := []) [.int (nI l), .int y, .int z, .int u] 0 0 dX9_sign_6 kX9_signOf nX9_signOf lRX9_179 (hW.g 31 0 rfl) rfl (m_signOf_1b hW hI hl hy) rfl rfl (Nat.le_of_ble_eq_true rfl) (Nat.le_refl _) (Nat.le_refl _) (fun _ _ h => h.elim) ?_
  intro r G9 hr
  obtain ⟨rfl, B9, hW9, h26, hst9⟩ := hr
  refine r_ret .char dX9_sign_9 rfl rfl ?_
  exact ⟨rfl, B9, hW9, h26, hst9⟩
set_option maxRecDepth 100000 in
set_option maxHeartbeats 4000000 in
theorem m_sign_1c {d b0 : Nat} {G : GH} {A B : ST} {ad : AD} (hW : World A B ad G) (hI : Inv B) {l e : Nat} {z u : Int32} (hl : l < B 15 0) (he : e < B 18 0) (hz : inB z 3 = false) : CT mX9_sign (d + 6) b0 G [.ref (ad 31 0), .int (nI l), .int (nI e), .int z, .int u] 0 0 (MPo 0 1 B A ad) (fun _ _ => False) := by
  have hb0 := hI.b0
  have hb2 := hI.b2
  have hb9 := hI.b9
  have hb15 := hI.b15
  have hb18 := hI.b18
  refine CT.intro (by decide +kernel) rfl (Nat.le_of_ble_eq_true rfl) ?_
  show WP mX9_sign _ _ _ _ _ 0 0 0 [(0, .ref (ad 31 0)), (1, .int (nI l)), (2, .int (nI e)), (3, .int z), (4, .int u)] []
  refine r_aload_n dX9_sign_0 rfl 0 rfl ?_
  refine r_iload_n dX9_sign_1 rfl 1 rfl ?_
  refine r_iload_n dX9_sign_2 rfl 2 rfl ?_
  refine r_iload_n dX9_sign_3 rfl 3 rfl ?_
  refine r_iload dX9_sign_4 4 rfl ?_
  refine r_callV (st := []) [.int (nI l), .int (nI e), .int z, .int u] 0 0 dX9_sign_6 kX9_signOf nX9_signOf lRX9_179 (hW.g 31 0 rfl) rfl (m_signOf_1c hW hI hl he hz) rfl rfl (Nat.le_of_ble_eq_true rfl) (Nat.le_refl _) (Nat.le_refl _) (fun _ _ h => h.elim) ?_
  intro r G9 hr
  obtain ⟨rfl, B9, hW9, h26, hst9⟩ := hr
  refine r_ret .char dX9_sign_9 rfl rfl ?_
  exact ⟨rfl, B9, hW9, h26, hst9⟩
set_option maxRecDepth 100000 in
set_option maxHeartbeats 4000000 in
theorem m_sign_1d {d b0 : Nat} {G : GH} {A B : ST} {ad : AD} (hW : World A B ad G) (hI : Inv B) {l e g : Nat} {u : Int32} (hl : l < B 15 0) (he : e < B 18 0) (hg : g < 3) (hu : u < 0) : CT mX9_sign (d + 6) b0 G [.ref (ad 31 0), .int (nI l), .int (nI e), .int (nI g), .int u] 0 0 (MPo 0 1 B A ad) (fun _ _ => False) := by
  have hb0 := hI.b0
  have hb2 := hI.b2
  have hb9 := hI.b9
  have hb15 := hI.b15
  have hb18 := hI.b18
  refine CT.intro (by decide +kernel) rfl (Nat.le_of_ble_eq_true rfl) ?_
  show WP mX9_sign _ _ _ _ _ 0 0 0 [(0, .ref (ad 31 0)), (1, .int (nI l)), (2, .int (nI e)), (3, .int (nI g)), (4, .int u)] []
  refine r_aload_n dX9_sign_0 rfl 0 rfl ?_
  refine r_iload_n dX9_sign_1 rfl 1 rfl ?_
  refine r_iload_n dX9_sign_2 rfl 2 rfl ?_
  refine r_iload_n dX9_sign_3 rfl 3 rfl ?_
  refine r_iload dX9_sign_4 4 rfl ?_
  refine r_callV (st := []) [.int (nI l), .int (nI e), .int (nI g), .int u] 0 0 dX9_sign_6 kX9_signOf nX9_signOf lRX9_179 (hW.g 31 0 rfl) rfl (m_signOf_1d hW hI hl he hg hu) rfl rfl (Nat.le_of_ble_eq_true rfl) (Nat.le_refl _) (Nat.le_refl _) (fun _ _ h => h.elim) ?_
  intro r G9 hr
  obtain ⟨rfl, B9, hW9, h26, hst9⟩ := hr
  refine r_ret .char dX9_sign_9 rfl rfl ?_
  exact ⟨rfl, B9, hW9, h26, hst9⟩
set_option maxRecDepth 100000 in
set_option maxHeartbeats 4000000 in
theorem m_signAnew_0 {d b0 : Nat} {G : GH} {A B : ST} {ad : AD} (hW : World A B ad G) (hI : Inv B) {l e g : Nat} (hl : l < B 15 0) (he : e < B 18 0) (hg : g < 3) {k : Nat} (hk : k < 2 ^ 31) : CT mX9_signAnew (d + 6) b0 G [.ref (ad 31 0), .int (nI l), .int (nI e), .int (nI g), .int (nI k)] 0 0 (MPo (nI ((bld true (ltA B l e g)).getD k 0)) 0 B A ad) (fun _ _ => False) := by
  have hb0 := hI.b0
  have hb2 := hI.b2
  have hb9 := hI.b9
  have hb15 := hI.b15
  have hb18 := hI.b18
  have hok := ltA_ok hI hl he hg
  refine CT.intro (by decide +kernel) rfl (Nat.le_of_ble_eq_true rfl) ?_
  show WP mX9_signAnew _ _ _ _ _ 0 0 0 [(0, .ref (ad 31 0)), (1, .int (nI l)), (2, .int (nI e)), (3, .int (nI g)), (4, .int (nI k))] []
  refine r_aload_n dX9_signAnew_0 rfl 0 rfl ?_
  refine r_iload_n dX9_signAnew_1 rfl 1 rfl ?_
  refine r_iload_n dX9_signAnew_2 rfl 2 rfl ?_
  refine r_iload_n dX9_signAnew_3 rfl 3 rfl ?_
  refine r_iload dX9_signAnew_4 4 rfl ?_
  refine r_callV (st := []) [.int (nI l), .int (nI e), .int (nI g), .int (nI k)] 0 0 dX9_signAnew_6 kX9_signOf nX9_signOf lRX9_179 (hW.g 31 0 rfl) rfl (m_signOf_0 hW hI hl he hg hk) rfl rfl (Nat.le_of_ble_eq_true rfl) (Nat.le_refl _) (Nat.le_refl _) (fun _ _ h => h.elim) ?_
  intro r G9 hr
  obtain ⟨rfl, B9, hW9, h26, hst9⟩ := hr
  refine r_ret .char dX9_signAnew_9 rfl (isC_nI (getD_lt (bld_lt _ true (fun x hx => rawS_lt (hok.1 x hx))) (by decide))) ?_
  exact ⟨rfl, B9, hW9, h26, hst9⟩
set_option maxRecDepth 100000 in
set_option maxHeartbeats 4000000 in
theorem m_signAnew_1a {d b0 : Nat} {G : GH} {A B : ST} {ad : AD} (hW : World A B ad G) (hI : Inv B) {x y z u : Int32} (hx : inB x (B 15 0) = false) : CT mX9_signAnew (d + 6) b0 G [.ref (ad 31 0), .int x, .int y, .int z, .int u] 0 0 (MPo 0 1 B A ad) (fun _ _ => False) := by
  have hb0 := hI.b0
  have hb2 := hI.b2
  have hb9 := hI.b9
  have hb15 := hI.b15
  have hb18 := hI.b18
  refine CT.intro (by decide +kernel) rfl (Nat.le_of_ble_eq_true rfl) ?_
  show WP mX9_signAnew _ _ _ _ _ 0 0 0 [(0, .ref (ad 31 0)), (1, .int x), (2, .int y), (3, .int z), (4, .int u)] []
  refine r_aload_n dX9_signAnew_0 rfl 0 rfl ?_
  refine r_iload_n dX9_signAnew_1 rfl 1 rfl ?_
  refine r_iload_n dX9_signAnew_2 rfl 2 rfl ?_
  refine r_iload_n dX9_signAnew_3 rfl 3 rfl ?_
  refine r_iload dX9_signAnew_4 4 rfl ?_
  refine r_callV (st := []) [.int x, .int y, .int z, .int u] 0 0 dX9_signAnew_6 kX9_signOf nX9_signOf lRX9_179 (hW.g 31 0 rfl) rfl (m_signOf_1a hW hI hx) rfl rfl (Nat.le_of_ble_eq_true rfl) (Nat.le_refl _) (Nat.le_refl _) (fun _ _ h => h.elim) ?_
  intro r G9 hr
  obtain ⟨rfl, B9, hW9, h26, hst9⟩ := hr
  refine r_ret .char dX9_signAnew_9 rfl rfl ?_
  exact ⟨rfl, B9, hW9, h26, hst9⟩
set_option maxRecDepth 100000 in
set_option maxHeartbeats 4000000 in
theorem m_signAnew_1b {d b0 : Nat} {G : GH} {A B : ST} {ad : AD} (hW : World A B ad G) (hI : Inv B) {l : Nat} {y z u : Int32} (hl : l < B 15 0) (hy : inB y (B 18 0) = false) : CT mX9_signAnew (d + 6) b0 G [.ref (ad 31 0), .int (nI l), .int y, .int z, .int u] 0 0 (MPo 0 1 B A ad) (fun _ _ => False) := by
  have hb0 := hI.b0
  have hb2 := hI.b2
  have hb9 := hI.b9
  have hb15 := hI.b15
  have hb18 := hI.b18
  refine CT.intro (by decide +kernel) rfl (Nat.le_of_ble_eq_true rfl) ?_
  show WP mX9_signAnew _ _ _ _ _ 0 0 0 [(0, .ref (ad 31 0)), (1, .int (nI l)), (2, .int y), (3, .int z), (4, .int u)] []
  refine r_aload_n dX9_signAnew_0 rfl 0 rfl ?_
  refine r_iload_n dX9_signAnew_1 rfl 1 rfl ?_
  refine r_iload_n dX9_signAnew_2 rfl 2 rfl ?_
  refine r_iload_n dX9_signAnew_3 rfl 3 rfl ?_
  refine r_iload dX9_signAnew_4 4 rfl ?_
  refine r_callV (st := []) [.int (nI l), .int y, .int z, .int u] 0 0 dX9_signAnew_6 kX9_signOf nX9_signOf lRX9_179 (hW.g 31 0 rfl) rfl (m_signOf_1b hW hI hl hy) rfl rfl (Nat.le_of_ble_eq_true rfl) (Nat.le_refl _) (Nat.le_refl _) (fun _ _ h => h.elim) ?_
  intro r G9 hr
  obtain ⟨rfl, B9, hW9, h26, hst9⟩ := hr
  refine r_ret .char dX9_signAnew_9 rfl rfl ?_
  exact ⟨rfl, B9, hW9, h26, hst9⟩
set_option maxRecDepth 100000 in
set_option maxHeartbeats 4000000 in
theorem m_signAnew_1c {d b0 : Nat} {G : GH} {A B : ST} {ad : AD} (hW : World A B ad G) (hI : Inv B) {l e : Nat} {z u : Int32} (hl : l < B 15 0) (he : e < B 18 0) (hz : inB z 3 = false) : CT mX9_signAnew (d + 6) b0 G [.ref (ad 31 0), .int (nI l), .int (nI e), .int z, .int u] 0 0 (MPo 0 1 B A ad) (fun _ _ => False) := by
  have hb0 := hI.b0
  have hb2 := hI.b2
  have hb9 := hI.b9
  have hb15 := hI.b15
  have hb18 := hI.b18
  refine CT.intro (by decide +kernel) rfl (Nat.le_of_ble_eq_true rfl) ?_
  show WP mX9_signAnew _ _ _ _ _ 0 0 0 [(0, .ref (ad 31 0)), (1, .int (nI l)), (2, .int (nI e)), (3, .int z), (4, .int u)] []
  refine r_aload_n dX9_signAnew_0 rfl 0 rfl ?_
  refine r_iload_n dX9_signAnew_1 rfl 1 rfl ?_
  refine r_iload_n dX9_signAnew_2 rfl 2 rfl ?_
  refine r_iload_n dX9_signAnew_3 rfl 3 rfl ?_
  refine r_iload dX9_signAnew_4 4 rfl ?_
  refine r_callV (st := []) [.int (nI l), .int (nI e), .int z, .int u] 0 0 dX9_signAnew_6 kX9_signOf nX9_signOf lRX9_179 (hW.g 31 0 rfl) rfl (m_signOf_1c hW hI hl he hz) rfl rfl (Nat.le_of_ble_eq_true rfl) (Nat.le_refl _) (Nat.le_refl _) (fun _ _ h => h.elim) ?_
  intro r G9 hr
  obtain ⟨rfl, B9, hW9, h26, hst9⟩ := hr
  refine r_ret .char dX9_signAnew_9 rfl rfl ?_
  exact ⟨rfl, B9, hW9, h26, hst9⟩
set_option maxRecDepth 100000 in
set_option maxHeartbeats 4000000 in
theorem m_signAnew_1d {d b0 : Nat} {G : GH} {A B : ST} {ad : AD} (hW : World A B ad G) (hI : Inv B) {l e g : Nat} {u : Int32} (hl : l < B 15 0) (he : e < B 18 0) (hg : g < 3) (hu : u < 0) : CT mX9_signAnew (d + 6) b0 G [.ref (ad 31 0), .int (nI l), .int (nI e), .int (nI g), .int u] 0 0 (MPo 0 1 B A ad) (fun _ _ => False) := by
  have hb0 := hI.b0
  have hb2 := hI.b2
  have hb9 := hI.b9
  have hb15 := hI.b15
  have hb18 := hI.b18
  refine CT.intro (by decide +kernel) rfl (Nat.le_of_ble_eq_true rfl) ?_
  show WP mX9_signAnew _ _ _ _ _ 0 0 0 [(0, .ref (ad 31 0)), (1, .int (nI l)), (2, .int (nI e)), (3, .int (nI g)), (4, .int u)] []
  refine r_aload_n dX9_signAnew_0 rfl 0 rfl ?_
  refine r_iload_n dX9_signAnew_1 rfl 1 rfl ?_
  refine r_iload_n dX9_signAnew_2 rfl 2 rfl ?_
  refine r_iload_n dX9_signAnew_3 rfl 3 rfl ?_
  refine r_iload dX9_signAnew_4 4 rfl ?_
  refine r_callV (st := []) [.int (nI l), .int (nI e), .int (nI g), .int u] 0 0 dX9_signAnew_6 kX9_signOf nX9_signOf lRX9_179 (hW.g 31 0 rfl) rfl (m_signOf_1d hW hI hl he hg hu) rfl rfl (Nat.le_of_ble_eq_true rfl) (Nat.le_refl _) (Nat.le_refl _) (fun _ _ h => h.elim) ?_
  intro r G9 hr
  obtain ⟨rfl, B9, hW9, h26, hst9⟩ := hr
  refine r_ret .char dX9_signAnew_9 rfl rfl ?_
  exact ⟨rfl, B9, hW9, h26, hst9⟩
theorem bld_raw : ∀ (L : List Nat) (o : Bool), (∀ x ∈ L, rawS x) → ∀ y ∈ bld o L, rawS y ∨ (65 ≤ y ∧ y ≤ 90)
  | [], _, _, y, hy => by cases hy
  | x :: r, o, h, y, hy => by
    rcases List.mem_cons.mp hy with e | e
    · rw [e]
      unfold capN
      split
      · rename_i hh
        rw [Bool.and_eq_true] at hh
        have h1 : 97 ≤ x ∧ x ≤ 122 := of_decide_eq_true hh.2
        exact Or.inr (by omega)
      · exact Or.inl (h x List.mem_cons_self)
    · exact bld_raw r _ (fun z hz => h z (List.mem_cons_of_mem _ hz)) y e
theorem lb_t {y : Nat} (hy : y < 65536) (h1 : y ≠ 32) (h2 : y ≠ 46) : lB (nI y) = true := by
  unfold lB
  rw [decide_eq_false (show ¬ nI y = 32 from li_ne hy (k := 32) (by decide) h1), decide_eq_false (show ¬ nI y = 46 from li_ne hy (k := 46) (by decide) h2)]; rfl
theorem lb_f {y : Nat} (h : y = 32 ∨ y = 46) : lB (nI y) = false := by
  rcases h with h | h <;> rw [h] <;> decide +kernel
set_option maxRecDepth 100000 in
set_option maxHeartbeats 4000000 in
theorem lp_X9_costs {d b0 : Nat} {G : GH} {A B : ST} {ad : AD} {L : List Nat} (hW : World A (blS (setA B 26 0 0) L) ad G) (hL1 : ∀ x ∈ L, rawS x) (hL2 : L.length ≤ 1013) {l e g : Nat} (hg : g < 3) : ∀ (fu : Nat) (k : Nat), k ≤ L.length → L.length - k < fu → WP mX9_costs (d + 5) b0 (MPo (nI (wcL (bld true L) * B 21 g)) 0 B A ad) (fun _ _ => False) G 0 0 65 [(7, .int (nI k)), (6, .int (b2i (wcs (fun j => nI ((bld true L).getD j 0)) k).2)), (5, .int (nI ((wcs (fun j => nI ((bld true L).getD j 0)) k).1))), (4, .int 1), (0, .ref (ad 31 0)), (1, .int (nI l)), (2, .int (nI e)), (3, .int (nI g))] [] := by
  intro fu
  induction fu with
  | zero => intro k hinv hn; exact absurd hn (Nat.not_lt_zero _)
  | succ fu ih =>
    intro k hinv hn
    refine r_iload dX9_costs_65 0 rfl ?_
    refine r_aload_n dX9_costs_67 rfl 4 rfl ?_
    refine r_get 23 dX9_costs_68 fRX9_151 (hW.g 31 0 rfl) rfl ?_
    refine r_top (nI (L.length)) rfl ?_
    refine r_icmp_ge 148 dX9_costs_71 (by decide) (fun c_1 => ?_) (fun c_1 => ?_)
    · refine r_iload dX9_costs_148 2 rfl ?_
      refine r_aload_n dX9_costs_150 rfl 4 rfl ?_
      refine r_get 21 dX9_costs_151 fRX9_60 (hW.g 31 0 rfl) rfl ?_
      refine r_iload_n dX9_costs_154 rfl 7 rfl ?_
      refine r_iald dX9_costs_155 (hW.g 32 21 rfl) (vp_in_nI (by omega) (by decide)) ?_
      refine r_top (nI (B 21 g)) (by rw [nI_cl (by omega)]; exact rgm (by omega)) ?_
      refine r_imul dX9_costs_156 ?_
      refine r_top (nI ((wcs (fun j => nI ((bld true L).getD j 0)) k).1 * B 21 g)) (pk_mul _ _) ?_
      refine r_ireti dX9_costs_157 rfl ?_
      have hk : k = L.length := by have := ni_le (by omega) (by omega) c_1; omega
      exact ⟨by unfold wcL; rw [bld_len, ← hk], (blS (setA B 26 0 0) L), hW, rfl, (sbl (s26 (fun f _ => rfl)))⟩
    · have hk : k < L.length := ni_nle (by omega) (by omega) c_1
      have hkb : k < (bld true L).length := by rw [bld_len]; exact hk
      have hym : (bld true L).getD k 0 ∈ bld true L := by rw [List.getD_eq_getElem?_getD, List.getElem?_eq_getElem hkb]; exact List.getElem_mem hkb
      have hyr := bld_raw L true hL1 _ hym
      have hy : (bld true L).getD k 0 < 65536 := bld_lt L true (fun x hx => rawS_lt (hL1 x hx)) _ hym
      refine r_aload_n dX9_costs_74 rfl 4 rfl ?_
      refine r_get 22 dX9_costs_75 fRX9_63 (hW.g 31 0 rfl) rfl ?_
      refine r_iload dX9_costs_78 0 rfl ?_
      refine r_cald dX9_costs_80 (hW.g 32 22 rfl) (vp_in_nI (show k < 1100 by omega) (by decide)) ?_
      refine r_top (nI ((blS (setA B 26 0 0) L) 22 k)) (by rw [nI_cl (by omega)]; exact rgm (show k < 1100 by omega)) ?_
      refine r_top (nI ((bld true L).getD k 0)) (congrArg nI (getD_z hkb)) ?_
      refine r_callS (st := []) [.int (nI ((bld true L).getD k 0))] 0 0 dX9_costs_81 kX9_isSmall nX9_isSmall lRX9_96 (c_msm hy) rfl rfl (Nat.le_of_ble_eq_true rfl) (Nat.le_refl _) (Nat.le_refl _) (fun _ _ h => h.elim) ?_
      refine cx_det (st2 := [.int (b2i (smn ((bld true L).getD k 0)))]) rfl ?_
      refine r_if_ne 111 dX9_costs_84 (by decide) (fun c_2 => ?_) (fun c_2 => ?_)
      · have hs9 := of_decide_eq_true (b2i_n0 c_2)
        have hl : lB (nI ((bld true L).getD k 0)) = true := lb_t hy (by omega) (by omega)
        refine r_iconst (v := b2i (lB (nI ((bld true L).getD k 0)))) dX9_costs_111 (by rw [hl]; rfl) ?_
        refine r_goto 116 dX9_costs_112 (by decide) ?_
        refine r_istore [(8, .int (b2i (lB (nI ((bld true L).getD k 0))))), (7, .int (nI k)), (6, .int (b2i (wcs (fun j => nI ((bld true L).getD j 0)) k).2)), (5, .int (nI ((wcs (fun j => nI ((bld true L).getD j 0)) k).1))), (4, .int 1), (0, .ref (ad 31 0)), (1, .int (nI l)), (2, .int (nI e)), (3, .int (nI g))] dX9_costs_116 (by decide) rfl ?_
        refine r_iload dX9_costs_118 3 rfl ?_
        refine r_iload dX9_costs_120 0 rfl ?_
        refine r_if_eq 134 dX9_costs_122 (by decide) (fun c_4 => absurd c_4 (b2i_no hl)) (fun c_4 => ?_)
        refine r_iload dX9_costs_125 2 rfl ?_
        refine r_if_ne 134 dX9_costs_127 (by decide) (fun c_5 => ?_) (fun c_5 => ?_)
        · refine r_iconst (v := 0) dX9_costs_134 (by decide) ?_
          refine r_iadd dX9_costs_135 ?_
          refine r_top (nI ((wcs (fun j => nI ((bld true L).getD j 0)) (k + 1)).1)) (by show nI _ + 0 = nI ((wcs (fun j => nI ((bld true L).getD j 0)) k).1 + (if lB (nI ((bld true L).getD k 0)) && !(wcs (fun j => nI ((bld true L).getD j 0)) k).2 then 1 else 0)); rw [hl, b2i_n0 c_5]; exact nI_add _ 0) ?_
          refine r_istore [(5, .int (nI ((wcs (fun j => nI ((bld true L).getD j 0)) (k + 1)).1))), (8, .int (b2i (lB (nI ((bld true L).getD k 0))))), (7, .int (nI k)), (6, .int (b2i (wcs (fun j => nI ((bld true L).getD j 0)) k).2)), (4, .int 1), (0, .ref (ad 31 0)), (1, .int (nI l)), (2, .int (nI e)), (3, .int (nI g))] dX9_costs_136 (by decide) rfl ?_
          refine r_iload dX9_costs_138 1 rfl ?_
          refine r_istore [(6, .int (b2i (lB (nI ((bld true L).getD k 0))))), (5, .int (nI ((wcs (fun j => nI ((bld true L).getD j 0)) (k + 1)).1))), (8, .int (b2i (lB (nI ((bld true L).getD k 0))))), (7, .int (nI k)), (4, .int 1), (0, .ref (ad 31 0)), (1, .int (nI l)), (2, .int (nI e)), (3, .int (nI g))] dX9_costs_140 (by decide) rfl ?_
          refine r_iinc (nI (k + 1)) [(7, .int (nI (k + 1))), (6, .int (b2i (lB (nI ((bld true L).getD k 0))))), (5, .int (nI ((wcs (fun j => nI ((bld true L).getD j 0)) (k + 1)).1))), (8, .int (b2i (lB (nI ((bld true L).getD k 0))))), (4, .int 1), (0, .ref (ad 31 0)), (1, .int (nI l)), (2, .int (nI e)), (3, .int (nI g))] dX9_costs_142 3 rfl (nI_1 k) (by decide) rfl ?_
          refine r_goto 65 dX9_costs_145 (by decide) ?_
          exact WP.loc [0, 1, 2, 4, 5, 6, 7, 8] rfl (ih (k + 1) (by omega) (by omega))
        · refine r_iconst (v := 1) dX9_costs_130 (by decide) ?_
          refine r_goto 135 dX9_costs_131 (by decide) ?_
          refine r_iadd dX9_costs_135 ?_
          refine r_top (nI ((wcs (fun j => nI ((bld true L).getD j 0)) (k + 1)).1)) (by show nI _ + 1 = nI ((wcs (fun j => nI ((bld true L).getD j 0)) k).1 + (if lB (nI ((bld true L).getD k 0)) && !(wcs (fun j => nI ((bld true L).getD j 0)) k).2 then 1 else 0)); rw [hl, b2i_0 c_5]; exact nI_1 _) ?_
          refine r_istore [(5, .int (nI ((wcs (fun j => nI ((bld true L).getD j 0)) (k + 1)).1))), (8, .int (b2i (lB (nI ((bld true L).getD k 0))))), (7, .int (nI k)), (6, .int (b2i (wcs (fun j => nI ((bld true L).getD j 0)) k).2)), (4, .int 1), (0, .ref (ad 31 0)), (1, .int (nI l)), (2, .int (nI e)), (3, .int (nI g))] dX9_costs_136 (by decide) rfl ?_
          refine r_iload dX9_costs_138 1 rfl ?_
          refine r_istore [(6, .int (b2i (lB (nI ((bld true L).getD k 0))))), (5, .int (nI ((wcs (fun j => nI ((bld true L).getD j 0)) (k + 1)).1))), (8, .int (b2i (lB (nI ((bld true L).getD k 0))))), (7, .int (nI k)), (4, .int 1), (0, .ref (ad 31 0)), (1, .int (nI l)), (2, .int (nI e)), (3, .int (nI g))] dX9_costs_140 (by decide) rfl ?_
          refine r_iinc (nI (k + 1)) [(7, .int (nI (k + 1))), (6, .int (b2i (lB (nI ((bld true L).getD k 0))))), (5, .int (nI ((wcs (fun j => nI ((bld true L).getD j 0)) (k + 1)).1))), (8, .int (b2i (lB (nI ((bld true L).getD k 0))))), (4, .int 1), (0, .ref (ad 31 0)), (1, .int (nI l)), (2, .int (nI e)), (3, .int (nI g))] dX9_costs_142 3 rfl (nI_1 k) (by decide) rfl ?_
          refine r_goto 65 dX9_costs_145 (by decide) ?_
          exact WP.loc [0, 1, 2, 4, 5, 6, 7, 8] rfl (ih (k + 1) (by omega) (by omega))
      · refine r_aload_n dX9_costs_87 rfl 4 rfl ?_
        refine r_get 22 dX9_costs_88 fRX9_63 (hW.g 31 0 rfl) rfl ?_
        refine r_iload dX9_costs_91 0 rfl ?_
        refine r_cald dX9_costs_93 (hW.g 32 22 rfl) (vp_in_nI (show k < 1100 by omega) (by decide)) ?_
        refine r_top (nI ((blS (setA B 26 0 0) L) 22 k)) (by rw [nI_cl (by omega)]; exact rgm (show k < 1100 by omega)) ?_
        refine r_top (nI ((bld true L).getD k 0)) (congrArg nI (getD_z hkb)) ?_
        refine r_bipush (v := 65) dX9_costs_94 (by decide) ?_
        refine r_icmp_lt 115 dX9_costs_96 (by decide) (fun c_10 => ?_) (fun c_10 => ?_)
        · have hs9 := of_decide_eq_false (b2i_0 c_2)
          have hs8 : (bld true L).getD k 0 < 65 := ni_lt (b := 65) (by omega) (by decide) c_10
          have hl : lB (nI ((bld true L).getD k 0)) = false := lb_f (by unfold rawS sml at hyr; omega)
          refine r_iconst (v := b2i (lB (nI ((bld true L).getD k 0)))) dX9_costs_115 (by rw [hl]; rfl) ?_
          refine r_istore [(8, .int (b2i (lB (nI ((bld true L).getD k 0))))), (7, .int (nI k)), (6, .int (b2i (wcs (fun j => nI ((bld true L).getD j 0)) k).2)), (5, .int (nI ((wcs (fun j => nI ((bld true L).getD j 0)) k).1))), (4, .int 1), (0, .ref (ad 31 0)), (1, .int (nI l)), (2, .int (nI e)), (3, .int (nI g))] dX9_costs_116 (by decide) rfl ?_
          refine r_iload dX9_costs_118 3 rfl ?_
          refine r_iload dX9_costs_120 0 rfl ?_
          refine r_if_eq 134 dX9_costs_122 (by decide) (fun c_12 => ?_) (fun c_12 => absurd (b2i_z hl) c_12)
          refine r_iconst (v := 0) dX9_costs_134 (by decide) ?_
          refine r_iadd dX9_costs_135 ?_
          refine r_top (nI ((wcs (fun j => nI ((bld true L).getD j 0)) (k + 1)).1)) (by show nI _ + 0 = nI ((wcs (fun j => nI ((bld true L).getD j 0)) k).1 + (if lB (nI ((bld true L).getD k 0)) && !(wcs (fun j => nI ((bld true L).getD j 0)) k).2 then 1 else 0)); rw [hl]; exact nI_add _ 0) ?_
          refine r_istore [(5, .int (nI ((wcs (fun j => nI ((bld true L).getD j 0)) (k + 1)).1))), (8, .int (b2i (lB (nI ((bld true L).getD k 0))))), (7, .int (nI k)), (6, .int (b2i (wcs (fun j => nI ((bld true L).getD j 0)) k).2)), (4, .int 1), (0, .ref (ad 31 0)), (1, .int (nI l)), (2, .int (nI e)), (3, .int (nI g))] dX9_costs_136 (by decide) rfl ?_
          refine r_iload dX9_costs_138 1 rfl ?_
          refine r_istore [(6, .int (b2i (lB (nI ((bld true L).getD k 0))))), (5, .int (nI ((wcs (fun j => nI ((bld true L).getD j 0)) (k + 1)).1))), (8, .int (b2i (lB (nI ((bld true L).getD k 0))))), (7, .int (nI k)), (4, .int 1), (0, .ref (ad 31 0)), (1, .int (nI l)), (2, .int (nI e)), (3, .int (nI g))] dX9_costs_140 (by decide) rfl ?_
          refine r_iinc (nI (k + 1)) [(7, .int (nI (k + 1))), (6, .int (b2i (lB (nI ((bld true L).getD k 0))))), (5, .int (nI ((wcs (fun j => nI ((bld true L).getD j 0)) (k + 1)).1))), (8, .int (b2i (lB (nI ((bld true L).getD k 0))))), (4, .int 1), (0, .ref (ad 31 0)), (1, .int (nI l)), (2, .int (nI e)), (3, .int (nI g))] dX9_costs_142 3 rfl (nI_1 k) (by decide) rfl ?_
          refine r_goto 65 dX9_costs_145 (by decide) ?_
          exact WP.loc [0, 1, 2, 4, 5, 6, 7, 8] rfl (ih (k + 1) (by omega) (by omega))
        · refine r_aload_n dX9_costs_99 rfl 4 rfl ?_
          refine r_get 22 dX9_costs_100 fRX9_63 (hW.g 31 0 rfl) rfl ?_
          refine r_iload dX9_costs_103 0 rfl ?_
          refine r_cald dX9_costs_105 (hW.g 32 22 rfl) (vp_in_nI (show k < 1100 by omega) (by decide)) ?_
          refine r_top (nI ((blS (setA B 26 0 0) L) 22 k)) (by rw [nI_cl (by omega)]; exact rgm (show k < 1100 by omega)) ?_
          refine r_top (nI ((bld true L).getD k 0)) (congrArg nI (getD_z hkb)) ?_
          refine r_bipush (v := 90) dX9_costs_106 (by decide) ?_
          refine r_icmp_gt 115 dX9_costs_108 (by decide) (fun c_15 => ?_) (fun c_15 => ?_)
          · have hs9 := of_decide_eq_false (b2i_0 c_2)
            have hs8 : 90 < (bld true L).getD k 0 := ni_lt (a := 90) (by decide) (by omega) c_15
            have hl : lB (nI ((bld true L).getD k 0)) = false := lb_f (by unfold rawS sml at hyr; omega)
            refine r_iconst (v := b2i (lB (nI ((bld true L).getD k 0)))) dX9_costs_115 (by rw [hl]; rfl) ?_
            refine r_istore [(8, .int (b2i (lB (nI ((bld true L).getD k 0))))), (7, .int (nI k)), (6, .int (b2i (wcs (fun j => nI ((bld true L).getD j 0)) k).2)), (5, .int (nI ((wcs (fun j => nI ((bld true L).getD j 0)) k).1))), (4, .int 1), (0, .ref (ad 31 0)), (1, .int (nI l)), (2, .int (nI e)), (3, .int (nI g))] dX9_costs_116 (by decide) rfl ?_
            refine r_iload dX9_costs_118 3 rfl ?_
            refine r_iload dX9_costs_120 0 rfl ?_
            refine r_if_eq 134 dX9_costs_122 (by decide) (fun c_17 => ?_) (fun c_17 => absurd (b2i_z hl) c_17)
            refine r_iconst (v := 0) dX9_costs_134 (by decide) ?_
            refine r_iadd dX9_costs_135 ?_
            refine r_top (nI ((wcs (fun j => nI ((bld true L).getD j 0)) (k + 1)).1)) (by show nI _ + 0 = nI ((wcs (fun j => nI ((bld true L).getD j 0)) k).1 + (if lB (nI ((bld true L).getD k 0)) && !(wcs (fun j => nI ((bld true L).getD j 0)) k).2 then 1 else 0)); rw [hl]; exact nI_add _ 0) ?_
            refine r_istore [(5, .int (nI ((wcs (fun j => nI ((bld true L).getD j 0)) (k + 1)).1))), (8, .int (b2i (lB (nI ((bld true L).getD k 0))))), (7, .int (nI k)), (6, .int (b2i (wcs (fun j => nI ((bld true L).getD j 0)) k).2)), (4, .int 1), (0, .ref (ad 31 0)), (1, .int (nI l)), (2, .int (nI e)), (3, .int (nI g))] dX9_costs_136 (by decide) rfl ?_
            refine r_iload dX9_costs_138 1 rfl ?_
            refine r_istore [(6, .int (b2i (lB (nI ((bld true L).getD k 0))))), (5, .int (nI ((wcs (fun j => nI ((bld true L).getD j 0)) (k + 1)).1))), (8, .int (b2i (lB (nI ((bld true L).getD k 0))))), (7, .int (nI k)), (4, .int 1), (0, .ref (ad 31 0)), (1, .int (nI l)), (2, .int (nI e)), (3, .int (nI g))] dX9_costs_140 (by decide) rfl ?_
            refine r_iinc (nI (k + 1)) [(7, .int (nI (k + 1))), (6, .int (b2i (lB (nI ((bld true L).getD k 0))))), (5, .int (nI ((wcs (fun j => nI ((bld true L).getD j 0)) (k + 1)).1))), (8, .int (b2i (lB (nI ((bld true L).getD k 0))))), (4, .int 1), (0, .ref (ad 31 0)), (1, .int (nI l)), (2, .int (nI e)), (3, .int (nI g))] dX9_costs_142 3 rfl (nI_1 k) (by decide) rfl ?_
            refine r_goto 65 dX9_costs_145 (by decide) ?_
            exact WP.loc [0, 1, 2, 4, 5, 6, 7, 8] rfl (ih (k + 1) (by omega) (by omega))
          · have hs9 : 65 ≤ (bld true L).getD k 0 := ni_nlt (b := 65) (by omega) (by decide) c_10
            have hl : lB (nI ((bld true L).getD k 0)) = true := lb_t hy (by omega) (by omega)
            refine r_iconst (v := b2i (lB (nI ((bld true L).getD k 0)))) dX9_costs_111 (by rw [hl]; rfl) ?_
            refine r_goto 116 dX9_costs_112 (by decide) ?_
            refine r_istore [(8, .int (b2i (lB (nI ((bld true L).getD k 0))))), (7, .int (nI k)), (6, .int (b2i (wcs (fun j => nI ((bld true L).getD j 0)) k).2)), (5, .int (nI ((wcs (fun j => nI ((bld true L).getD j 0)) k).1))), (4, .int 1), (0, .ref (ad 31 0)), (1, .int (nI l)), (2, .int (nI e)), (3, .int (nI g))] dX9_costs_116 (by decide) rfl ?_
            refine r_iload dX9_costs_118 3 rfl ?_
            refine r_iload dX9_costs_120 0 rfl ?_
            refine r_if_eq 134 dX9_costs_122 (by decide) (fun c_21 => absurd c_21 (b2i_no hl)) (fun c_21 => ?_)
            refine r_iload dX9_costs_125 2 rfl ?_
            refine r_if_ne 134 dX9_costs_127 (by decide) (fun c_22 => ?_) (fun c_22 => ?_)
            · refine r_iconst (v := 0) dX9_costs_134 (by decide) ?_
              refine r_iadd dX9_costs_135 ?_
              refine r_top (nI ((wcs (fun j => nI ((bld true L).getD j 0)) (k + 1)).1)) (by show nI _ + 0 = nI ((wcs (fun j => nI ((bld true L).getD j 0)) k).1 + (if lB (nI ((bld true L).getD k 0)) && !(wcs (fun j => nI ((bld true L).getD j 0)) k).2 then 1 else 0)); rw [hl, b2i_n0 c_22]; exact nI_add _ 0) ?_
              refine r_istore [(5, .int (nI ((wcs (fun j => nI ((bld true L).getD j 0)) (k + 1)).1))), (8, .int (b2i (lB (nI ((bld true L).getD k 0))))), (7, .int (nI k)), (6, .int (b2i (wcs (fun j => nI ((bld true L).getD j 0)) k).2)), (4, .int 1), (0, .ref (ad 31 0)), (1, .int (nI l)), (2, .int (nI e)), (3, .int (nI g))] dX9_costs_136 (by decide) rfl ?_
              refine r_iload dX9_costs_138 1 rfl ?_
              refine r_istore [(6, .int (b2i (lB (nI ((bld true L).getD k 0))))), (5, .int (nI ((wcs (fun j => nI ((bld true L).getD j 0)) (k + 1)).1))), (8, .int (b2i (lB (nI ((bld true L).getD k 0))))), (7, .int (nI k)), (4, .int 1), (0, .ref (ad 31 0)), (1, .int (nI l)), (2, .int (nI e)), (3, .int (nI g))] dX9_costs_140 (by decide) rfl ?_
              refine r_iinc (nI (k + 1)) [(7, .int (nI (k + 1))), (6, .int (b2i (lB (nI ((bld true L).getD k 0))))), (5, .int (nI ((wcs (fun j => nI ((bld true L).getD j 0)) (k + 1)).1))), (8, .int (b2i (lB (nI ((bld true L).getD k 0))))), (4, .int 1), (0, .ref (ad 31 0)), (1, .int (nI l)), (2, .int (nI e)), (3, .int (nI g))] dX9_costs_142 3 rfl (nI_1 k) (by decide) rfl ?_
              refine r_goto 65 dX9_costs_145 (by decide) ?_
              exact WP.loc [0, 1, 2, 4, 5, 6, 7, 8] rfl (ih (k + 1) (by omega) (by omega))
            · refine r_iconst (v := 1) dX9_costs_130 (by decide) ?_
              refine r_goto 135 dX9_costs_131 (by decide) ?_
              refine r_iadd dX9_costs_135 ?_
              refine r_top (nI ((wcs (fun j => nI ((bld true L).getD j 0)) (k + 1)).1)) (by show nI _ + 1 = nI ((wcs (fun j => nI ((bld true L).getD j 0)) k).1 + (if lB (nI ((bld true L).getD k 0)) && !(wcs (fun j => nI ((bld true L).getD j 0)) k).2 then 1 else 0)); rw [hl, b2i_0 c_22]; exact nI_1 _) ?_
              refine r_istore [(5, .int (nI ((wcs (fun j => nI ((bld true L).getD j 0)) (k + 1)).1))), (8, .int (b2i (lB (nI ((bld true L).getD k 0))))), (7, .int (nI k)), (6, .int (b2i (wcs (fun j => nI ((bld true L).getD j 0)) k).2)), (4, .int 1), (0, .ref (ad 31 0)), (1, .int (nI l)), (2, .int (nI e)), (3, .int (nI g))] dX9_costs_136 (by decide) rfl ?_
              refine r_iload dX9_costs_138 1 rfl ?_
              refine r_istore [(6, .int (b2i (lB (nI ((bld true L).getD k 0))))), (5, .int (nI ((wcs (fun j => nI ((bld true L).getD j 0)) (k + 1)).1))), (8, .int (b2i (lB (nI ((bld true L).getD k 0))))), (7, .int (nI k)), (4, .int 1), (0, .ref (ad 31 0)), (1, .int (nI l)), (2, .int (nI e)), (3, .int (nI g))] dX9_costs_140 (by decide) rfl ?_
              refine r_iinc (nI (k + 1)) [(7, .int (nI (k + 1))), (6, .int (b2i (lB (nI ((bld true L).getD k 0))))), (5, .int (nI ((wcs (fun j => nI ((bld true L).getD j 0)) (k + 1)).1))), (8, .int (b2i (lB (nI ((bld true L).getD k 0))))), (4, .int 1), (0, .ref (ad 31 0)), (1, .int (nI l)), (2, .int (nI e)), (3, .int (nI g))] dX9_costs_142 3 rfl (nI_1 k) (by decide) rfl ?_
              refine r_goto 65 dX9_costs_145 (by decide) ?_
              exact WP.loc [0, 1, 2, 4, 5, 6, 7, 8] rfl (ih (k + 1) (by omega) (by omega))
set_option maxRecDepth 100000 in
set_option maxHeartbeats 4000000 in
theorem m_costs_0 {d b0 : Nat} {G : GH} {A B : ST} {ad : AD} (hW : World A B ad G) (hI : Inv B) {l e g : Nat} (hl : l < B 15 0) (he : e < B 18 0) (hg : g < 3) : CT mX9_costs (d + 5) b0 G [.ref (ad 31 0), .int (nI l), .int (nI e), .int (nI g)] 0 0 (MPo (nI (wcL (bld true (ltA B l e g)) * B 21 g)) 0 B A ad) (fun _ _ => False) := by
  have hb0 := hI.b0
  have hb2 := hI.b2
  have hb9 := hI.b9
  have hb15 := hI.b15
  have hb18 := hI.b18
  have hok := ltA_ok hI hl he hg
  refine CT.intro (by decide +kernel) rfl (Nat.le_of_ble_eq_true rfl) ?_
  show WP mX9_costs _ _ _ _ _ 0 0 0 [(0, .ref (ad 31 0)), (1, .int (nI l)), (2, .int (nI e)), (3, .int (nI g))] []
  refine r_aload_n dX9_costs_0 rfl 0 rfl ?_
  refine r_iload_n dX9_costs_1 rfl 1 rfl ?_
  refine r_callV (st := []) [.int (nI l)] 0 0 dX9_costs_2 kX9_isLetter nX9_isLetter lRX9_135 (hW.g 31 0 rfl) rfl (c_X9_isLetter hW (Nat.le_trans hb15 (by decide)) (nI l)) rfl rfl (Nat.le_of_ble_eq_true rfl) (Nat.le_refl _) (Nat.le_refl _) (fun _ _ h => h.elim) ?_
  refine cx_det (st2 := [.int (b2i (inB (nI l) (B 15 0)))]) rfl ?_
  refine r_if_eq 27 dX9_costs_5 (by decide) (fun c_1 => absurd c_1 (b2i_no (inB_k hl (by omega)))) (fun c_1 => ?_)
  refine r_aload_n dX9_costs_8 rfl 0 rfl ?_
  refine r_iload_n dX9_costs_9 rfl 2 rfl ?_
  refine r_callV (st := []) [.int (nI e)] 0 0 dX9_costs_10 kX9_isData nX9_isData lRX9_141 (hW.g 31 0 rfl) rfl (c_X9_isData hW (Nat.le_trans hb18 (by decide)) (nI e)) rfl rfl (Nat.le_of_ble_eq_true rfl) (Nat.le_refl _) (Nat.le_refl _) (fun _ _ h => h.elim) ?_
  refine cx_det (st2 := [.int (b2i (inB (nI e) (B 18 0)))]) rfl ?_
  refine r_if_eq 27 dX9_costs_13 (by decide) (fun c_2 => absurd c_2 (b2i_no (inB_k he (by omega)))) (fun c_2 => ?_)
  refine r_iload_n dX9_costs_16 rfl 3 rfl ?_
  refine r_callS (st := []) [.int (nI g)] 0 0 dX9_costs_17 kX9_isLanguage nX9_isLanguage lRX9_108 (c_mLang (nI g)) rfl rfl (Nat.le_of_ble_eq_true rfl) (Nat.le_refl _) (Nat.le_refl _) (fun _ _ h => h.elim) ?_
  refine cx_det (st2 := [.int (b2i (inB (nI g) 3))]) rfl ?_
  refine r_if_eq 27 dX9_costs_20 (by decide) (fun c_3 => absurd c_3 (b2i_no (inB_k hg (by decide)))) (fun c_3 => ?_)
  refine r_iconst (v := 1) dX9_costs_23 (by decide) ?_
  refine r_goto 28 dX9_costs_24 (by decide) ?_
  refine r_istore [(4, .int 1), (0, .ref (ad 31 0)), (1, .int (nI l)), (2, .int (nI e)), (3, .int (nI g))] dX9_costs_28 (by decide) rfl ?_
  refine r_aload_n dX9_costs_30 rfl 1 rfl ?_
  refine r_iload dX9_costs_31 0 rfl ?_
  refine r_if_eq 40 dX9_costs_33 (by decide) (fun c_4 => absurd c_4 (by decide)) (fun c_4 => ?_)
  refine r_iconst (v := 0) dX9_costs_36 (by decide) ?_
  refine r_goto 41 dX9_costs_37 (by decide) ?_
  refine r_callV (st := []) [.int 0] 0 0 dX9_costs_41 kX9_goes nX9_goes lRX9_92 (hW.g 31 0 rfl) rfl (c_goes hW 0) rfl rfl (Nat.le_of_ble_eq_true rfl) (Nat.le_refl _) (Nat.le_refl _) (fun _ _ h => h.elim) ?_
  refine cx_det (st2 := [.int 1]) rfl ?_
  have hW_5 : World A (setA B 26 0 0) ad (va_up G (ad 31 0) (some (.inr (9, (mF B ad).set 26 (.int (nI 0)))))) := m_s26 hW 0
  refine r_heap (G' := va_up G (ad 31 0) (some (.inr (9, (mF B ad).set 26 (.int (nI 0)))))) rfl ?_
  refine r_if_ne 49 dX9_costs_44 (by decide) (fun c_6 => ?_) (fun c_6 => absurd c_6 (by decide))
  refine r_aload_n dX9_costs_49 rfl 1 rfl ?_
  refine r_iload_n dX9_costs_50 rfl 2 rfl ?_
  refine r_iload_n dX9_costs_51 rfl 3 rfl ?_
  refine r_iload_n dX9_costs_52 rfl 4 rfl ?_
  refine r_callV (st := []) [.int (nI l), .int (nI e), .int (nI g)] 0 0 dX9_costs_53 kX9_builds nX9_builds lRX9_176 (hW_5.g 31 0 rfl) rfl (m_builds hW_5 (Inv.congr (fun f hf => fld26 (by omega)) hI) hl he hg) rfl rfl (Nat.le_of_ble_eq_true rfl) (Nat.le_refl _) (Nat.le_refl _) (fun _ _ h => h.elim) ?_
  refine cx_val (st2 := []) rfl ?_
  intro G_7 hW_8
  have hW_9 : World A (blS (setA B 26 0 0) (ltA (setA B 26 0 0) l e g)) ad G_7 := hW_8
  rw [lt26] at hW_9
  refine r_iconst (v := nI ((wcs (fun j => nI ((bld true (ltA B l e g)).getD j 0)) 0).1)) dX9_costs_56 rfl ?_
  refine r_istore [(5, .int (nI ((wcs (fun j => nI ((bld true (ltA B l e g)).getD j 0)) 0).1))), (4, .int 1), (0, .ref (ad 31 0)), (1, .int (nI l)), (2, .int (nI e)), (3, .int (nI g))] dX9_costs_57 (by decide) rfl ?_
  refine r_iconst (v := b2i (wcs (fun j => nI ((bld true (ltA B l e g)).getD j 0)) 0).2) dX9_costs_59 rfl ?_
  refine r_istore [(6, .int (b2i (wcs (fun j => nI ((bld true (ltA B l e g)).getD j 0)) 0).2)), (5, .int (nI ((wcs (fun j => nI ((bld true (ltA B l e g)).getD j 0)) 0).1))), (4, .int 1), (0, .ref (ad 31 0)), (1, .int (nI l)), (2, .int (nI e)), (3, .int (nI g))] dX9_costs_60 (by decide) rfl ?_
  refine r_iconst (v := nI 0) dX9_costs_62 (by decide) ?_
  refine r_istore [(7, .int (nI 0)), (6, .int (b2i (wcs (fun j => nI ((bld true (ltA B l e g)).getD j 0)) 0).2)), (5, .int (nI ((wcs (fun j => nI ((bld true (ltA B l e g)).getD j 0)) 0).1))), (4, .int 1), (0, .ref (ad 31 0)), (1, .int (nI l)), (2, .int (nI e)), (3, .int (nI g))] dX9_costs_63 (by decide) rfl ?_
  exact lp_X9_costs hW_9 hok.1 hok.2 hg _ 0 (Nat.zero_le _) (Nat.lt_succ_self _)
set_option maxRecDepth 100000 in
set_option maxHeartbeats 4000000 in
theorem m_costs_1a {d b0 : Nat} {G : GH} {A B : ST} {ad : AD} (hW : World A B ad G) (hI : Inv B) {x y z : Int32} (hx : inB x (B 15 0) = false) : CT mX9_costs (d + 5) b0 G [.ref (ad 31 0), .int x, .int y, .int z] 0 0 (MPo 0 1 B A ad) (fun _ _ => False) := by
  have hb0 := hI.b0
  have hb2 := hI.b2
  have hb9 := hI.b9
  have hb15 := hI.b15
  have hb18 := hI.b18
  refine CT.intro (by decide +kernel) rfl (Nat.le_of_ble_eq_true rfl) ?_
  show WP mX9_costs _ _ _ _ _ 0 0 0 [(0, .ref (ad 31 0)), (1, .int x), (2, .int y), (3, .int z)] []
  refine r_aload_n dX9_costs_0 rfl 0 rfl ?_
  refine r_iload_n dX9_costs_1 rfl 1 rfl ?_
  refine r_callV (st := []) [.int x] 0 0 dX9_costs_2 kX9_isLetter nX9_isLetter lRX9_135 (hW.g 31 0 rfl) rfl (c_X9_isLetter hW (Nat.le_trans hb15 (by decide)) x) rfl rfl (Nat.le_of_ble_eq_true rfl) (Nat.le_refl _) (Nat.le_refl _) (fun _ _ h => h.elim) ?_
  refine cx_det (st2 := [.int (b2i (inB x (B 15 0)))]) rfl ?_
  refine r_if_eq 27 dX9_costs_5 (by decide) (fun c_1 => ?_) (fun c_1 => absurd (b2i_z hx) c_1)
  refine r_iconst (v := 0) dX9_costs_27 (by decide) ?_
  refine r_istore [(4, .int 0), (0, .ref (ad 31 0)), (1, .int x), (2, .int y), (3, .int z)] dX9_costs_28 (by decide) rfl ?_
  refine r_aload_n dX9_costs_30 rfl 1 rfl ?_
  refine r_iload dX9_costs_31 0 rfl ?_
  refine r_if_eq 40 dX9_costs_33 (by decide) (fun c_2 => ?_) (fun c_2 => absurd (by decide) c_2)
  refine r_iconst (v := 1) dX9_costs_40 (by decide) ?_
  refine r_callV (st := []) [.int 1] 0 0 dX9_costs_41 kX9_goes nX9_goes lRX9_92 (hW.g 31 0 rfl) rfl (c_goes hW 1) rfl rfl (Nat.le_of_ble_eq_true rfl) (Nat.le_refl _) (Nat.le_refl _) (fun _ _ h => h.elim) ?_
  refine cx_det (st2 := [.int 0]) rfl ?_
  have hW_3 : World A (setA B 26 0 1) ad (va_up G (ad 31 0) (some (.inr (9, (mF B ad).set 26 (.int (nI 1)))))) := m_s26 hW 1
  refine r_heap (G' := va_up G (ad 31 0) (some (.inr (9, (mF B ad).set 26 (.int (nI 1)))))) rfl ?_
  refine r_if_ne 49 dX9_costs_44 (by decide) (fun c_4 => absurd (by decide) c_4) (fun c_4 => ?_)
  refine r_iconst (v := 0) dX9_costs_47 (by decide) ?_
  refine r_ireti dX9_costs_48 rfl ?_
  exact ⟨rfl, (setA B 26 0 1), hW_3, rfl, (s26 (fun f _ => rfl))⟩
set_option maxRecDepth 100000 in
set_option maxHeartbeats 4000000 in
theorem m_costs_1b {d b0 : Nat} {G : GH} {A B : ST} {ad : AD} (hW : World A B ad G) (hI : Inv B) {l : Nat} {y z : Int32} (hl : l < B 15 0) (hy : inB y (B 18 0) = false) : CT mX9_costs (d + 5) b0 G [.ref (ad 31 0), .int (nI l), .int y, .int z] 0 0 (MPo 0 1 B A ad) (fun _ _ => False) := by
  have hb0 := hI.b0
  have hb2 := hI.b2
  have hb9 := hI.b9
  have hb15 := hI.b15
  have hb18 := hI.b18
  refine CT.intro (by decide +kernel) rfl (Nat.le_of_ble_eq_true rfl) ?_
  show WP mX9_costs _ _ _ _ _ 0 0 0 [(0, .ref (ad 31 0)), (1, .int (nI l)), (2, .int y), (3, .int z)] []
  refine r_aload_n dX9_costs_0 rfl 0 rfl ?_
  refine r_iload_n dX9_costs_1 rfl 1 rfl ?_
  refine r_callV (st := []) [.int (nI l)] 0 0 dX9_costs_2 kX9_isLetter nX9_isLetter lRX9_135 (hW.g 31 0 rfl) rfl (c_X9_isLetter hW (Nat.le_trans hb15 (by decide)) (nI l)) rfl rfl (Nat.le_of_ble_eq_true rfl) (Nat.le_refl _) (Nat.le_refl _) (fun _ _ h => h.elim) ?_
  refine cx_det (st2 := [.int (b2i (inB (nI l) (B 15 0)))]) rfl ?_
  refine r_if_eq 27 dX9_costs_5 (by decide) (fun c_1 => absurd c_1 (b2i_no (inB_k hl (by omega)))) (fun c_1 => ?_)
  refine r_aload_n dX9_costs_8 rfl 0 rfl ?_
  refine r_iload_n dX9_costs_9 rfl 2 rfl ?_
  refine r_callV (st := []) [.int y] 0 0 dX9_costs_10 kX9_isData nX9_isData lRX9_141 (hW.g 31 0 rfl) rfl (c_X9_isData hW (Nat.le_trans hb18 (by decide)) y) rfl rfl (Nat.le_of_ble_eq_true rfl) (Nat.le_refl _) (Nat.le_refl _) (fun _ _ h => h.elim) ?_
  refine cx_det (st2 := [.int (b2i (inB y (B 18 0)))]) rfl ?_
  refine r_if_eq 27 dX9_costs_13 (by decide) (fun c_2 => ?_) (fun c_2 => absurd (b2i_z hy) c_2)
  refine r_iconst (v := 0) dX9_costs_27 (by decide) ?_
  refine r_istore [(4, .int 0), (0, .ref (ad 31 0)), (1, .int (nI l)), (2, .int y), (3, .int z)] dX9_costs_28 (by decide) rfl ?_
  refine r_aload_n dX9_costs_30 rfl 1 rfl ?_
  refine r_iload dX9_costs_31 0 rfl ?_
  refine r_if_eq 40 dX9_costs_33 (by decide) (fun c_3 => ?_) (fun c_3 => absurd (by decide) c_3)
  refine r_iconst (v := 1) dX9_costs_40 (by decide) ?_
  refine r_callV (st := []) [.int 1] 0 0 dX9_costs_41 kX9_goes nX9_goes lRX9_92 (hW.g 31 0 rfl) rfl (c_goes hW 1) rfl rfl (Nat.le_of_ble_eq_true rfl) (Nat.le_refl _) (Nat.le_refl _) (fun _ _ h => h.elim) ?_
  refine cx_det (st2 := [.int 0]) rfl ?_
  have hW_4 : World A (setA B 26 0 1) ad (va_up G (ad 31 0) (some (.inr (9, (mF B ad).set 26 (.int (nI 1)))))) := m_s26 hW 1
  refine r_heap (G' := va_up G (ad 31 0) (some (.inr (9, (mF B ad).set 26 (.int (nI 1)))))) rfl ?_
  refine r_if_ne 49 dX9_costs_44 (by decide) (fun c_5 => absurd (by decide) c_5) (fun c_5 => ?_)
  refine r_iconst (v := 0) dX9_costs_47 (by decide) ?_
  refine r_ireti dX9_costs_48 rfl ?_
  exact ⟨rfl, (setA B 26 0 1), hW_4, rfl, (s26 (fun f _ => rfl))⟩
set_option maxRecDepth 100000 in
set_option maxHeartbeats 4000000 in
theorem m_costs_1c {d b0 : Nat} {G : GH} {A B : ST} {ad : AD} (hW : World A B ad G) (hI : Inv B) {l e : Nat} {z : Int32} (hl : l < B 15 0) (he : e < B 18 0) (hz : inB z 3 = false) : CT mX9_costs (d + 5) b0 G [.ref (ad 31 0), .int (nI l), .int (nI e), .int z] 0 0 (MPo 0 1 B A ad) (fun _ _ => False) := by
  have hb0 := hI.b0
  have hb2 := hI.b2
  have hb9 := hI.b9
  have hb15 := hI.b15
  have hb18 := hI.b18
  refine CT.intro (by decide +kernel) rfl (Nat.le_of_ble_eq_true rfl) ?_
  show WP mX9_costs _ _ _ _ _ 0 0 0 [(0, .ref (ad 31 0)), (1, .int (nI l)), (2, .int (nI e)), (3, .int z)] []
  refine r_aload_n dX9_costs_0 rfl 0 rfl ?_
  refine r_iload_n dX9_costs_1 rfl 1 rfl ?_
  refine r_callV (st := []) [.int (nI l)] 0 0 dX9_costs_2 kX9_isLetter nX9_isLetter lRX9_135 (hW.g 31 0 rfl) rfl (c_X9_isLetter hW (Nat.le_trans hb15 (by decide)) (nI l)) rfl rfl (Nat.le_of_ble_eq_true rfl) (Nat.le_refl _) (Nat.le_refl _) (fun _ _ h => h.elim) ?_
  refine cx_det (st2 := [.int (b2i (inB (nI l) (B 15 0)))]) rfl ?_
  refine r_if_eq 27 dX9_costs_5 (by decide) (fun c_1 => absurd c_1 (b2i_no (inB_k hl (by omega)))) (fun c_1 => ?_)
  refine r_aload_n dX9_costs_8 rfl 0 rfl ?_
  refine r_iload_n dX9_costs_9 rfl 2 rfl ?_
  refine r_callV (st := []) [.int (nI e)] 0 0 dX9_costs_10 kX9_isData nX9_isData lRX9_141 (hW.g 31 0 rfl) rfl (c_X9_isData hW (Nat.le_trans hb18 (by decide)) (nI e)) rfl rfl (Nat.le_of_ble_eq_true rfl) (Nat.le_refl _) (Nat.le_refl _) (fun _ _ h => h.elim) ?_
  refine cx_det (st2 := [.int (b2i (inB (nI e) (B 18 0)))]) rfl ?_
  refine r_if_eq 27 dX9_costs_13 (by decide) (fun c_2 => absurd c_2 (b2i_no (inB_k he (by omega)))) (fun c_2 => ?_)
  refine r_iload_n dX9_costs_16 rfl 3 rfl ?_
  refine r_callS (st := []) [.int z] 0 0 dX9_costs_17 kX9_isLanguage nX9_isLanguage lRX9_108 (c_mLang z) rfl rfl (Nat.le_of_ble_eq_true rfl) (Nat.le_refl _) (Nat.le_refl _) (fun _ _ h => h.elim) ?_
  refine cx_det (st2 := [.int (b2i (inB z 3))]) rfl ?_
  refine r_if_eq 27 dX9_costs_20 (by decide) (fun c_3 => ?_) (fun c_3 => absurd (b2i_z hz) c_3)
  refine r_iconst (v := 0) dX9_costs_27 (by decide) ?_
  refine r_istore [(4, .int 0), (0, .ref (ad 31 0)), (1, .int (nI l)), (2, .int (nI e)), (3, .int z)] dX9_costs_28 (by decide) rfl ?_
  refine r_aload_n dX9_costs_30 rfl 1 rfl ?_
  refine r_iload dX9_costs_31 0 rfl ?_
  refine r_if_eq 40 dX9_costs_33 (by decide) (fun c_4 => ?_) (fun c_4 => absurd (by decide) c_4)
  refine r_iconst (v := 1) dX9_costs_40 (by decide) ?_
  refine r_callV (st := []) [.int 1] 0 0 dX9_costs_41 kX9_goes nX9_goes lRX9_92 (hW.g 31 0 rfl) rfl (c_goes hW 1) rfl rfl (Nat.le_of_ble_eq_true rfl) (Nat.le_refl _) (Nat.le_refl _) (fun _ _ h => h.elim) ?_
  refine cx_det (st2 := [.int 0]) rfl ?_
  have hW_5 : World A (setA B 26 0 1) ad (va_up G (ad 31 0) (some (.inr (9, (mF B ad).set 26 (.int (nI 1)))))) := m_s26 hW 1
  refine r_heap (G' := va_up G (ad 31 0) (some (.inr (9, (mF B ad).set 26 (.int (nI 1)))))) rfl ?_
  refine r_if_ne 49 dX9_costs_44 (by decide) (fun c_6 => absurd (by decide) c_6) (fun c_6 => ?_)
  refine r_iconst (v := 0) dX9_costs_47 (by decide) ?_
  refine r_ireti dX9_costs_48 rfl ?_
  exact ⟨rfl, (setA B 26 0 1), hW_5, rfl, (s26 (fun f _ => rfl))⟩
