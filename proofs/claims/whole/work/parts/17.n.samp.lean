set_option maxRecDepth 100000 in
set_option maxHeartbeats 4000000 in
theorem lp_smp3 {d b0 : Nat} {G : GH} {Po : Option Value → GH → Prop} {A B : ST} {ad : AD} {σ f : Nat → Bool} (hW : World A (smS B σ) ad G) (hI : Inv B) {l k : Nat} (hl : l < 6) (hC : Cou B l σ f) {x4 : Int32} (K : WP mX9_sample (d + 4) b0 Po (fun _ _ => False) G 0 0 125 [(6, .int (nI (B 18 0))), (5, .int ((mbF B l f (B 18 0)).1)), (4, .int x4), (3, .int 1), (0, .ref (ad 31 0)), (1, .int (nI l)), (2, .int (nI k))] []) : ∀ (fu : Nat) (i : Nat), i ≤ B 18 0 → B 18 0 - i < fu → WP mX9_sample (d + 4) b0 Po (fun _ _ => False) G 0 0 74 [(6, .int (nI i)), (5, .int ((mbF B l f i).1)), (4, .int x4), (3, .int 1), (0, .ref (ad 31 0)), (1, .int (nI l)), (2, .int (nI k))] [] := by
  intro fu
  induction fu with
  | zero => intro i hinv hn; exact absurd hn (Nat.not_lt_zero _)
  | succ fu ih =>
    intro i hinv hn
    have hb18 := hI.b18
    refine r_iload dX9_sample_74 0 rfl ?_
    refine r_aload_n dX9_sample_76 rfl 4 rfl ?_
    refine r_get 18 dX9_sample_77 fRX9_86 (hW.g 31 0 rfl) rfl ?_
    refine r_top (nI (B 18 0)) rfl ?_
    refine r_icmp_ge 125 dX9_sample_80 (by decide) (fun c_1 => ?_) (fun c_1 => ?_)
    · have hi : i = B 18 0 := by have := ni_le (by omega) (by omega) c_1; omega
      rw [hi]
      exact K
    · have hi : i < B 18 0 := ni_nle (by omega) (by omega) c_1
      have hm2 := mbF_2 B l f i
      have hn12 := nws_le B l f i
      have hm12 := mbF_le B l f i
      have es : mbF B l f (i + 1) = if nws B l f i ≤ (mbF B l f i).2 then mbF B l f i else (nI i, nws B l f i) := rfl
      refine r_aload_n dX9_sample_83 rfl 4 rfl ?_
      refine r_iload_n dX9_sample_84 rfl 5 rfl ?_
      refine r_iload dX9_sample_85 0 rfl ?_
      refine r_callV (st := []) [.int (nI l), .int (nI i)] 0 0 dX9_sample_87 kX9_branches nX9_branches lRX9_183 (hW.g 31 0 rfl) rfl (c_mbrn (d := d + 2) (b0 := b0) hW hI (l := l) (t := i) (by omega) (by omega) hC) rfl rfl (Nat.le_of_ble_eq_true rfl) (Nat.le_refl _) (Nat.le_refl _) (fun _ _ h => h.elim) ?_
      refine cx_det (st2 := [.int (nI (nws B l f i))]) rfl ?_
      refine r_iload dX9_sample_90 1 rfl ?_
      refine r_iconst (v := (-1)) dX9_sample_92 (by decide) ?_
      refine r_icmp_ne 100 dX9_sample_93 (by decide) (fun c_2 => ?_) (fun c_2 => ?_)
      · refine r_aload_n dX9_sample_100 rfl 4 rfl ?_
        refine r_iload_n dX9_sample_101 rfl 5 rfl ?_
        refine r_iload dX9_sample_102 1 rfl ?_
        have hm3 : ∃ t0, t0 < i ∧ (mbF B l f i).1 = nI t0 ∧ (mbF B l f i).2 = nws B l f t0 := by
          rcases hm2 with q | ⟨t0, q1, q2, q3, q4⟩
          · exact absurd q.1 c_2
          · exact ⟨t0, q1, q2, q3⟩
        obtain ⟨t0, f0, f1, f2⟩ := hm3
        have hbr := c_mbrn (d := d + 2) (b0 := b0) hW hI (l := l) (t := t0) (by omega) (by omega) hC
        rw [← f1, ← f2] at hbr
        refine r_callV (st := [.int (nI (nws B l f i))]) [.int (nI l), .int ((mbF B l f i).1)] 0 0 dX9_sample_104 kX9_branches nX9_branches lRX9_183 (hW.g 31 0 rfl) rfl hbr rfl rfl (Nat.le_of_ble_eq_true rfl) (Nat.le_refl _) (Nat.le_refl _) (fun _ _ h => h.elim) ?_
        refine cx_det (st2 := [.int (nI ((mbF B l f i).2)), .int (nI (nws B l f i))]) rfl ?_
        refine r_icmp_le 115 dX9_sample_107 (by decide) (fun c_3 => ?_) (fun c_3 => ?_)
        · rw [if_pos (show nws B l f i ≤ (mbF B l f i).2 from ni_le (by omega) (by omega) c_3)] at es
          refine r_iload dX9_sample_115 1 rfl ?_
          refine r_istore [(5, .int ((mbF B l f i).1)), (6, .int (nI i)), (4, .int x4), (3, .int 1), (0, .ref (ad 31 0)), (1, .int (nI l)), (2, .int (nI k))] dX9_sample_117 (by decide) rfl ?_
          refine r_iinc (nI (i + 1)) [(6, .int (nI (i + 1))), (5, .int ((mbF B l f i).1)), (4, .int x4), (3, .int 1), (0, .ref (ad 31 0)), (1, .int (nI l)), (2, .int (nI k))] dX9_sample_119 1 rfl (nI_1 i) (by decide) rfl ?_
          refine r_goto 74 dX9_sample_122 (by decide) ?_
          have hh := ih (i + 1) (by omega) (by omega)
          rw [es] at hh
          exact WP.loc [0, 1, 2, 3, 4, 5, 6] rfl hh
        · rw [if_neg (show ¬ nws B l f i ≤ (mbF B l f i).2 from fun q => c_3 ((nI_leI (by omega) (by omega)).mpr q))] at es
          refine r_iload dX9_sample_110 0 rfl ?_
          refine r_goto 117 dX9_sample_112 (by decide) ?_
          refine r_istore [(5, .int (nI i)), (6, .int (nI i)), (4, .int x4), (3, .int 1), (0, .ref (ad 31 0)), (1, .int (nI l)), (2, .int (nI k))] dX9_sample_117 (by decide) rfl ?_
          refine r_iinc (nI (i + 1)) [(6, .int (nI (i + 1))), (5, .int (nI i)), (4, .int x4), (3, .int 1), (0, .ref (ad 31 0)), (1, .int (nI l)), (2, .int (nI k))] dX9_sample_119 1 rfl (nI_1 i) (by decide) rfl ?_
          refine r_goto 74 dX9_sample_122 (by decide) ?_
          have hh := ih (i + 1) (by omega) (by omega)
          rw [es] at hh
          exact WP.loc [0, 1, 2, 3, 4, 5, 6] rfl hh
      · have hz : (mbF B l f i).2 = 0 := by
          rcases hm2 with q | ⟨t0, q1, q2, q3⟩
          · exact q.2
          · exact absurd (q2.symm.trans c_2) (nI_nm1 (by omega))
        refine r_iconst (v := nI ((mbF B l f i).2)) dX9_sample_96 (by rw [hz]; rfl) ?_
        refine r_goto 107 dX9_sample_97 (by decide) ?_
        refine r_icmp_le 115 dX9_sample_107 (by decide) (fun c_6 => ?_) (fun c_6 => ?_)
        · rw [if_pos (show nws B l f i ≤ (mbF B l f i).2 from ni_le (by omega) (by omega) c_6)] at es
          refine r_iload dX9_sample_115 1 rfl ?_
          refine r_istore [(5, .int ((mbF B l f i).1)), (6, .int (nI i)), (4, .int x4), (3, .int 1), (0, .ref (ad 31 0)), (1, .int (nI l)), (2, .int (nI k))] dX9_sample_117 (by decide) rfl ?_
          refine r_iinc (nI (i + 1)) [(6, .int (nI (i + 1))), (5, .int ((mbF B l f i).1)), (4, .int x4), (3, .int 1), (0, .ref (ad 31 0)), (1, .int (nI l)), (2, .int (nI k))] dX9_sample_119 1 rfl (nI_1 i) (by decide) rfl ?_
          refine r_goto 74 dX9_sample_122 (by decide) ?_
          have hh := ih (i + 1) (by omega) (by omega)
          rw [es] at hh
          exact WP.loc [0, 1, 2, 3, 4, 5, 6] rfl hh
        · rw [if_neg (show ¬ nws B l f i ≤ (mbF B l f i).2 from fun q => c_6 ((nI_leI (by omega) (by omega)).mpr q))] at es
          refine r_iload dX9_sample_110 0 rfl ?_
          refine r_goto 117 dX9_sample_112 (by decide) ?_
          refine r_istore [(5, .int (nI i)), (6, .int (nI i)), (4, .int x4), (3, .int 1), (0, .ref (ad 31 0)), (1, .int (nI l)), (2, .int (nI k))] dX9_sample_117 (by decide) rfl ?_
          refine r_iinc (nI (i + 1)) [(6, .int (nI (i + 1))), (5, .int (nI i)), (4, .int x4), (3, .int 1), (0, .ref (ad 31 0)), (1, .int (nI l)), (2, .int (nI k))] dX9_sample_119 1 rfl (nI_1 i) (by decide) rfl ?_
          refine r_goto 74 dX9_sample_122 (by decide) ?_
          have hh := ih (i + 1) (by omega) (by omega)
          rw [es] at hh
          exact WP.loc [0, 1, 2, 3, 4, 5, 6] rfl hh
set_option maxRecDepth 100000 in
set_option maxHeartbeats 4000000 in
theorem lp_smp4 {d b0 : Nat} {G : GH} {Po : Option Value → GH → Prop} {A B : ST} {ad : AD} {σ : Nat → Bool} (hI : Inv B) {l k t : Nat} (hl : l < 6) (ht : t < 8) {x4 : Int32} (K : ∀ G4 : GH, World A (smS B (smk B l t σ (B 17 l))) ad G4 → WP mX9_sample (d + 4) b0 Po (fun _ _ => False) G4 0 0 200 [(6, .int (nI (B 17 l))), (5, .int (nI t)), (4, .int x4), (3, .int 1), (0, .ref (ad 31 0)), (1, .int (nI l)), (2, .int (nI k))] []) : ∀ (fu : Nat) (p : Nat) (G2 : GH), p ≤ B 17 l ∧ World A (smS B (smk B l t σ p)) ad G2 → B 17 l - p < fu → WP mX9_sample (d + 4) b0 Po (fun _ _ => False) G2 0 0 142 [(6, .int (nI p)), (5, .int (nI t)), (4, .int x4), (3, .int 1), (0, .ref (ad 31 0)), (1, .int (nI l)), (2, .int (nI k))] [] := by
  intro fu
  induction fu with
  | zero => intro p G2 hinv hn; exact absurd hn (Nat.not_lt_zero _)
  | succ fu ih =>
    intro p G2 hinv hn
    have hb9 := hI.b9
    have h17 := (hI.ro l hl).1
    refine r_iload dX9_sample_142 0 rfl ?_
    refine r_aload_n dX9_sample_144 rfl 4 rfl ?_
    refine r_get 17 dX9_sample_145 fRX9_51 (hinv.2.g 31 0 rfl) rfl ?_
    refine r_iload_n dX9_sample_148 rfl 5 rfl ?_
    refine r_iald dX9_sample_149 (hinv.2.g 32 17 rfl) (vp_in_nI (by omega) (by decide)) ?_
    refine r_top (nI (B 17 l)) (by rw [nI_cl (by omega)]; exact rgm (by omega)) ?_
    refine r_icmp_ge 200 dX9_sample_150 (by decide) (fun c_1 => ?_) (fun c_1 => ?_)
    · have hp : p = B 17 l := by have := ni_le (by omega) (by omega) c_1; omega
      have hq := hinv.2
      rw [hp] at hq ⊢
      exact K _ hq
    · have hp : p < B 17 l := ni_nle (by omega) (by omega) c_1
      have hcl : cla B l p < B 9 0 := ((hI.ro l hl).2 p hp).1
      refine r_aload_n dX9_sample_153 rfl 4 rfl ?_
      refine r_get 16 dX9_sample_154 fRX9_48 (hinv.2.g 31 0 rfl) rfl ?_
      refine r_bipush (v := 6) dX9_sample_157 (by decide) ?_
      refine r_iload_n dX9_sample_159 rfl 5 rfl ?_
      refine r_imul dX9_sample_160 ?_
      refine r_top (nI (6 * l)) (pk_mul 6 l) ?_
      refine r_iload dX9_sample_161 0 rfl ?_
      refine r_iadd dX9_sample_163 ?_
      refine r_top (nI (6 * l + p)) (nI_add _ _) ?_
      refine r_iald dX9_sample_164 (hinv.2.g 32 16 rfl) (vp_in_nI (by omega) (by decide)) ?_
      refine r_top (nI (B 16 (6 * l + p))) (by rw [nI_cl (by omega)]; exact rgm (by omega)) ?_
      refine r_top (nI (cla B l p)) rfl ?_
      refine r_istore [(7, .int (nI (cla B l p))), (6, .int (nI p)), (5, .int (nI t)), (4, .int x4), (3, .int 1), (0, .ref (ad 31 0)), (1, .int (nI l)), (2, .int (nI k))] dX9_sample_165 (by decide) rfl ?_
      refine r_aload_n dX9_sample_167 rfl 5 rfl ?_
      refine r_get 25 dX9_sample_168 fRX9_66 (hinv.2.g 31 0 rfl) rfl ?_
      refine r_iconst (v := 2) dX9_sample_171 (by decide) ?_
      refine r_iload dX9_sample_172 0 rfl ?_
      refine r_imul dX9_sample_174 ?_
      refine r_top (nI (2 * cla B l p)) (pk_mul 2 _) ?_
      refine r_aload_n dX9_sample_175 rfl 5 rfl ?_
      refine r_iload dX9_sample_176 2 rfl ?_
      refine r_iload dX9_sample_178 0 rfl ?_
      have hme := c_mmeets (d := d + 3) (b0 := b0) hinv.2 (t := t) (c := cla B l p) (by omega) (by omega)
      rw [sm_me] at hme
      refine r_callV (st := [.int (nI (2 * cla B l p)), .ref (ad 32 25)]) [.int (nI t), .int (nI (cla B l p))] 0 0 dX9_sample_180 kX9_meets nX9_meets lRX9_144 (hinv.2.g 31 0 rfl) rfl hme rfl rfl (Nat.le_of_ble_eq_true rfl) (Nat.le_refl _) (Nat.le_refl _) (fun _ _ h => h.elim) ?_
      refine cx_det (st2 := [.int (b2i (meB B t (cla B l p))), .int (nI (2 * cla B l p)), .ref (ad 32 25)]) rfl ?_
      refine r_if_eq 190 dX9_sample_183 (by decide) (fun c_3 => ?_) (fun c_3 => ?_)
      · refine r_iconst (v := 0) dX9_sample_190 (by decide) ?_
        refine r_iadd dX9_sample_191 ?_
        refine r_top (nI (2 * cla B l p + 0)) (nI_add (2 * cla B l p) 0) ?_
        refine r_iconst (v := nI 1) dX9_sample_192 (by decide) ?_
        refine r_zast dX9_sample_193 (hinv.2.g 32 25 rfl) (vp_in_nI (by omega) (by decide)) rfl ?_
        have hW_4 : World A (setA (smS B (smk B l t σ p)) 25 (2 * cla B l p + 0) 1) ad (va_up G2 (ad 32 25) (some (.inl (.boolean, 20, .inl (upd (rg (smS B (smk B l t σ p)) 25 0 20) (2 * cla B l p + 0) (nI 1)))))) := m_a25 hinv.2 (by omega)
        refine r_heap (G' := va_up G2 (ad 32 25) (some (.inl (.boolean, 20, .inl (upd (rg (smS B (smk B l t σ p)) 25 0 20) (2 * cla B l p + 0) (nI 1)))))) (by rw [nI_cl (by omega)] <;> rfl) ?_
        refine r_iinc (nI (p + 1)) [(6, .int (nI (p + 1))), (7, .int (nI (cla B l p))), (5, .int (nI t)), (4, .int x4), (3, .int 1), (0, .ref (ad 31 0)), (1, .int (nI l)), (2, .int (nI k))] dX9_sample_194 1 rfl (nI_1 p) (by decide) rfl ?_
        refine r_goto 142 dX9_sample_197 (by decide) ?_
        have hq := hW_4
        rw [smS_set (by omega)] at hq
        have he : (fun i => if i = 2 * cla B l p + 0 then true else smk B l t σ p i) = smk B l t σ (p + 1) := by
          funext i
          show _ = (if i = 2 * cla B l p + b2n (meB B t (cla B l p)) then true else smk B l t σ p i)
          rw [b2i_0 c_3]; rfl
        rw [he] at hq
        exact WP.loc [0, 2, 3, 4, 5, 6, 7] rfl (ih (p + 1) _ ⟨by omega, hq⟩ (by omega))
      · refine r_iconst (v := 1) dX9_sample_186 (by decide) ?_
        refine r_goto 191 dX9_sample_187 (by decide) ?_
        refine r_iadd dX9_sample_191 ?_
        refine r_top (nI (2 * cla B l p + 1)) (nI_add (2 * cla B l p) 1) ?_
        refine r_iconst (v := nI 1) dX9_sample_192 (by decide) ?_
        refine r_zast dX9_sample_193 (hinv.2.g 32 25 rfl) (vp_in_nI (by omega) (by decide)) rfl ?_
        have hW_5 : World A (setA (smS B (smk B l t σ p)) 25 (2 * cla B l p + 1) 1) ad (va_up G2 (ad 32 25) (some (.inl (.boolean, 20, .inl (upd (rg (smS B (smk B l t σ p)) 25 0 20) (2 * cla B l p + 1) (nI 1)))))) := m_a25 hinv.2 (by omega)
        refine r_heap (G' := va_up G2 (ad 32 25) (some (.inl (.boolean, 20, .inl (upd (rg (smS B (smk B l t σ p)) 25 0 20) (2 * cla B l p + 1) (nI 1)))))) (by rw [nI_cl (by omega)] <;> rfl) ?_
        refine r_iinc (nI (p + 1)) [(6, .int (nI (p + 1))), (7, .int (nI (cla B l p))), (5, .int (nI t)), (4, .int x4), (3, .int 1), (0, .ref (ad 31 0)), (1, .int (nI l)), (2, .int (nI k))] dX9_sample_194 1 rfl (nI_1 p) (by decide) rfl ?_
        refine r_goto 142 dX9_sample_197 (by decide) ?_
        have hq := hW_5
        rw [smS_set (by omega)] at hq
        have he : (fun i => if i = 2 * cla B l p + 1 then true else smk B l t σ p i) = smk B l t σ (p + 1) := by
          funext i
          show _ = (if i = 2 * cla B l p + b2n (meB B t (cla B l p)) then true else smk B l t σ p i)
          rw [b2i_n0 c_3]; rfl
        rw [he] at hq
        exact WP.loc [0, 2, 3, 4, 5, 6, 7] rfl (ih (p + 1) _ ⟨by omega, hq⟩ (by omega))
theorem u_big {B : ST} {l c : Nat} (h : ucn B l (cvF B l c) + c ≤ B 18 0) (hb : ¬ (mbF B l (cvF B l c) (B 18 0)).1 = -1) : c < B 18 0 := by
  rcases Nat.lt_or_ge c (B 18 0) with q | q
  · exact q
  · exact absurd (u_zero (by omega)) hb
theorem smF_u {B : ST} {l k c : Nat} (h : c < B 18 0) : smF B l k (B 18 0 - c) = (if bsI B l c = -1 then -1 else if c = k then bsI B l c else smF B l k (B 18 0 - (c + 1))) := by
  have e : B 18 0 - c = (B 18 0 - (c + 1)) + 1 := by omega
  rw [e]
  show (if bsI B l (B 18 0 - (B 18 0 - (c + 1) + 1)) = -1 then -1 else if B 18 0 - (B 18 0 - (c + 1) + 1) = k then bsI B l (B 18 0 - (B 18 0 - (c + 1) + 1)) else smF B l k (B 18 0 - (c + 1))) = _
  rw [show B 18 0 - (B 18 0 - (c + 1) + 1) = c by omega]
theorem smF_e {B : ST} {l k c : Nat} (hI : Inv B) (h : ucn B l (cvF B l c) + c ≤ B 18 0) (hb : (mbF B l (cvF B l c) (B 18 0)).1 = -1) : smF B l k (B 18 0 - c) = -1 := by
  rcases Nat.lt_or_ge c (B 18 0) with q | q
  · rw [smF_u q, if_pos hb]
  · rw [show B 18 0 - c = 0 by omega]; rfl
theorem smF_h {B : ST} {l k c : Nat} (hI : Inv B) (h : ucn B l (cvF B l c) + c ≤ B 18 0) (hb : ¬ (mbF B l (cvF B l c) (B 18 0)).1 = -1) (hk : c = k) : (mbF B l (cvF B l c) (B 18 0)).1 = smF B l k (B 18 0 - c) := by
  rw [smF_u (u_big h hb), if_neg hb, if_pos hk]
theorem smF_s {B : ST} {l k c : Nat} (hI : Inv B) (h : ucn B l (cvF B l c) + c ≤ B 18 0) (hb : ¬ (mbF B l (cvF B l c) (B 18 0)).1 = -1) (hk : c ≠ k) : smF B l k (B 18 0 - c) = smF B l k (B 18 0 - (c + 1)) := by
  rw [smF_u (u_big h hb), if_neg hb, if_neg hk]
set_option maxRecDepth 100000 in
set_option maxHeartbeats 4000000 in
theorem lp_smp2 {d b0 : Nat} {G : GH} {A B : ST} {ad : AD} (hI : Inv B) (h26 : B 26 0 = 0) {l k : Nat} (hl : l < 6) (hk : k < 2 ^ 31) : ∀ (fu : Nat) (c : Nat) (σ : Nat → Bool) (G2 : GH), c ≤ k ∧ ucn B l (cvF B l c) + c ≤ B 18 0 ∧ smF B l k (B 18 0 - c) = smF B l k (B 18 0) ∧ Cou B l σ (cvF B l c) ∧ World A (smS B σ) ad G2 → k - c < fu → WP mX9_sample (d + 4) b0 (MPo (smF B l k (B 18 0)) 0 B A ad) (fun _ _ => False) G2 0 0 63 [(4, .int (nI (k - c))), (3, .int 1), (0, .ref (ad 31 0)), (1, .int (nI l)), (2, .int (nI k))] [] := by
  intro fu
  induction fu with
  | zero => intro c σ G2 hinv hn; exact absurd hn (Nat.not_lt_zero _)
  | succ fu ih =>
    intro c σ G2 hinv hn
    have hb18 := hI.b18
    refine r_iload dX9_sample_63 0 rfl ?_
    refine r_if_lt 206 dX9_sample_65 (by decide) (fun c_1 => absurd c_1 (nI_pos (by omega))) (fun c_1 => ?_)
    refine r_iconst (v := (-1)) dX9_sample_68 (by decide) ?_
    refine r_istore [(5, .int (-1)), (4, .int (nI (k - c))), (3, .int 1), (0, .ref (ad 31 0)), (1, .int (nI l)), (2, .int (nI k))] dX9_sample_69 (by decide) rfl ?_
    refine r_iconst (v := nI 0) dX9_sample_71 (by decide) ?_
    refine r_istore [(6, .int (nI 0)), (5, .int (-1)), (4, .int (nI (k - c))), (3, .int 1), (0, .ref (ad 31 0)), (1, .int (nI l)), (2, .int (nI k))] dX9_sample_72 (by decide) rfl ?_
    refine lp_smp3 (f := cvF B l c) hinv.2.2.2.2 hI hl hinv.2.2.2.1 ?_ _ 0 (Nat.zero_le _) (Nat.lt_succ_self _)
    refine r_iload dX9_sample_125 1 rfl ?_
    refine r_iconst (v := (-1)) dX9_sample_127 (by decide) ?_
    refine r_icmp_eq 136 dX9_sample_128 (by decide) (fun c_4 => ?_) (fun c_4 => ?_)
    · refine r_iload dX9_sample_136 1 rfl ?_
      refine r_ireti dX9_sample_138 rfl ?_
      exact ⟨by rw [(show (mbF B l (cvF B l c) (B 18 0)).1 = smF B l k (B 18 0) by rw [← hinv.2.2.1, smF_e hI hinv.2.1 c_4]; exact c_4)], (smS B σ), hinv.2.2.2.2, h26, fun f hf => smS_f (by omega)⟩
    · refine r_iload dX9_sample_131 2 rfl ?_
      refine r_if_ne 139 dX9_sample_133 (by decide) (fun c_5 => ?_) (fun c_5 => ?_)
      · have hm3 : ∃ t, t < B 18 0 ∧ (mbF B l (cvF B l c) (B 18 0)).1 = nI t ∧ 0 < nws B l (cvF B l c) t := by
          rcases mbF_2 B l (cvF B l c) (B 18 0) with q | ⟨t, q1, q2, q3, q4⟩
          · exact absurd q.1 c_4
          · exact ⟨t, q1, q2, q4⟩
        obtain ⟨t, ht, e1, e2⟩ := hm3
        have hus := u_step (l := l) (c := c) ht (by omega) e1 e2
        have hkc : k - c ≠ 0 := fun q => c_5 (by rw [q]; rfl)
        have es := smF_s (k := k) hI hinv.2.1 c_4 (by omega)
        rw [e1]
        refine r_iconst (v := nI 0) dX9_sample_139 (by decide) ?_
        refine r_istore [(6, .int (nI 0)), (5, .int (nI t)), (4, .int (nI (k - c))), (3, .int 1), (0, .ref (ad 31 0)), (1, .int (nI l)), (2, .int (nI k))] dX9_sample_140 (by decide) rfl ?_
        refine lp_smp4 (G := G) (σ := σ) hI hl (show t < 8 by omega) (fun G4 hW4 => ?_) _ 0 _ ⟨Nat.zero_le _, hinv.2.2.2.2⟩ (Nat.lt_succ_self _)
        refine r_iinc (nI (k - (c + 1))) [(4, .int (nI (k - (c + 1)))), (6, .int (nI (B 17 l))), (5, .int (nI t)), (3, .int 1), (0, .ref (ad 31 0)), (1, .int (nI l)), (2, .int (nI k))] dX9_sample_200 2 rfl (by rw [show k - c = (k - (c + 1)) + 1 by omega]; exact nI_dec _) (by decide) rfl ?_
        refine r_goto 63 dX9_sample_203 (by decide) ?_
        have hCn : Cou B l (smk B l t σ (B 17 l)) (cvF B l (c + 1)) := by
          rw [cvF_s (l := l) (c := c) (by omega) e1]
          exact smk_Cou (fun k hk => ((hI.ro l hl).2 k hk).2) hinv.2.2.2.1
        exact WP.loc [0, 3, 4, 5, 6] rfl (ih (c + 1) _ _ ⟨by omega, by omega, by rw [← hinv.2.2.1, es], hCn, hW4⟩ (by omega))
      · refine r_iload dX9_sample_136 1 rfl ?_
        refine r_ireti dX9_sample_138 rfl ?_
        exact ⟨by rw [(show (mbF B l (cvF B l c) (B 18 0)).1 = smF B l k (B 18 0) by rw [← hinv.2.2.1]; exact smF_h hI hinv.2.1 c_4 (by have h9 := ni_eq (b := 0) (by omega) (by decide) c_5; omega))], (smS B σ), hinv.2.2.2.2, h26, fun f hf => smS_f (by omega)⟩
set_option maxRecDepth 100000 in
set_option maxHeartbeats 4000000 in
theorem lp_smp1 {d b0 : Nat} {G : GH} {A B : ST} {ad : AD} (hI : Inv B) (h26 : B 26 0 = 0) {l k : Nat} (hl : l < 6) (hk : k < 2 ^ 31) : ∀ (fu : Nat) (k9 : Nat) (G2 : GH), k9 ≤ 20 ∧ World A (zB B k9) ad G2 → 20 - k9 < fu → WP mX9_sample (d + 4) b0 (MPo (smF B l k (B 18 0)) 0 B A ad) (fun _ _ => False) G2 0 0 39 [(4, .int (nI k9)), (3, .int 1), (0, .ref (ad 31 0)), (1, .int (nI l)), (2, .int (nI k))] [] := by
  intro fu
  induction fu with
  | zero => intro k9 G2 hinv hn; exact absurd hn (Nat.not_lt_zero _)
  | succ fu ih =>
    intro k9 G2 hinv hn
    refine r_iload dX9_sample_39 0 rfl ?_
    refine r_bipush (v := 20) dX9_sample_41 (by decide) ?_
    refine r_icmp_ge 60 dX9_sample_43 (by decide) (fun c_1 => ?_) (fun c_1 => ?_)
    · refine r_iload_n dX9_sample_60 rfl 4 rfl ?_
      refine r_istore [(4, .int (nI k)), (3, .int 1), (0, .ref (ad 31 0)), (1, .int (nI l)), (2, .int (nI k))] dX9_sample_61 (by decide) rfl ?_
      have hk9 : k9 = 20 := by have := ni_le (a := 20) (by decide) (by omega) c_1; omega
      have hq := hinv.2
      rw [hk9, zB_20] at hq
      exact lp_smp2 (G := G) hI h26 hl hk _ 0 _ _ ⟨Nat.zero_le _, u_le, rfl, fun p hp hc b hb => rfl, hq⟩ (Nat.lt_succ_self _)
    · have hk20 : k9 < 20 := ni_nle (a := 20) (by decide) (by omega) c_1
      refine r_aload_n dX9_sample_46 rfl 2 rfl ?_
      refine r_get 25 dX9_sample_47 fRX9_66 (hinv.2.g 31 0 rfl) rfl ?_
      refine r_iload dX9_sample_50 0 rfl ?_
      refine r_iconst (v := 0) dX9_sample_52 (by decide) ?_
      refine r_zast dX9_sample_53 (hinv.2.g 32 25 rfl) (vp_in_nI (by omega) (by decide)) rfl ?_
      have hW_3 : World A (setA (zB B k9) 25 k9 0) ad (va_up G2 (ad 32 25) (some (.inl (.boolean, 20, .inl (upd (rg (zB B k9) 25 0 20) k9 (nI 0)))))) := m_a25 hinv.2 (by omega)
      refine r_heap (G' := va_up G2 (ad 32 25) (some (.inl (.boolean, 20, .inl (upd (rg (zB B k9) 25 0 20) k9 (nI 0)))))) (by rw [nI_cl (by omega)] <;> rfl) ?_
      refine r_iinc (nI (k9 + 1)) [(4, .int (nI (k9 + 1))), (3, .int 1), (0, .ref (ad 31 0)), (1, .int (nI l)), (2, .int (nI k))] dX9_sample_54 0 rfl (nI_1 k9) (by decide) rfl ?_
      refine r_goto 39 dX9_sample_57 (by decide) ?_
      have hq := hW_3
      rw [zB_s] at hq
      exact WP.loc [0, 1, 2, 3, 4] rfl (ih (k9 + 1) _ ⟨by omega, hq⟩ (by omega))
section SMC
variable {A A' : ST}
theorem brF_c (E : ∀ f, f < 22 → A' f = A f) {l t n : Nat} : brF A' l t n = brF A l t n := by
  funext j
  unfold brF
  rw [E 10 (by decide), meB_c E, cla_c E]
theorem nws_c (E : ∀ f, f < 22 → A' f = A f) {l t : Nat} {f : Nat → Bool} : nws A' l f t = nws A l f t := by
  unfold nws
  rw [brF_c E, E 17 (by decide)]
theorem mbF_c (E : ∀ f, f < 22 → A' f = A f) {l : Nat} {f : Nat → Bool} : ∀ n, mbF A' l f n = mbF A l f n
  | 0 => rfl
  | n + 1 => by
    show (if nws A' l f n ≤ (mbF A' l f n).2 then mbF A' l f n else (nI n, nws A' l f n)) = (if nws A l f n ≤ (mbF A l f n).2 then mbF A l f n else (nI n, nws A l f n))
    rw [nws_c E, mbF_c E n]
theorem cvF_c (E : ∀ f, f < 22 → A' f = A f) {l : Nat} : ∀ n, cvF A' l n = cvF A l n
  | 0 => rfl
  | n + 1 => by
    show (fun j => cvF A' l n j || brF A' l (mbF A' l (cvF A' l n) (A' 18 0)).1.toNatClampNeg (A' 17 l) j) = (fun j => cvF A l n j || brF A l (mbF A l (cvF A l n) (A 18 0)).1.toNatClampNeg (A 17 l) j)
    rw [cvF_c E n, brF_c E, mbF_c E, E 17 (by decide), E 18 (by decide)]
theorem smF_c (E : ∀ f, f < 22 → A' f = A f) {l k : Nat} : ∀ n, smF A' l k n = smF A l k n
  | 0 => rfl
  | n + 1 => by
    show (if bsI A' l (A' 18 0 - (n + 1)) = -1 then -1 else if A' 18 0 - (n + 1) = k then bsI A' l (A' 18 0 - (n + 1)) else smF A' l k n) = (if bsI A l (A 18 0 - (n + 1)) = -1 then -1 else if A 18 0 - (n + 1) = k then bsI A l (A 18 0 - (n + 1)) else smF A l k n)
    unfold bsI
    rw [E 18 (by decide), cvF_c E, mbF_c E, smF_c E n]
end SMC
set_option maxRecDepth 100000 in
set_option maxHeartbeats 4000000 in
theorem m_sample_0 {d b0 : Nat} {G : GH} {A B : ST} {ad : AD} (hW : World A B ad G) (hI : Inv B) {l k : Nat} (hl : l < B 15 0) (hk : k < 2 ^ 31) : CT mX9_sample (d + 4) b0 G [.ref (ad 31 0), .int (nI l), .int (nI k)] 0 0 (MPo (smF B l k (B 18 0)) 0 B A ad) (fun _ _ => False) := by
  have hb0 := hI.b0
  have hb2 := hI.b2
  have hb9 := hI.b9
  have hb15 := hI.b15
  have hb18 := hI.b18
  refine CT.intro (by decide +kernel) rfl (Nat.le_of_ble_eq_true rfl) ?_
  show WP mX9_sample _ _ _ _ _ 0 0 0 [(0, .ref (ad 31 0)), (1, .int (nI l)), (2, .int (nI k))] []
  refine r_aload_n dX9_sample_0 rfl 0 rfl ?_
  refine r_iload_n dX9_sample_1 rfl 1 rfl ?_
  refine r_callV (st := []) [.int (nI l)] 0 0 dX9_sample_2 kX9_isLetter nX9_isLetter lRX9_135 (hW.g 31 0 rfl) rfl (c_X9_isLetter hW (Nat.le_trans hb15 (by decide)) (nI l)) rfl rfl (Nat.le_of_ble_eq_true rfl) (Nat.le_refl _) (Nat.le_refl _) (fun _ _ h => h.elim) ?_
  refine cx_det (st2 := [.int (b2i (inB (nI l) (B 15 0)))]) rfl ?_
  refine r_if_eq 16 dX9_sample_5 (by decide) (fun c_1 => absurd c_1 (b2i_no (inB_k hl (by omega)))) (fun c_1 => ?_)
  refine r_iload_n dX9_sample_8 rfl 2 rfl ?_
  refine r_if_lt 16 dX9_sample_9 (by decide) (fun c_2 => absurd c_2 (nI_pos (by omega))) (fun c_2 => ?_)
  refine r_iconst (v := 1) dX9_sample_12 (by decide) ?_
  refine r_goto 17 dX9_sample_13 (by decide) ?_
  refine r_istore_n [(3, .int 1), (0, .ref (ad 31 0)), (1, .int (nI l)), (2, .int (nI k))] dX9_sample_17 rfl (by decide) rfl ?_
  refine r_aload_n dX9_sample_18 rfl 1 rfl ?_
  refine r_iload_n dX9_sample_19 rfl 0 rfl ?_
  refine r_if_eq 27 dX9_sample_20 (by decide) (fun c_3 => absurd c_3 (by decide)) (fun c_3 => ?_)
  refine r_iconst (v := 0) dX9_sample_23 (by decide) ?_
  refine r_goto 28 dX9_sample_24 (by decide) ?_
  refine r_callV (st := []) [.int 0] 0 0 dX9_sample_28 kX9_goes nX9_goes lRX9_92 (hW.g 31 0 rfl) rfl (c_goes hW 0) rfl rfl (Nat.le_of_ble_eq_true rfl) (Nat.le_refl _) (Nat.le_refl _) (fun _ _ h => h.elim) ?_
  refine cx_det (st2 := [.int 1]) rfl ?_
  have hW_4 : World A (setA B 26 0 0) ad (va_up G (ad 31 0) (some (.inr (9, (mF B ad).set 26 (.int (nI 0)))))) := m_s26 hW 0
  refine r_heap (G' := va_up G (ad 31 0) (some (.inr (9, (mF B ad).set 26 (.int (nI 0)))))) rfl ?_
  refine r_if_ne 36 dX9_sample_31 (by decide) (fun c_5 => ?_) (fun c_5 => absurd c_5 (by decide))
  refine r_iconst (v := nI 0) dX9_sample_36 (by decide) ?_
  refine r_istore [(4, .int (nI 0)), (3, .int 1), (0, .ref (ad 31 0)), (1, .int (nI l)), (2, .int (nI k))] dX9_sample_37 (by decide) rfl ?_
  have E26 : ∀ f, f < 22 → (setA B 26 0 0) f = B f := fun f hf => fld26 (by omega)
  have hq := lp_smp1 (d := d) (b0 := b0) (G := G) (A := A) (B := setA B 26 0 0) (ad := ad) (Inv.congr E26 hI) setA_s (l := l) (k := k) (by omega) hk _ 0 _ ⟨Nat.zero_le _, by rw [zB_0]; exact hW_4⟩ (Nat.lt_succ_self _)
  refine WP.post (fun r G' h => ?_) hq
  obtain ⟨h1, B', h2, h3, h4⟩ := h
  refine ⟨?_, B', h2, h3, fun f hf => by rw [h4 f hf]; exact fld26 (by omega)⟩
  rw [h1, smF_c E26]; rfl
set_option maxRecDepth 100000 in
set_option maxHeartbeats 4000000 in
theorem m_sample_1a {d b0 : Nat} {G : GH} {A B : ST} {ad : AD} (hW : World A B ad G) (hI : Inv B) {x y : Int32} (hx : inB x (B 15 0) = false) : CT mX9_sample (d + 4) b0 G [.ref (ad 31 0), .int x, .int y] 0 0 (MPo 0 1 B A ad) (fun _ _ => False) := by
  have hb0 := hI.b0
  have hb2 := hI.b2
  have hb9 := hI.b9
  have hb15 := hI.b15
  have hb18 := hI.b18
  refine CT.intro (by decide +kernel) rfl (Nat.le_of_ble_eq_true rfl) ?_
  show WP mX9_sample _ _ _ _ _ 0 0 0 [(0, .ref (ad 31 0)), (1, .int x), (2, .int y)] []
  refine r_aload_n dX9_sample_0 rfl 0 rfl ?_
  refine r_iload_n dX9_sample_1 rfl 1 rfl ?_
  refine r_callV (st := []) [.int x] 0 0 dX9_sample_2 kX9_isLetter nX9_isLetter lRX9_135 (hW.g 31 0 rfl) rfl (c_X9_isLetter hW (Nat.le_trans hb15 (by decide)) x) rfl rfl (Nat.le_of_ble_eq_true rfl) (Nat.le_refl _) (Nat.le_refl _) (fun _ _ h => h.elim) ?_
  refine cx_det (st2 := [.int (b2i (inB x (B 15 0)))]) rfl ?_
  refine r_if_eq 16 dX9_sample_5 (by decide) (fun c_1 => ?_) (fun c_1 => absurd (b2i_z hx) c_1)
  refine r_iconst (v := 0) dX9_sample_16 (by decide) ?_
  refine r_istore_n [(3, .int 0), (0, .ref (ad 31 0)), (1, .int x), (2, .int y)] dX9_sample_17 rfl (by decide) rfl ?_
  refine r_aload_n dX9_sample_18 rfl 1 rfl ?_
  refine r_iload_n dX9_sample_19 rfl 0 rfl ?_
  refine r_if_eq 27 dX9_sample_20 (by decide) (fun c_2 => ?_) (fun c_2 => absurd (by decide) c_2)
  refine r_iconst (v := 1) dX9_sample_27 (by decide) ?_
  refine r_callV (st := []) [.int 1] 0 0 dX9_sample_28 kX9_goes nX9_goes lRX9_92 (hW.g 31 0 rfl) rfl (c_goes hW 1) rfl rfl (Nat.le_of_ble_eq_true rfl) (Nat.le_refl _) (Nat.le_refl _) (fun _ _ h => h.elim) ?_
  refine cx_det (st2 := [.int 0]) rfl ?_
  have hW_3 : World A (setA B 26 0 1) ad (va_up G (ad 31 0) (some (.inr (9, (mF B ad).set 26 (.int (nI 1)))))) := m_s26 hW 1
  refine r_heap (G' := va_up G (ad 31 0) (some (.inr (9, (mF B ad).set 26 (.int (nI 1)))))) rfl ?_
  refine r_if_ne 36 dX9_sample_31 (by decide) (fun c_4 => absurd (by decide) c_4) (fun c_4 => ?_)
  refine r_iconst (v := 0) dX9_sample_34 (by decide) ?_
  refine r_ireti dX9_sample_35 rfl ?_
  exact ⟨rfl, (setA B 26 0 1), hW_3, rfl, (s26 (fun f _ => rfl))⟩
set_option maxRecDepth 100000 in
set_option maxHeartbeats 4000000 in
theorem m_sample_1b {d b0 : Nat} {G : GH} {A B : ST} {ad : AD} (hW : World A B ad G) (hI : Inv B) {l : Nat} {y : Int32} (hl : l < B 15 0) (hy : y < 0) : CT mX9_sample (d + 4) b0 G [.ref (ad 31 0), .int (nI l), .int y] 0 0 (MPo 0 1 B A ad) (fun _ _ => False) := by
  have hb0 := hI.b0
  have hb2 := hI.b2
  have hb9 := hI.b9
  have hb15 := hI.b15
  have hb18 := hI.b18
  refine CT.intro (by decide +kernel) rfl (Nat.le_of_ble_eq_true rfl) ?_
  show WP mX9_sample _ _ _ _ _ 0 0 0 [(0, .ref (ad 31 0)), (1, .int (nI l)), (2, .int y)] []
  refine r_aload_n dX9_sample_0 rfl 0 rfl ?_
  refine r_iload_n dX9_sample_1 rfl 1 rfl ?_
  refine r_callV (st := []) [.int (nI l)] 0 0 dX9_sample_2 kX9_isLetter nX9_isLetter lRX9_135 (hW.g 31 0 rfl) rfl (c_X9_isLetter hW (Nat.le_trans hb15 (by decide)) (nI l)) rfl rfl (Nat.le_of_ble_eq_true rfl) (Nat.le_refl _) (Nat.le_refl _) (fun _ _ h => h.elim) ?_
  refine cx_det (st2 := [.int (b2i (inB (nI l) (B 15 0)))]) rfl ?_
  refine r_if_eq 16 dX9_sample_5 (by decide) (fun c_1 => absurd c_1 (b2i_no (inB_k hl (by omega)))) (fun c_1 => ?_)
  refine r_iload_n dX9_sample_8 rfl 2 rfl ?_
  refine r_if_lt 16 dX9_sample_9 (by decide) (fun c_2 => ?_) (fun c_2 => absurd hy c_2)
  refine r_iconst (v := 0) dX9_sample_16 (by decide) ?_
  refine r_istore_n [(3, .int 0), (0, .ref (ad 31 0)), (1, .int (nI l)), (2, .int y)] dX9_sample_17 rfl (by decide) rfl ?_
  refine r_aload_n dX9_sample_18 rfl 1 rfl ?_
  refine r_iload_n dX9_sample_19 rfl 0 rfl ?_
  refine r_if_eq 27 dX9_sample_20 (by decide) (fun c_3 => ?_) (fun c_3 => absurd (by decide) c_3)
  refine r_iconst (v := 1) dX9_sample_27 (by decide) ?_
  refine r_callV (st := []) [.int 1] 0 0 dX9_sample_28 kX9_goes nX9_goes lRX9_92 (hW.g 31 0 rfl) rfl (c_goes hW 1) rfl rfl (Nat.le_of_ble_eq_true rfl) (Nat.le_refl _) (Nat.le_refl _) (fun _ _ h => h.elim) ?_
  refine cx_det (st2 := [.int 0]) rfl ?_
  have hW_4 : World A (setA B 26 0 1) ad (va_up G (ad 31 0) (some (.inr (9, (mF B ad).set 26 (.int (nI 1)))))) := m_s26 hW 1
  refine r_heap (G' := va_up G (ad 31 0) (some (.inr (9, (mF B ad).set 26 (.int (nI 1)))))) rfl ?_
  refine r_if_ne 36 dX9_sample_31 (by decide) (fun c_5 => absurd (by decide) c_5) (fun c_5 => ?_)
  refine r_iconst (v := 0) dX9_sample_34 (by decide) ?_
  refine r_ireti dX9_sample_35 rfl ?_
  exact ⟨rfl, (setA B 26 0 1), hW_4, rfl, (s26 (fun f _ => rfl))⟩
