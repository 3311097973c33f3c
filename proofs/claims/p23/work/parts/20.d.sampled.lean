theorem cla_lt {A : ST} (hI : Inv A) {i k : Nat} (hi : i < 6) (hk : k < A 17 i) : cla A i k < A 9 0 := ((hI.ro i hi).2 k hk).1
theorem nm_lt {t : Nat} (h : t < 2 ^ 31) : ¬ nI t < -1 := fun e => by
  have h1 := Int32.lt_iff_toInt_lt.mp e
  rw [nI_toInt h, show (-1 : Int32).toInt = -1 by decide] at h1
  omega
theorem mn_le {t : Nat} (h : t < 2 ^ 31) : ¬ nI t ≤ -1 := fun e => by
  have h1 := Int32.le_iff_toInt_le.mp e
  rw [nI_toInt h, show (-1 : Int32).toInt = -1 by decide] at h1
  omega
set_option maxRecDepth 100000 in
set_option maxHeartbeats 4000000 in
theorem l_smp2 {d b0 : Nat} {Q : Nat → Nat} {A B : ST} (hI : Inv A) (hR : Rl A B) {i : Nat} (hi : i < A 15 0) : ∀ (fu : Nat) (p : Nat) (G : GH), (LW Q A B G ∧ p ≤ 9) → 9 - p < fu → WP mL_areSampled (d + 9) b0 (fun r G' => r = some (.int (nI 1)) ∧ LW Q A B G') NoX G (20 * (9 - p)) (400 * (9 - p)) 68 [(9, .int (nI p)), (8, .int (b2i (hasC A i (A 17 i)))), (7, .int (nI 1)), (6, .int (b2i (ovr A i p))), (5, .int (nI (enc (chs A i p) 12))), (0, .ref (Q 0)), (1, .ref (Q 1)), (2, .ref (Q 2)), (3, .ref (Q 3)), (4, .int (nI i))] [] := by
  intro fu
  induction fu with
  | zero => intro p G hinv hn; exact absurd hn (Nat.not_lt_zero _)
  | succ fu ih =>
    intro p G hinv hn
    obtain ⟨hL, hp⟩ := hinv
    have hm0 := hR.m0
    have hm1 := hR.m1
    have hm2 := hR.m2
    have hm3 := hR.m3
    have hm4 := hR.m4
    have hn9 := hR.n9
    have hb0 := hI.b0
    have hb2 := hI.b2
    have hb15 := hI.b15
    have hb18 := hI.b18
    have h31 : A 18 0 < 2 ^ 31 := by omega
    refine r_iload dL_areSampled_68 0 rfl ?_
    refine r_bipush (v := (nI 9)) dL_areSampled_70 (by decide) ?_
    refine n_icmp_ge 201 dL_areSampled_72 (by decide) (by omega) (by omega) (fun ce => ?_) (fun ce => ?_)
    · refine r_iload dL_areSampled_201 2 rfl ?_
      refine r_ret .boolean dL_areSampled_203 rfl rfl ?_
      exact ⟨rfl, hL⟩
    · refine WP.bud (bc' := 20 * (9 - (p + 1)) + 20) (bs' := 400 * (9 - (p + 1)) + 400) (by omega) (by omega) ?_
      refine r_iload dL_areSampled_75 2 rfl ?_
      refine n_if_eq 201 dL_areSampled_77 (by decide) (by omega) (fun c2 => absurd c2 (by decide)) (fun c2 => ?_)
      refine r_aload_n dL_areSampled_80 rfl 5 rfl ?_
      refine r_iload dL_areSampled_81 9 rfl ?_
      refine r_iload dL_areSampled_83 0 rfl ?_
      obtain ⟨fshq3, hq3⟩ := hL.r0
      refine r_callV (st := []) [.int (nI i), .int (nI p)] (20 * (9 - (p + 1)) + 0) (400 * (9 - (p + 1)) + 0) dL_areSampled_85 kX8_sample nX8_sample lRL_71 hq3 rfl (L_sample hL hI hi (show p < 2 ^ 31 by omega)) rfl rfl (Nat.le_of_ble_eq_true rfl) (by omega) (by omega) (fun _ _ h => h.elim) ?_
      intro r G4 hr
      obtain ⟨rfl, hL5⟩ := hr
      show WP mL_areSampled _ _ _ _ _ _ _ 88 [(9, .int (nI p)), (8, .int (b2i (hasC A i (A 17 i)))), (7, .int (nI 1)), (6, .int (b2i (ovr A i p))), (5, .int (nI (enc (chs A i p) 12))), (0, .ref (Q 0)), (1, .ref (Q 1)), (2, .ref (Q 2)), (3, .ref (Q 3)), (4, .int (nI i))] [.int (smV A i p)]
      rcases smV_cases (A := A) (i := i) h31 p with hv | ⟨-, -, t, ht, hv, -⟩
      · refine r_top (-1) hv ?_
        refine r_istore [(10, .int (-1)), (9, .int (nI p)), (8, .int (b2i (hasC A i (A 17 i)))), (7, .int (nI 1)), (6, .int (b2i (ovr A i p))), (5, .int (nI (enc (chs A i p) 12))), (0, .ref (Q 0)), (1, .ref (Q 1)), (2, .ref (Q 2)), (3, .ref (Q 3)), (4, .int (nI i))] dL_areSampled_88 (by decide) rfl ?_
        refine r_iload dL_areSampled_90 0 rfl ?_
        refine r_iconst (v := (-1)) dL_areSampled_92 (by decide) ?_
        refine r_icmp_lt 162 dL_areSampled_93 (by decide) (fun c6 => absurd c6 (by decide)) (fun c6 => ?_)
        refine r_iload dL_areSampled_96 0 rfl ?_
        refine r_aload_n dL_areSampled_98 rfl 7 rfl ?_
        refine r_iconst (v := (nI 3)) dL_areSampled_99 (by decide) ?_
        refine n_iald dL_areSampled_100 hL5.r1 (by omega) (by decide) ?_
        refine r_icmp_ge 162 dL_areSampled_101 (by decide) (fun c7 => absurd c7 (mn_le (by omega))) (fun c7 => ?_)
        refine r_iload dL_areSampled_104 0 rfl ?_
        refine r_if_lt 124 dL_areSampled_106 (by decide) (fun c8 => ?_) (fun c8 => absurd c8 (by decide))
        refine r_iload dL_areSampled_124 1 rfl ?_
        refine n_if_gt 158 dL_areSampled_126 (by decide) (by omega) (fun cp => ?_) (fun cp => ?_)
        · refine r_iconst (v := (nI 1)) dL_areSampled_158 (by decide) ?_
          refine r_goto 163 dL_areSampled_159 (by decide) ?_
          refine r_istore [(7, .int (nI 1)), (10, .int (-1)), (9, .int (nI p)), (8, .int (b2i (hasC A i (A 17 i)))), (6, .int (b2i (ovr A i p))), (5, .int (nI (enc (chs A i p) 12))), (0, .ref (Q 0)), (1, .ref (Q 1)), (2, .ref (Q 2)), (3, .ref (Q 3)), (4, .int (nI i))] dL_areSampled_163 (by decide) rfl ?_
          refine r_iload dL_areSampled_165 5 rfl ?_
          refine r_iload dL_areSampled_167 1 rfl ?_
          refine r_if_ge 176 dL_areSampled_169 (by decide) (fun c10 => absurd c10 (by decide)) (fun c10 => ?_)
          refine r_iconst (v := (nI 0)) dL_areSampled_172 (by decide) ?_
          refine r_goto 180 dL_areSampled_173 (by decide) ?_
          refine r_ior dL_areSampled_180 ?_
          refine r_top (nI (enc (chs A i (p + 1)) 12)) (enc_chs0 i p hv) ?_
          refine r_istore [(5, .int (nI (enc (chs A i (p + 1)) 12))), (7, .int (nI 1)), (10, .int (-1)), (9, .int (nI p)), (8, .int (b2i (hasC A i (A 17 i)))), (6, .int (b2i (ovr A i p))), (0, .ref (Q 0)), (1, .ref (Q 1)), (2, .ref (Q 2)), (3, .ref (Q 3)), (4, .int (nI i))] dL_areSampled_181 (by decide) rfl ?_
          refine r_iload dL_areSampled_183 2 rfl ?_
          refine r_if_ge 192 dL_areSampled_185 (by decide) (fun c11 => absurd c11 (by decide)) (fun c11 => ?_)
          refine r_iconst (v := (nI 1)) dL_areSampled_188 (by decide) ?_
          refine r_goto 193 dL_areSampled_189 (by decide) ?_
          refine r_top (b2i (ovr A i (p + 1))) (show nI 1 = b2i (decide (smV A i p = -1)) by rw [decide_eq_true hv]; rfl) ?_
          refine r_istore [(6, .int (b2i (ovr A i (p + 1)))), (5, .int (nI (enc (chs A i (p + 1)) 12))), (7, .int (nI 1)), (10, .int (-1)), (9, .int (nI p)), (8, .int (b2i (hasC A i (A 17 i)))), (0, .ref (Q 0)), (1, .ref (Q 1)), (2, .ref (Q 2)), (3, .ref (Q 3)), (4, .int (nI i))] dL_areSampled_193 (by decide) rfl ?_
          refine r_iinc (nI (p + 1)) [(9, .int (nI (p + 1))), (6, .int (b2i (ovr A i (p + 1)))), (5, .int (nI (enc (chs A i (p + 1)) 12))), (7, .int (nI 1)), (10, .int (-1)), (8, .int (b2i (hasC A i (A 17 i)))), (0, .ref (Q 0)), (1, .ref (Q 1)), (2, .ref (Q 2)), (3, .ref (Q 3)), (4, .int (nI i))] dL_areSampled_195 4 rfl (nI_add p 1) (by decide) rfl ?_
          refine r_goto 68 dL_areSampled_198 (by decide) ?_
          exact WP.loc [0, 5, 3, 1, 2, 6, 7, 8, 9, 10] rfl (WP.bud (by omega) (by omega) (ih (p + 1) _ ⟨hL5, by omega⟩ (by omega)))
        · refine r_iload dL_areSampled_129 0 rfl ?_
          refine r_if_lt 138 dL_areSampled_131 (by decide) (fun c12 => ?_) (fun c12 => absurd c12 (by decide))
          refine r_iconst (v := (nI 0)) dL_areSampled_138 (by decide) ?_
          have hp0 : p = 0 := by omega
          have hf := sm_first (A := A) (i := i) h31 (hI.ro i (by omega)).1 (by rw [← hp0]; exact hv)
          refine r_iload dL_areSampled_139 2 rfl ?_
          refine n_bif_eq 154 dL_areSampled_141 (by decide) (fun ch => ?_) (fun ch => ?_)
          · refine r_iconst (v := (nI 0)) dL_areSampled_154 (by decide) ?_
            refine n_icmp_ne 162 dL_areSampled_155 (by decide) (by omega) (by omega) (fun c14 => absurd c14 (by decide)) (fun c14 => ?_)
            refine r_iconst (v := (nI 1)) dL_areSampled_158 (by decide) ?_
            refine r_goto 163 dL_areSampled_159 (by decide) ?_
            refine r_istore [(7, .int (nI 1)), (10, .int (-1)), (9, .int (nI p)), (8, .int (b2i (hasC A i (A 17 i)))), (6, .int (b2i (ovr A i p))), (5, .int (nI (enc (chs A i p) 12))), (0, .ref (Q 0)), (1, .ref (Q 1)), (2, .ref (Q 2)), (3, .ref (Q 3)), (4, .int (nI i))] dL_areSampled_163 (by decide) rfl ?_
            refine r_iload dL_areSampled_165 5 rfl ?_
            refine r_iload dL_areSampled_167 1 rfl ?_
            refine r_if_ge 176 dL_areSampled_169 (by decide) (fun c15 => absurd c15 (by decide)) (fun c15 => ?_)
            refine r_iconst (v := (nI 0)) dL_areSampled_172 (by decide) ?_
            refine r_goto 180 dL_areSampled_173 (by decide) ?_
            refine r_ior dL_areSampled_180 ?_
            refine r_top (nI (enc (chs A i (p + 1)) 12)) (enc_chs0 i p hv) ?_
            refine r_istore [(5, .int (nI (enc (chs A i (p + 1)) 12))), (7, .int (nI 1)), (10, .int (-1)), (9, .int (nI p)), (8, .int (b2i (hasC A i (A 17 i)))), (6, .int (b2i (ovr A i p))), (0, .ref (Q 0)), (1, .ref (Q 1)), (2, .ref (Q 2)), (3, .ref (Q 3)), (4, .int (nI i))] dL_areSampled_181 (by decide) rfl ?_
            refine r_iload dL_areSampled_183 2 rfl ?_
            refine r_if_ge 192 dL_areSampled_185 (by decide) (fun c16 => absurd c16 (by decide)) (fun c16 => ?_)
            refine r_iconst (v := (nI 1)) dL_areSampled_188 (by decide) ?_
            refine r_goto 193 dL_areSampled_189 (by decide) ?_
            refine r_top (b2i (ovr A i (p + 1))) (show nI 1 = b2i (decide (smV A i p = -1)) by rw [decide_eq_true hv]; rfl) ?_
            refine r_istore [(6, .int (b2i (ovr A i (p + 1)))), (5, .int (nI (enc (chs A i (p + 1)) 12))), (7, .int (nI 1)), (10, .int (-1)), (9, .int (nI p)), (8, .int (b2i (hasC A i (A 17 i)))), (0, .ref (Q 0)), (1, .ref (Q 1)), (2, .ref (Q 2)), (3, .ref (Q 3)), (4, .int (nI i))] dL_areSampled_193 (by decide) rfl ?_
            refine r_iinc (nI (p + 1)) [(9, .int (nI (p + 1))), (6, .int (b2i (ovr A i (p + 1)))), (5, .int (nI (enc (chs A i (p + 1)) 12))), (7, .int (nI 1)), (10, .int (-1)), (8, .int (b2i (hasC A i (A 17 i)))), (0, .ref (Q 0)), (1, .ref (Q 1)), (2, .ref (Q 2)), (3, .ref (Q 3)), (4, .int (nI i))] dL_areSampled_195 4 rfl (nI_add p 1) (by decide) rfl ?_
            refine r_goto 68 dL_areSampled_198 (by decide) ?_
            exact WP.loc [0, 5, 3, 1, 2, 6, 7, 8, 9, 10] rfl (WP.bud (by omega) (by omega) (ih (p + 1) _ ⟨hL5, by omega⟩ (by omega)))
          · have h18 : A 18 0 = 0 := by
              rcases hf with hf | hf
              · rw [hf] at ch; cases ch
              · exact hf
            refine r_aload_n dL_areSampled_144 rfl 7 rfl ?_
            refine r_iconst (v := (nI 3)) dL_areSampled_145 (by decide) ?_
            refine n_iald dL_areSampled_146 hL5.r1 (by omega) (by decide) ?_
            refine n_if_le 154 dL_areSampled_147 (by decide) (by omega) (fun c17 => ?_) (fun c17 => absurd c17 (by omega))
            refine r_iconst (v := (nI 0)) dL_areSampled_154 (by decide) ?_
            refine n_icmp_ne 162 dL_areSampled_155 (by decide) (by omega) (by omega) (fun c18 => absurd c18 (by decide)) (fun c18 => ?_)
            refine r_iconst (v := (nI 1)) dL_areSampled_158 (by decide) ?_
            refine r_goto 163 dL_areSampled_159 (by decide) ?_
            refine r_istore [(7, .int (nI 1)), (10, .int (-1)), (9, .int (nI p)), (8, .int (b2i (hasC A i (A 17 i)))), (6, .int (b2i (ovr A i p))), (5, .int (nI (enc (chs A i p) 12))), (0, .ref (Q 0)), (1, .ref (Q 1)), (2, .ref (Q 2)), (3, .ref (Q 3)), (4, .int (nI i))] dL_areSampled_163 (by decide) rfl ?_
            refine r_iload dL_areSampled_165 5 rfl ?_
            refine r_iload dL_areSampled_167 1 rfl ?_
            refine r_if_ge 176 dL_areSampled_169 (by decide) (fun c19 => absurd c19 (by decide)) (fun c19 => ?_)
            refine r_iconst (v := (nI 0)) dL_areSampled_172 (by decide) ?_
            refine r_goto 180 dL_areSampled_173 (by decide) ?_
            refine r_ior dL_areSampled_180 ?_
            refine r_top (nI (enc (chs A i (p + 1)) 12)) (enc_chs0 i p hv) ?_
            refine r_istore [(5, .int (nI (enc (chs A i (p + 1)) 12))), (7, .int (nI 1)), (10, .int (-1)), (9, .int (nI p)), (8, .int (b2i (hasC A i (A 17 i)))), (6, .int (b2i (ovr A i p))), (0, .ref (Q 0)), (1, .ref (Q 1)), (2, .ref (Q 2)), (3, .ref (Q 3)), (4, .int (nI i))] dL_areSampled_181 (by decide) rfl ?_
            refine r_iload dL_areSampled_183 2 rfl ?_
            refine r_if_ge 192 dL_areSampled_185 (by decide) (fun c20 => absurd c20 (by decide)) (fun c20 => ?_)
            refine r_iconst (v := (nI 1)) dL_areSampled_188 (by decide) ?_
            refine r_goto 193 dL_areSampled_189 (by decide) ?_
            refine r_top (b2i (ovr A i (p + 1))) (show nI 1 = b2i (decide (smV A i p = -1)) by rw [decide_eq_true hv]; rfl) ?_
            refine r_istore [(6, .int (b2i (ovr A i (p + 1)))), (5, .int (nI (enc (chs A i (p + 1)) 12))), (7, .int (nI 1)), (10, .int (-1)), (9, .int (nI p)), (8, .int (b2i (hasC A i (A 17 i)))), (0, .ref (Q 0)), (1, .ref (Q 1)), (2, .ref (Q 2)), (3, .ref (Q 3)), (4, .int (nI i))] dL_areSampled_193 (by decide) rfl ?_
            refine r_iinc (nI (p + 1)) [(9, .int (nI (p + 1))), (6, .int (b2i (ovr A i (p + 1)))), (5, .int (nI (enc (chs A i (p + 1)) 12))), (7, .int (nI 1)), (10, .int (-1)), (8, .int (b2i (hasC A i (A 17 i)))), (0, .ref (Q 0)), (1, .ref (Q 1)), (2, .ref (Q 2)), (3, .ref (Q 3)), (4, .int (nI i))] dL_areSampled_195 4 rfl (nI_add p 1) (by decide) rfl ?_
            refine r_goto 68 dL_areSampled_198 (by decide) ?_
            exact WP.loc [0, 5, 3, 1, 2, 6, 7, 8, 9, 10] rfl (WP.bud (by omega) (by omega) (ih (p + 1) _ ⟨hL5, by omega⟩ (by omega)))
      · refine r_top (nI t) hv ?_
        refine r_istore [(10, .int (nI t)), (9, .int (nI p)), (8, .int (b2i (hasC A i (A 17 i)))), (7, .int (nI 1)), (6, .int (b2i (ovr A i p))), (5, .int (nI (enc (chs A i p) 12))), (0, .ref (Q 0)), (1, .ref (Q 1)), (2, .ref (Q 2)), (3, .ref (Q 3)), (4, .int (nI i))] dL_areSampled_88 (by decide) rfl ?_
        refine r_iload dL_areSampled_90 0 rfl ?_
        refine r_iconst (v := (-1)) dL_areSampled_92 (by decide) ?_
        refine r_icmp_lt 162 dL_areSampled_93 (by decide) (fun c21 => absurd c21 (nm_lt (by omega))) (fun c21 => ?_)
        refine r_iload dL_areSampled_96 0 rfl ?_
        refine r_aload_n dL_areSampled_98 rfl 7 rfl ?_
        refine r_iconst (v := (nI 3)) dL_areSampled_99 (by decide) ?_
        refine n_iald dL_areSampled_100 hL5.r1 (by omega) (by decide) ?_
        refine n_icmp_ge 162 dL_areSampled_101 (by decide) (by omega) (by omega) (fun c22 => absurd c22 (by omega)) (fun c22 => ?_)
        refine r_iload dL_areSampled_104 0 rfl ?_
        refine n_if_lt 124 dL_areSampled_106 (by decide) (by omega) (fun c23 => absurd c23 (by omega)) (fun c23 => ?_)
        refine r_iload dL_areSampled_109 4 rfl ?_
        refine n_bif_ne 162 dL_areSampled_111 (by decide) (fun c24 => absurd c24 (by rw [ovr_no h31 ht hv]; decide)) (fun c24 => ?_)
        refine r_iload dL_areSampled_114 5 rfl ?_
        refine r_iload dL_areSampled_116 0 rfl ?_
        refine r_ishr dL_areSampled_118 ?_
        refine r_iconst (v := (nI 1)) dL_areSampled_119 (by decide) ?_
        refine r_iand dL_areSampled_120 ?_
        refine r_top (nI 0) (enc_at (by omega) (chs_no h31 ht hv p (Nat.le_refl _))) ?_
        refine n_if_ne 162 dL_areSampled_121 (by decide) (by omega) (fun c25 => absurd c25 (by decide)) (fun c25 => ?_)
        refine r_iload dL_areSampled_124 1 rfl ?_
        refine n_if_gt 158 dL_areSampled_126 (by decide) (by omega) (fun cp => ?_) (fun cp => ?_)
        · refine r_iconst (v := (nI 1)) dL_areSampled_158 (by decide) ?_
          refine r_goto 163 dL_areSampled_159 (by decide) ?_
          refine r_istore [(7, .int (nI 1)), (10, .int (nI t)), (9, .int (nI p)), (8, .int (b2i (hasC A i (A 17 i)))), (6, .int (b2i (ovr A i p))), (5, .int (nI (enc (chs A i p) 12))), (0, .ref (Q 0)), (1, .ref (Q 1)), (2, .ref (Q 2)), (3, .ref (Q 3)), (4, .int (nI i))] dL_areSampled_163 (by decide) rfl ?_
          refine r_iload dL_areSampled_165 5 rfl ?_
          refine r_iload dL_areSampled_167 1 rfl ?_
          refine n_if_ge 176 dL_areSampled_169 (by decide) (by omega) (fun c27 => ?_) (fun c27 => absurd c27 (by omega))
          refine r_iconst (v := (nI 1)) dL_areSampled_176 (by decide) ?_
          refine r_iload dL_areSampled_177 1 rfl ?_
          refine r_ishl dL_areSampled_179 ?_
          refine r_ior dL_areSampled_180 ?_
          refine r_top (nI (enc (chs A i (p + 1)) 12)) (enc_chs1 i p t (by omega) hv) ?_
          refine r_istore [(5, .int (nI (enc (chs A i (p + 1)) 12))), (7, .int (nI 1)), (10, .int (nI t)), (9, .int (nI p)), (8, .int (b2i (hasC A i (A 17 i)))), (6, .int (b2i (ovr A i p))), (0, .ref (Q 0)), (1, .ref (Q 1)), (2, .ref (Q 2)), (3, .ref (Q 3)), (4, .int (nI i))] dL_areSampled_181 (by decide) rfl ?_
          refine r_iload dL_areSampled_183 2 rfl ?_
          refine n_if_ge 192 dL_areSampled_185 (by decide) (by omega) (fun c28 => ?_) (fun c28 => absurd c28 (by omega))
          refine r_iconst (v := (nI 0)) dL_areSampled_192 (by decide) ?_
          refine r_top (b2i (ovr A i (p + 1))) (show nI 0 = b2i (decide (smV A i p = -1)) by rw [decide_eq_false (by rw [hv]; exact nI_nm (by omega))]; rfl) ?_
          refine r_istore [(6, .int (b2i (ovr A i (p + 1)))), (5, .int (nI (enc (chs A i (p + 1)) 12))), (7, .int (nI 1)), (10, .int (nI t)), (9, .int (nI p)), (8, .int (b2i (hasC A i (A 17 i)))), (0, .ref (Q 0)), (1, .ref (Q 1)), (2, .ref (Q 2)), (3, .ref (Q 3)), (4, .int (nI i))] dL_areSampled_193 (by decide) rfl ?_
          refine r_iinc (nI (p + 1)) [(9, .int (nI (p + 1))), (6, .int (b2i (ovr A i (p + 1)))), (5, .int (nI (enc (chs A i (p + 1)) 12))), (7, .int (nI 1)), (10, .int (nI t)), (8, .int (b2i (hasC A i (A 17 i)))), (0, .ref (Q 0)), (1, .ref (Q 1)), (2, .ref (Q 2)), (3, .ref (Q 3)), (4, .int (nI i))] dL_areSampled_195 4 rfl (nI_add p 1) (by decide) rfl ?_
          refine r_goto 68 dL_areSampled_198 (by decide) ?_
          exact WP.loc [0, 5, 3, 1, 2, 6, 7, 8, 9, 10] rfl (WP.bud (by omega) (by omega) (ih (p + 1) _ ⟨hL5, by omega⟩ (by omega)))
        · refine r_iload dL_areSampled_129 0 rfl ?_
          refine n_if_lt 138 dL_areSampled_131 (by decide) (by omega) (fun c29 => absurd c29 (by omega)) (fun c29 => ?_)
          refine r_iconst (v := (nI 1)) dL_areSampled_134 (by decide) ?_
          refine r_goto 139 dL_areSampled_135 (by decide) ?_
          have hp0 : p = 0 := by omega
          have hf := sm_firstT (A := A) (i := i) h31 ht (by rw [← hp0]; exact hv)
          refine r_iload dL_areSampled_139 2 rfl ?_
          refine n_bif_eq 154 dL_areSampled_141 (by decide) (fun c30 => absurd c30 (by rw [hf]; decide)) (fun c30 => ?_)
          refine r_aload_n dL_areSampled_144 rfl 7 rfl ?_
          refine r_iconst (v := (nI 3)) dL_areSampled_145 (by decide) ?_
          refine n_iald dL_areSampled_146 hL5.r1 (by omega) (by decide) ?_
          refine n_if_le 154 dL_areSampled_147 (by decide) (by omega) (fun c31 => absurd c31 (by omega)) (fun c31 => ?_)
          refine r_iconst (v := (nI 1)) dL_areSampled_150 (by decide) ?_
          refine r_goto 155 dL_areSampled_151 (by decide) ?_
          refine n_icmp_ne 162 dL_areSampled_155 (by decide) (by omega) (by omega) (fun c32 => absurd c32 (by decide)) (fun c32 => ?_)
          refine r_iconst (v := (nI 1)) dL_areSampled_158 (by decide) ?_
          refine r_goto 163 dL_areSampled_159 (by decide) ?_
          refine r_istore [(7, .int (nI 1)), (10, .int (nI t)), (9, .int (nI p)), (8, .int (b2i (hasC A i (A 17 i)))), (6, .int (b2i (ovr A i p))), (5, .int (nI (enc (chs A i p) 12))), (0, .ref (Q 0)), (1, .ref (Q 1)), (2, .ref (Q 2)), (3, .ref (Q 3)), (4, .int (nI i))] dL_areSampled_163 (by decide) rfl ?_
          refine r_iload dL_areSampled_165 5 rfl ?_
          refine r_iload dL_areSampled_167 1 rfl ?_
          refine n_if_ge 176 dL_areSampled_169 (by decide) (by omega) (fun c33 => ?_) (fun c33 => absurd c33 (by omega))
          refine r_iconst (v := (nI 1)) dL_areSampled_176 (by decide) ?_
          refine r_iload dL_areSampled_177 1 rfl ?_
          refine r_ishl dL_areSampled_179 ?_
          refine r_ior dL_areSampled_180 ?_
          refine r_top (nI (enc (chs A i (p + 1)) 12)) (enc_chs1 i p t (by omega) hv) ?_
          refine r_istore [(5, .int (nI (enc (chs A i (p + 1)) 12))), (7, .int (nI 1)), (10, .int (nI t)), (9, .int (nI p)), (8, .int (b2i (hasC A i (A 17 i)))), (6, .int (b2i (ovr A i p))), (0, .ref (Q 0)), (1, .ref (Q 1)), (2, .ref (Q 2)), (3, .ref (Q 3)), (4, .int (nI i))] dL_areSampled_181 (by decide) rfl ?_
          refine r_iload dL_areSampled_183 2 rfl ?_
          refine n_if_ge 192 dL_areSampled_185 (by decide) (by omega) (fun c34 => ?_) (fun c34 => absurd c34 (by omega))
          refine r_iconst (v := (nI 0)) dL_areSampled_192 (by decide) ?_
          refine r_top (b2i (ovr A i (p + 1))) (show nI 0 = b2i (decide (smV A i p = -1)) by rw [decide_eq_false (by rw [hv]; exact nI_nm (by omega))]; rfl) ?_
          refine r_istore [(6, .int (b2i (ovr A i (p + 1)))), (5, .int (nI (enc (chs A i (p + 1)) 12))), (7, .int (nI 1)), (10, .int (nI t)), (9, .int (nI p)), (8, .int (b2i (hasC A i (A 17 i)))), (0, .ref (Q 0)), (1, .ref (Q 1)), (2, .ref (Q 2)), (3, .ref (Q 3)), (4, .int (nI i))] dL_areSampled_193 (by decide) rfl ?_
          refine r_iinc (nI (p + 1)) [(9, .int (nI (p + 1))), (6, .int (b2i (ovr A i (p + 1)))), (5, .int (nI (enc (chs A i (p + 1)) 12))), (7, .int (nI 1)), (10, .int (nI t)), (8, .int (b2i (hasC A i (A 17 i)))), (0, .ref (Q 0)), (1, .ref (Q 1)), (2, .ref (Q 2)), (3, .ref (Q 3)), (4, .int (nI i))] dL_areSampled_195 4 rfl (nI_add p 1) (by decide) rfl ?_
          refine r_goto 68 dL_areSampled_198 (by decide) ?_
          exact WP.loc [0, 5, 3, 1, 2, 6, 7, 8, 9, 10] rfl (WP.bud (by omega) (by omega) (ih (p + 1) _ ⟨hL5, by omega⟩ (by omega)))
set_option maxRecDepth 100000 in
set_option maxHeartbeats 4000000 in
theorem l_smp1 {d b0 : Nat} {Q : Nat → Nat} {A B : ST} {G : GH} (hL : LW Q A B G) (hI : Inv A) (hR : Rl A B) {i : Nat} (hi : i < A 15 0) : ∀ (fu : Nat) (k : Nat), k ≤ A 17 i → A 17 i - k < fu → WP mL_areSampled (d + 9) b0 (fun r G' => r = some (.int (nI 1)) ∧ LW Q A B G') NoX G 180 3600 15 [(9, .int (nI k)), (8, .int (b2i (hasC A i k))), (7, .int (nI 1)), (6, .int (nI 0)), (5, .int (nI 0)), (0, .ref (Q 0)), (1, .ref (Q 1)), (2, .ref (Q 2)), (3, .ref (Q 3)), (4, .int (nI i))] [] := by
  intro fu
  induction fu with
  | zero => intro k hinv hn; exact absurd hn (Nat.not_lt_zero _)
  | succ fu ih =>
    intro k hinv hn
    have hm0 := hR.m0
    have hm1 := hR.m1
    have hm2 := hR.m2
    have hm3 := hR.m3
    have hm4 := hR.m4
    have hn9 := hR.n9
    have hb0 := hI.b0
    have hb2 := hI.b2
    have hb15 := hI.b15
    have hb18 := hI.b18
    have hq1 := hR.l0 (show i < 6 by omega)
    have hq2 := (hI.ro i (by omega)).1
    refine r_iload dL_areSampled_15 0 rfl ?_
    refine r_aload_n dL_areSampled_17 rfl 8 rfl ?_
    refine r_bipush (v := (nI 7)) dL_areSampled_18 (by decide) ?_
    refine r_iload dL_areSampled_20 9 rfl ?_
    refine n_imul dL_areSampled_22 ?_
    refine n_iald dL_areSampled_23 hL.r3 (by omega) (by decide) ?_
    refine n_icmp_ge 65 dL_areSampled_24 (by decide) (by omega) (by omega) (fun ce => ?_) (fun ce => ?_)
    · refine r_iconst (v := (nI 0)) dL_areSampled_65 (by decide) ?_
      refine r_istore [(9, .int (nI 0)), (8, .int (b2i (hasC A i k))), (7, .int (nI 1)), (6, .int (nI 0)), (5, .int (nI 0)), (0, .ref (Q 0)), (1, .ref (Q 1)), (2, .ref (Q 2)), (3, .ref (Q 3)), (4, .int (nI i))] dL_areSampled_66 (by decide) rfl ?_
      have hk9 : k = A 17 i := by omega
      rw [hk9]
      refine WP.loc [0, 1, 2, 3, 4, 5, 6, 7, 8, 9] (lv' := [(9, .int (nI 0)), (8, .int (b2i (hasC A i (A 17 i)))), (7, .int (nI 1)), (6, .int (nI 0)), (5, .int (nI 0)), (0, .ref (Q 0)), (1, .ref (Q 1)), (2, .ref (Q 2)), (3, .ref (Q 3)), (4, .int (nI i))]) rfl ?_
      exact WP.bud (by omega) (by omega) (l_smp2 hI hR hi 10 0 G ⟨hL, by omega⟩ (by omega))
    · have e1 : B 3 (7 * i + 1 + k) = cla A i k := hR.l1 (by omega) (by omega)
      have e2 : cla A i k < A 9 0 := cla_lt hI (by omega) (by omega)
      have e3 : B 2 (7 * B 3 (7 * i + 1 + k)) = A 10 (cla A i k) := by rw [e1]; exact hR.c0 e2
      have e4 := hI.co _ e2
      refine r_iload dL_areSampled_27 1 rfl ?_
      refine n_bif_ne 52 dL_areSampled_29 (by decide) (fun c29 => ?_) (fun c29 => ?_)
      · refine r_iconst (v := (nI 1)) dL_areSampled_52 (by decide) ?_
        refine r_goto 57 dL_areSampled_53 (by decide) ?_
        refine r_top (b2i (hasC A i (k + 1))) (show _ = b2i (hasC A i k || decide (A 10 (cla A i k) ≠ 0)) by rw [c29]; rfl) ?_
        refine r_istore [(8, .int (b2i (hasC A i (k + 1)))), (9, .int (nI k)), (7, .int (nI 1)), (6, .int (nI 0)), (5, .int (nI 0)), (0, .ref (Q 0)), (1, .ref (Q 1)), (2, .ref (Q 2)), (3, .ref (Q 3)), (4, .int (nI i))] dL_areSampled_57 (by decide) rfl ?_
        refine r_iinc (nI (k + 1)) [(9, .int (nI (k + 1))), (8, .int (b2i (hasC A i (k + 1)))), (7, .int (nI 1)), (6, .int (nI 0)), (5, .int (nI 0)), (0, .ref (Q 0)), (1, .ref (Q 1)), (2, .ref (Q 2)), (3, .ref (Q 3)), (4, .int (nI i))] dL_areSampled_59 1 rfl (nI_add k 1) (by decide) rfl ?_
        refine r_goto 15 dL_areSampled_62 (by decide) ?_
        exact WP.loc [0, 1, 2, 3, 4, 5, 6, 7, 8, 9] rfl (ih (k + 1) (by omega) (by omega))
      · refine r_aload_n dL_areSampled_32 rfl 7 rfl ?_
        refine r_bipush (v := (nI 7)) dL_areSampled_33 (by decide) ?_
        refine r_aload_n dL_areSampled_35 rfl 8 rfl ?_
        refine r_bipush (v := (nI 7)) dL_areSampled_36 (by decide) ?_
        refine r_iload dL_areSampled_38 9 rfl ?_
        refine n_imul dL_areSampled_40 ?_
        refine r_iconst (v := (nI 1)) dL_areSampled_41 (by decide) ?_
        refine n_iadd dL_areSampled_42 ?_
        refine r_iload dL_areSampled_43 0 rfl ?_
        refine n_iadd dL_areSampled_45 ?_
        refine n_iald dL_areSampled_46 hL.r3 (by omega) (by decide) ?_
        refine n_imul dL_areSampled_47 ?_
        refine n_iald dL_areSampled_48 hL.r2 (by omega) (by decide) ?_
        refine n_if_le 56 dL_areSampled_49 (by decide) (by omega) (fun c49 => ?_) (fun c49 => ?_)
        · refine r_iconst (v := (nI 0)) dL_areSampled_56 (by decide) ?_
          refine r_top (b2i (hasC A i (k + 1))) (show _ = b2i (hasC A i k || decide (A 10 (cla A i k) ≠ 0)) by rw [c29, decide_eq_false (show ¬ A 10 (cla A i k) ≠ 0 by omega)]; rfl) ?_
          refine r_istore [(8, .int (b2i (hasC A i (k + 1)))), (9, .int (nI k)), (7, .int (nI 1)), (6, .int (nI 0)), (5, .int (nI 0)), (0, .ref (Q 0)), (1, .ref (Q 1)), (2, .ref (Q 2)), (3, .ref (Q 3)), (4, .int (nI i))] dL_areSampled_57 (by decide) rfl ?_
          refine r_iinc (nI (k + 1)) [(9, .int (nI (k + 1))), (8, .int (b2i (hasC A i (k + 1)))), (7, .int (nI 1)), (6, .int (nI 0)), (5, .int (nI 0)), (0, .ref (Q 0)), (1, .ref (Q 1)), (2, .ref (Q 2)), (3, .ref (Q 3)), (4, .int (nI i))] dL_areSampled_59 1 rfl (nI_add k 1) (by decide) rfl ?_
          refine r_goto 15 dL_areSampled_62 (by decide) ?_
          exact WP.loc [0, 1, 2, 3, 4, 5, 6, 7, 8, 9] rfl (ih (k + 1) (by omega) (by omega))
        · refine r_iconst (v := (nI 1)) dL_areSampled_52 (by decide) ?_
          refine r_goto 57 dL_areSampled_53 (by decide) ?_
          refine r_top (b2i (hasC A i (k + 1))) (show _ = b2i (hasC A i k || decide (A 10 (cla A i k) ≠ 0)) by rw [decide_eq_true (show A 10 (cla A i k) ≠ 0 by omega), Bool.or_true]; rfl) ?_
          refine r_istore [(8, .int (b2i (hasC A i (k + 1)))), (9, .int (nI k)), (7, .int (nI 1)), (6, .int (nI 0)), (5, .int (nI 0)), (0, .ref (Q 0)), (1, .ref (Q 1)), (2, .ref (Q 2)), (3, .ref (Q 3)), (4, .int (nI i))] dL_areSampled_57 (by decide) rfl ?_
          refine r_iinc (nI (k + 1)) [(9, .int (nI (k + 1))), (8, .int (b2i (hasC A i (k + 1)))), (7, .int (nI 1)), (6, .int (nI 0)), (5, .int (nI 0)), (0, .ref (Q 0)), (1, .ref (Q 1)), (2, .ref (Q 2)), (3, .ref (Q 3)), (4, .int (nI i))] dL_areSampled_59 1 rfl (nI_add k 1) (by decide) rfl ?_
          refine r_goto 15 dL_areSampled_62 (by decide) ?_
          exact WP.loc [0, 1, 2, 3, 4, 5, 6, 7, 8, 9] rfl (ih (k + 1) (by omega) (by omega))
set_option maxRecDepth 100000 in
set_option maxHeartbeats 4000000 in
theorem l_areSampled {d b0 : Nat} {G : GH} {Q : Nat → Nat} {A B : ST} (hL : LW Q A B G) (hI : Inv A) (hR : Rl A B) {i : Nat} (hi : i < A 15 0) : CT mL_areSampled (d + 9) b0 G [.ref (Q 0), .ref (Q 1), .ref (Q 2), .ref (Q 3), .int (nI i)] 180 3600 (fun r G' => r = some (.int (nI 1)) ∧ LW Q A B G') NoX := by
  refine CT.intro (by decide +kernel) rfl (Nat.le_of_ble_eq_true rfl) ?_
  show WP mL_areSampled _ _ _ _ _ _ _ 0 [(0, .ref (Q 0)), (1, .ref (Q 1)), (2, .ref (Q 2)), (3, .ref (Q 3)), (4, .int (nI i))] []
  refine r_iconst (v := (nI 0)) dL_areSampled_0 (by decide) ?_
  refine r_istore [(5, .int (nI 0)), (0, .ref (Q 0)), (1, .ref (Q 1)), (2, .ref (Q 2)), (3, .ref (Q 3)), (4, .int (nI i))] dL_areSampled_1 (by decide) rfl ?_
  refine r_iconst (v := (nI 0)) dL_areSampled_3 (by decide) ?_
  refine r_istore [(6, .int (nI 0)), (5, .int (nI 0)), (0, .ref (Q 0)), (1, .ref (Q 1)), (2, .ref (Q 2)), (3, .ref (Q 3)), (4, .int (nI i))] dL_areSampled_4 (by decide) rfl ?_
  refine r_iconst (v := (nI 1)) dL_areSampled_6 (by decide) ?_
  refine r_istore [(7, .int (nI 1)), (6, .int (nI 0)), (5, .int (nI 0)), (0, .ref (Q 0)), (1, .ref (Q 1)), (2, .ref (Q 2)), (3, .ref (Q 3)), (4, .int (nI i))] dL_areSampled_7 (by decide) rfl ?_
  refine r_iconst (v := (nI 0)) dL_areSampled_9 (by decide) ?_
  refine r_istore [(8, .int (nI 0)), (7, .int (nI 1)), (6, .int (nI 0)), (5, .int (nI 0)), (0, .ref (Q 0)), (1, .ref (Q 1)), (2, .ref (Q 2)), (3, .ref (Q 3)), (4, .int (nI i))] dL_areSampled_10 (by decide) rfl ?_
  refine r_iconst (v := (nI 0)) dL_areSampled_12 (by decide) ?_
  refine r_istore [(9, .int (nI 0)), (8, .int (nI 0)), (7, .int (nI 1)), (6, .int (nI 0)), (5, .int (nI 0)), (0, .ref (Q 0)), (1, .ref (Q 1)), (2, .ref (Q 2)), (3, .ref (Q 3)), (4, .int (nI i))] dL_areSampled_13 (by decide) rfl ?_
  exact WP.loc [0, 1, 2, 3, 4, 5, 6, 7, 8, 9] rfl (l_smp1 hL hI hR hi (A 17 i + 1) 0 (Nat.zero_le _) (by omega))
