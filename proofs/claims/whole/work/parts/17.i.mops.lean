def rlA (B : ST) (l t c k h n : Nat) : Bool := !(allB (fun o => !(rlP B l t c k h o)) n)
theorem rlA_s {B : ST} {l t c k h n : Nat} : rlA B l t c k h (n + 1) = (rlA B l t c k h n || rlP B l t c k h n) := by
  unfold rlA
  show (!(allB _ n && !(rlP B l t c k h n))) = _
  cases allB (fun o => !(rlP B l t c k h o)) n <;> cases rlP B l t c k h n <;> rfl
theorem hl_26 {B : ST} {v l o : Nat} : hlB (setA B 26 0 v) l o = hlB B l o := by
  unfold hlB
  rw [rg_set_f (by decide), setA_f (by decide)]
theorem me_26 {B : ST} {v t c : Nat} : meB (setA B 26 0 v) t c = meB B t c := by
  unfold meB meI
  rw [setA_f (by decide), setA_f (by decide)]
theorem rlA_26 {B : ST} {v l t c k h n : Nat} : rlA (setA B 26 0 v) l t c k h n = rlA B l t c k h n := by
  unfold rlA rlP isB
  simp only [hl_26, me_26]
  rfl
set_option maxRecDepth 100000 in
set_option maxHeartbeats 4000000 in
theorem lp_X9_isBroken_1 {d b0 : Nat} {G : GH} {A B : ST} {ad : AD} (hW : World A B ad G) (hI : Inv B) {l t c k : Nat} (hl : l < 6) (ht : t < 8) (hc : c < 10) (hk : k < 4) : ∀ (fu : Nat) (o : Nat), o ≤ B 9 0 → B 9 0 - o < fu → WP mX9_isBroken (d + 1) b0 (fun r G' => r = some (.int (b2i (rlB B l t c k 1))) ∧ G' = G) (fun _ _ => False) G 0 0 6 [(7, .int (nI o)), (6, .int (b2i (rlA B l t c k 1 o))), (0, .ref (ad 31 0)), (1, .int (nI l)), (2, .int (nI t)), (3, .int (nI c)), (4, .int (nI k)), (5, .int 1)] [] := by
  intro fu
  induction fu with
  | zero => intro o hinv hn; exact absurd hn (Nat.not_lt_zero _)
  | succ fu ih =>
    intro o hinv hn
    have hb9 := hI.b9
    refine r_iload dX9_isBroken_6 0 rfl ?_
    refine r_aload_n dX9_isBroken_8 rfl 2 rfl ?_
    refine r_get 9 dX9_isBroken_9 fRX9_80 (hW.g 31 0 rfl) rfl ?_
    refine r_icmp_ge 111 dX9_isBroken_12 (by decide) (fun c_1 => ?_) (fun c_1 => ?_)
    · refine r_iload dX9_isBroken_111 1 rfl ?_
      refine r_ret .boolean dX9_isBroken_113 rfl b2i_Z ?_
      have hk2 : o = B 9 0 := by have := ni_le (by omega) (by omega) c_1; omega
      exact ⟨by rw [hk2]; rfl, rfl⟩
    · have ho : o < B 9 0 := ni_nle (by omega) (by omega) c_1
      refine r_aload_n dX9_isBroken_15 rfl 2 rfl ?_
      refine r_iload_n dX9_isBroken_16 rfl 3 rfl ?_
      refine r_iload dX9_isBroken_17 0 rfl ?_
      refine r_callV (st := []) [.int (nI l), .int (nI o)] 0 0 dX9_isBroken_19 kX9_has nX9_has lRX9_138 (hW.g 31 0 rfl) rfl (c_has hW hI (show l < 6 by omega)) rfl rfl (Nat.le_of_ble_eq_true rfl) (Nat.le_refl _) (Nat.le_refl _) (fun _ _ h => h.elim) ?_
      refine cx_det (st2 := [.int (b2i (hlB B l o))]) rfl ?_
      refine r_if_eq 39 dX9_isBroken_22 (by decide) (fun c_2 => ?_) (fun c_2 => ?_)
      · refine r_iconst (v := 0) dX9_isBroken_39 (by decide) ?_
        refine r_istore [(8, .int 0), (7, .int (nI o)), (6, .int (b2i (rlA B l t c k 1 o))), (0, .ref (ad 31 0)), (1, .int (nI l)), (2, .int (nI t)), (3, .int (nI c)), (4, .int (nI k)), (5, .int 1)] dX9_isBroken_40 (by decide) rfl ?_
        refine r_aload_n dX9_isBroken_42 rfl 3 rfl ?_
        refine r_get 14 dX9_isBroken_43 fRX9_45 (hW.g 31 0 rfl) rfl ?_
        refine r_bipush (v := 10) dX9_isBroken_46 (by decide) ?_
        refine r_bipush (v := 10) dX9_isBroken_48 (by decide) ?_
        refine r_iload dX9_isBroken_50 7 rfl ?_
        refine r_imul dX9_isBroken_52 ?_
        refine r_top (nI (10 * k)) (pk_mul 10 k) ?_
        refine r_iload_n dX9_isBroken_53 rfl 6 rfl ?_
        refine r_iadd dX9_isBroken_54 ?_
        refine r_top (nI (10 * k + c)) (nI_add _ _) ?_
        refine r_imul dX9_isBroken_55 ?_
        refine r_top (nI (10 * (10 * k + c))) (pk_mul 10 _) ?_
        refine r_iload dX9_isBroken_56 1 rfl ?_
        refine r_iadd dX9_isBroken_58 ?_
        refine r_top (nI (100 * k + 10 * c + o)) (by rw [nI_add]; exact congrArg nI (by omega)) ?_
        refine r_iald dX9_isBroken_59 (hW.g 32 14 rfl) (vp_in_nI (by omega) (by decide)) ?_
        refine r_top (nI (B 14 (100 * k + 10 * c + o))) (by rw [nI_cl (by omega)]; exact rgm (by omega)) ?_
        refine r_iload dX9_isBroken_60 8 rfl ?_
        refine r_icmp_ne 69 dX9_isBroken_62 (by decide) (fun c_3 => ?_) (fun c_3 => ?_)
        · refine r_iconst (v := 0) dX9_isBroken_69 (by decide) ?_
          refine r_istore [(9, .int 0), (8, .int 0), (7, .int (nI o)), (6, .int (b2i (rlA B l t c k 1 o))), (0, .ref (ad 31 0)), (1, .int (nI l)), (2, .int (nI t)), (3, .int (nI c)), (4, .int (nI k)), (5, .int 1)] dX9_isBroken_70 (by decide) rfl ?_
          refine r_iload dX9_isBroken_72 3 rfl ?_
          refine r_if_ne 98 dX9_isBroken_74 (by decide) (fun c_4 => ?_) (fun c_4 => ?_)
          · refine r_iconst (v := b2i (rlA B l t c k 1 (o + 1))) dX9_isBroken_98 (by rw [rlA_s, b2i_n0 c_4, Bool.true_or] <;> rfl) ?_
            refine r_goto 103 dX9_isBroken_99 (by decide) ?_
            refine r_istore [(6, .int (b2i (rlA B l t c k 1 (o + 1)))), (9, .int 0), (8, .int 0), (7, .int (nI o)), (0, .ref (ad 31 0)), (1, .int (nI l)), (2, .int (nI t)), (3, .int (nI c)), (4, .int (nI k)), (5, .int 1)] dX9_isBroken_103 (by decide) rfl ?_
            refine r_iinc (nI (o + 1)) [(7, .int (nI (o + 1))), (6, .int (b2i (rlA B l t c k 1 (o + 1)))), (9, .int 0), (8, .int 0), (0, .ref (ad 31 0)), (1, .int (nI l)), (2, .int (nI t)), (3, .int (nI c)), (4, .int (nI k)), (5, .int 1)] dX9_isBroken_105 3 rfl (nI_1 o) (by decide) rfl ?_
            refine r_goto 6 dX9_isBroken_108 (by decide) ?_
            exact WP.loc [0, 1, 4, 5, 6, 7, 8, 9] rfl (ih (o + 1) (by omega) (by omega))
          · refine r_iload dX9_isBroken_77 0 rfl ?_
            refine r_if_eq 102 dX9_isBroken_79 (by decide) (fun c_6 => ?_) (fun c_6 => absurd (by decide) c_6)
            have his : isB B l t o = false := by unfold isB; rw [b2i_0 c_2]; rfl
            have hr : rlP B l t c k 1 o = false := by unfold rlP; rw [decide_eq_false (p := nI (B 14 (100 * k + 10 * c + o)) = nI 1) c_3, his]; rfl
            refine r_iconst (v := b2i (rlA B l t c k 1 (o + 1))) dX9_isBroken_102 (by rw [rlA_s, hr, b2i_0 c_4] <;> rfl) ?_
            refine r_istore [(6, .int (b2i (rlA B l t c k 1 (o + 1)))), (9, .int 0), (8, .int 0), (7, .int (nI o)), (0, .ref (ad 31 0)), (1, .int (nI l)), (2, .int (nI t)), (3, .int (nI c)), (4, .int (nI k)), (5, .int 1)] dX9_isBroken_103 (by decide) rfl ?_
            refine r_iinc (nI (o + 1)) [(7, .int (nI (o + 1))), (6, .int (b2i (rlA B l t c k 1 (o + 1)))), (9, .int 0), (8, .int 0), (0, .ref (ad 31 0)), (1, .int (nI l)), (2, .int (nI t)), (3, .int (nI c)), (4, .int (nI k)), (5, .int 1)] dX9_isBroken_105 3 rfl (nI_1 o) (by decide) rfl ?_
            refine r_goto 6 dX9_isBroken_108 (by decide) ?_
            exact WP.loc [0, 1, 4, 5, 6, 7, 8, 9] rfl (ih (o + 1) (by omega) (by omega))
        · refine r_iconst (v := 1) dX9_isBroken_65 (by decide) ?_
          refine r_goto 70 dX9_isBroken_66 (by decide) ?_
          refine r_istore [(9, .int 1), (8, .int 0), (7, .int (nI o)), (6, .int (b2i (rlA B l t c k 1 o))), (0, .ref (ad 31 0)), (1, .int (nI l)), (2, .int (nI t)), (3, .int (nI c)), (4, .int (nI k)), (5, .int 1)] dX9_isBroken_70 (by decide) rfl ?_
          refine r_iload dX9_isBroken_72 3 rfl ?_
          refine r_if_ne 98 dX9_isBroken_74 (by decide) (fun c_8 => ?_) (fun c_8 => ?_)
          · refine r_iconst (v := b2i (rlA B l t c k 1 (o + 1))) dX9_isBroken_98 (by rw [rlA_s, b2i_n0 c_8, Bool.true_or] <;> rfl) ?_
            refine r_goto 103 dX9_isBroken_99 (by decide) ?_
            refine r_istore [(6, .int (b2i (rlA B l t c k 1 (o + 1)))), (9, .int 1), (8, .int 0), (7, .int (nI o)), (0, .ref (ad 31 0)), (1, .int (nI l)), (2, .int (nI t)), (3, .int (nI c)), (4, .int (nI k)), (5, .int 1)] dX9_isBroken_103 (by decide) rfl ?_
            refine r_iinc (nI (o + 1)) [(7, .int (nI (o + 1))), (6, .int (b2i (rlA B l t c k 1 (o + 1)))), (9, .int 1), (8, .int 0), (0, .ref (ad 31 0)), (1, .int (nI l)), (2, .int (nI t)), (3, .int (nI c)), (4, .int (nI k)), (5, .int 1)] dX9_isBroken_105 3 rfl (nI_1 o) (by decide) rfl ?_
            refine r_goto 6 dX9_isBroken_108 (by decide) ?_
            exact WP.loc [0, 1, 4, 5, 6, 7, 8, 9] rfl (ih (o + 1) (by omega) (by omega))
          · refine r_iload dX9_isBroken_77 0 rfl ?_
            refine r_if_eq 102 dX9_isBroken_79 (by decide) (fun c_10 => absurd c_10 (by decide)) (fun c_10 => ?_)
            refine r_iload dX9_isBroken_82 1 rfl ?_
            refine r_iload dX9_isBroken_84 9 rfl ?_
            refine r_iconst (v := 2) dX9_isBroken_86 (by decide) ?_
            refine r_icmp_ne 94 dX9_isBroken_87 (by decide) (fun c_11 => ?_) (fun c_11 => absurd c_11 (by decide))
            refine r_iconst (v := 0) dX9_isBroken_94 (by decide) ?_
            refine r_icmp_ne 102 dX9_isBroken_95 (by decide) (fun c_12 => absurd (by decide) c_12) (fun c_12 => ?_)
            have his : isB B l t o = false := by unfold isB; rw [b2i_0 c_2]; rfl
            have hr : rlP B l t c k 1 o = true := by unfold rlP; rw [decide_eq_true (p := nI (B 14 (100 * k + 10 * c + o)) = nI 1) c_3, his]; rfl
            refine r_iconst (v := b2i (rlA B l t c k 1 (o + 1))) dX9_isBroken_98 (by rw [rlA_s, hr, Bool.or_true] <;> rfl) ?_
            refine r_goto 103 dX9_isBroken_99 (by decide) ?_
            refine r_istore [(6, .int (b2i (rlA B l t c k 1 (o + 1)))), (9, .int 1), (8, .int 0), (7, .int (nI o)), (0, .ref (ad 31 0)), (1, .int (nI l)), (2, .int (nI t)), (3, .int (nI c)), (4, .int (nI k)), (5, .int 1)] dX9_isBroken_103 (by decide) rfl ?_
            refine r_iinc (nI (o + 1)) [(7, .int (nI (o + 1))), (6, .int (b2i (rlA B l t c k 1 (o + 1)))), (9, .int 1), (8, .int 0), (0, .ref (ad 31 0)), (1, .int (nI l)), (2, .int (nI t)), (3, .int (nI c)), (4, .int (nI k)), (5, .int 1)] dX9_isBroken_105 3 rfl (nI_1 o) (by decide) rfl ?_
            refine r_goto 6 dX9_isBroken_108 (by decide) ?_
            exact WP.loc [0, 1, 4, 5, 6, 7, 8, 9] rfl (ih (o + 1) (by omega) (by omega))
      · refine r_aload_n dX9_isBroken_25 rfl 2 rfl ?_
        refine r_iload_n dX9_isBroken_26 rfl 4 rfl ?_
        refine r_iload dX9_isBroken_27 0 rfl ?_
        refine r_callV (st := []) [.int (nI t), .int (nI o)] 0 0 dX9_isBroken_29 kX9_meets nX9_meets lRX9_144 (hW.g 31 0 rfl) rfl (c_mmeets hW (show t < 8 by omega) (show o < 10 by omega)) rfl rfl (Nat.le_of_ble_eq_true rfl) (Nat.le_refl _) (Nat.le_refl _) (fun _ _ h => h.elim) ?_
        refine cx_det (st2 := [.int (b2i (meB B t o))]) rfl ?_
        refine r_if_eq 39 dX9_isBroken_32 (by decide) (fun c_14 => ?_) (fun c_14 => ?_)
        · refine r_iconst (v := 0) dX9_isBroken_39 (by decide) ?_
          refine r_istore [(8, .int 0), (7, .int (nI o)), (6, .int (b2i (rlA B l t c k 1 o))), (0, .ref (ad 31 0)), (1, .int (nI l)), (2, .int (nI t)), (3, .int (nI c)), (4, .int (nI k)), (5, .int 1)] dX9_isBroken_40 (by decide) rfl ?_
          refine r_aload_n dX9_isBroken_42 rfl 3 rfl ?_
          refine r_get 14 dX9_isBroken_43 fRX9_45 (hW.g 31 0 rfl) rfl ?_
          refine r_bipush (v := 10) dX9_isBroken_46 (by decide) ?_
          refine r_bipush (v := 10) dX9_isBroken_48 (by decide) ?_
          refine r_iload dX9_isBroken_50 7 rfl ?_
          refine r_imul dX9_isBroken_52 ?_
          refine r_top (nI (10 * k)) (pk_mul 10 k) ?_
          refine r_iload_n dX9_isBroken_53 rfl 6 rfl ?_
          refine r_iadd dX9_isBroken_54 ?_
          refine r_top (nI (10 * k + c)) (nI_add _ _) ?_
          refine r_imul dX9_isBroken_55 ?_
          refine r_top (nI (10 * (10 * k + c))) (pk_mul 10 _) ?_
          refine r_iload dX9_isBroken_56 1 rfl ?_
          refine r_iadd dX9_isBroken_58 ?_
          refine r_top (nI (100 * k + 10 * c + o)) (by rw [nI_add]; exact congrArg nI (by omega)) ?_
          refine r_iald dX9_isBroken_59 (hW.g 32 14 rfl) (vp_in_nI (by omega) (by decide)) ?_
          refine r_top (nI (B 14 (100 * k + 10 * c + o))) (by rw [nI_cl (by omega)]; exact rgm (by omega)) ?_
          refine r_iload dX9_isBroken_60 8 rfl ?_
          refine r_icmp_ne 69 dX9_isBroken_62 (by decide) (fun c_15 => ?_) (fun c_15 => ?_)
          · refine r_iconst (v := 0) dX9_isBroken_69 (by decide) ?_
            refine r_istore [(9, .int 0), (8, .int 0), (7, .int (nI o)), (6, .int (b2i (rlA B l t c k 1 o))), (0, .ref (ad 31 0)), (1, .int (nI l)), (2, .int (nI t)), (3, .int (nI c)), (4, .int (nI k)), (5, .int 1)] dX9_isBroken_70 (by decide) rfl ?_
            refine r_iload dX9_isBroken_72 3 rfl ?_
            refine r_if_ne 98 dX9_isBroken_74 (by decide) (fun c_16 => ?_) (fun c_16 => ?_)
            · refine r_iconst (v := b2i (rlA B l t c k 1 (o + 1))) dX9_isBroken_98 (by rw [rlA_s, b2i_n0 c_16, Bool.true_or] <;> rfl) ?_
              refine r_goto 103 dX9_isBroken_99 (by decide) ?_
              refine r_istore [(6, .int (b2i (rlA B l t c k 1 (o + 1)))), (9, .int 0), (8, .int 0), (7, .int (nI o)), (0, .ref (ad 31 0)), (1, .int (nI l)), (2, .int (nI t)), (3, .int (nI c)), (4, .int (nI k)), (5, .int 1)] dX9_isBroken_103 (by decide) rfl ?_
              refine r_iinc (nI (o + 1)) [(7, .int (nI (o + 1))), (6, .int (b2i (rlA B l t c k 1 (o + 1)))), (9, .int 0), (8, .int 0), (0, .ref (ad 31 0)), (1, .int (nI l)), (2, .int (nI t)), (3, .int (nI c)), (4, .int (nI k)), (5, .int 1)] dX9_isBroken_105 3 rfl (nI_1 o) (by decide) rfl ?_
              refine r_goto 6 dX9_isBroken_108 (by decide) ?_
              exact WP.loc [0, 1, 4, 5, 6, 7, 8, 9] rfl (ih (o + 1) (by omega) (by omega))
            · refine r_iload dX9_isBroken_77 0 rfl ?_
              refine r_if_eq 102 dX9_isBroken_79 (by decide) (fun c_18 => ?_) (fun c_18 => absurd (by decide) c_18)
              have his : isB B l t o = false := by unfold isB; rw [b2i_0 c_14, Bool.and_false]
              have hr : rlP B l t c k 1 o = false := by unfold rlP; rw [decide_eq_false (p := nI (B 14 (100 * k + 10 * c + o)) = nI 1) c_15, his]; rfl
              refine r_iconst (v := b2i (rlA B l t c k 1 (o + 1))) dX9_isBroken_102 (by rw [rlA_s, hr, b2i_0 c_16] <;> rfl) ?_
              refine r_istore [(6, .int (b2i (rlA B l t c k 1 (o + 1)))), (9, .int 0), (8, .int 0), (7, .int (nI o)), (0, .ref (ad 31 0)), (1, .int (nI l)), (2, .int (nI t)), (3, .int (nI c)), (4, .int (nI k)), (5, .int 1)] dX9_isBroken_103 (by decide) rfl ?_
              refine r_iinc (nI (o + 1)) [(7, .int (nI (o + 1))), (6, .int (b2i (rlA B l t c k 1 (o + 1)))), (9, .int 0), (8, .int 0), (0, .ref (ad 31 0)), (1, .int (nI l)), (2, .int (nI t)), (3, .int (nI c)), (4, .int (nI k)), (5, .int 1)] dX9_isBroken_105 3 rfl (nI_1 o) (by decide) rfl ?_
              refine r_goto 6 dX9_isBroken_108 (by decide) ?_
              exact WP.loc [0, 1, 4, 5, 6, 7, 8, 9] rfl (ih (o + 1) (by omega) (by omega))
          · refine r_iconst (v := 1) dX9_isBroken_65 (by decide) ?_
            refine r_goto 70 dX9_isBroken_66 (by decide) ?_
            refine r_istore [(9, .int 1), (8, .int 0), (7, .int (nI o)), (6, .int (b2i (rlA B l t c k 1 o))), (0, .ref (ad 31 0)), (1, .int (nI l)), (2, .int (nI t)), (3, .int (nI c)), (4, .int (nI k)), (5, .int 1)] dX9_isBroken_70 (by decide) rfl ?_
            refine r_iload dX9_isBroken_72 3 rfl ?_
            refine r_if_ne 98 dX9_isBroken_74 (by decide) (fun c_20 => ?_) (fun c_20 => ?_)
            · refine r_iconst (v := b2i (rlA B l t c k 1 (o + 1))) dX9_isBroken_98 (by rw [rlA_s, b2i_n0 c_20, Bool.true_or] <;> rfl) ?_
              refine r_goto 103 dX9_isBroken_99 (by decide) ?_
              refine r_istore [(6, .int (b2i (rlA B l t c k 1 (o + 1)))), (9, .int 1), (8, .int 0), (7, .int (nI o)), (0, .ref (ad 31 0)), (1, .int (nI l)), (2, .int (nI t)), (3, .int (nI c)), (4, .int (nI k)), (5, .int 1)] dX9_isBroken_103 (by decide) rfl ?_
              refine r_iinc (nI (o + 1)) [(7, .int (nI (o + 1))), (6, .int (b2i (rlA B l t c k 1 (o + 1)))), (9, .int 1), (8, .int 0), (0, .ref (ad 31 0)), (1, .int (nI l)), (2, .int (nI t)), (3, .int (nI c)), (4, .int (nI k)), (5, .int 1)] dX9_isBroken_105 3 rfl (nI_1 o) (by decide) rfl ?_
              refine r_goto 6 dX9_isBroken_108 (by decide) ?_
              exact WP.loc [0, 1, 4, 5, 6, 7, 8, 9] rfl (ih (o + 1) (by omega) (by omega))
            · refine r_iload dX9_isBroken_77 0 rfl ?_
              refine r_if_eq 102 dX9_isBroken_79 (by decide) (fun c_22 => absurd c_22 (by decide)) (fun c_22 => ?_)
              refine r_iload dX9_isBroken_82 1 rfl ?_
              refine r_iload dX9_isBroken_84 9 rfl ?_
              refine r_iconst (v := 2) dX9_isBroken_86 (by decide) ?_
              refine r_icmp_ne 94 dX9_isBroken_87 (by decide) (fun c_23 => ?_) (fun c_23 => absurd c_23 (by decide))
              refine r_iconst (v := 0) dX9_isBroken_94 (by decide) ?_
              refine r_icmp_ne 102 dX9_isBroken_95 (by decide) (fun c_24 => absurd (by decide) c_24) (fun c_24 => ?_)
              have his : isB B l t o = false := by unfold isB; rw [b2i_0 c_14, Bool.and_false]
              have hr : rlP B l t c k 1 o = true := by unfold rlP; rw [decide_eq_true (p := nI (B 14 (100 * k + 10 * c + o)) = nI 1) c_15, his]; rfl
              refine r_iconst (v := b2i (rlA B l t c k 1 (o + 1))) dX9_isBroken_98 (by rw [rlA_s, hr, Bool.or_true] <;> rfl) ?_
              refine r_goto 103 dX9_isBroken_99 (by decide) ?_
              refine r_istore [(6, .int (b2i (rlA B l t c k 1 (o + 1)))), (9, .int 1), (8, .int 0), (7, .int (nI o)), (0, .ref (ad 31 0)), (1, .int (nI l)), (2, .int (nI t)), (3, .int (nI c)), (4, .int (nI k)), (5, .int 1)] dX9_isBroken_103 (by decide) rfl ?_
              refine r_iinc (nI (o + 1)) [(7, .int (nI (o + 1))), (6, .int (b2i (rlA B l t c k 1 (o + 1)))), (9, .int 1), (8, .int 0), (0, .ref (ad 31 0)), (1, .int (nI l)), (2, .int (nI t)), (3, .int (nI c)), (4, .int (nI k)), (5, .int 1)] dX9_isBroken_105 3 rfl (nI_1 o) (by decide) rfl ?_
              refine r_goto 6 dX9_isBroken_108 (by decide) ?_
              exact WP.loc [0, 1, 4, 5, 6, 7, 8, 9] rfl (ih (o + 1) (by omega) (by omega))
        · refine r_iconst (v := 1) dX9_isBroken_35 (by decide) ?_
          refine r_goto 40 dX9_isBroken_36 (by decide) ?_
          refine r_istore [(8, .int 1), (7, .int (nI o)), (6, .int (b2i (rlA B l t c k 1 o))), (0, .ref (ad 31 0)), (1, .int (nI l)), (2, .int (nI t)), (3, .int (nI c)), (4, .int (nI k)), (5, .int 1)] dX9_isBroken_40 (by decide) rfl ?_
          refine r_aload_n dX9_isBroken_42 rfl 3 rfl ?_
          refine r_get 14 dX9_isBroken_43 fRX9_45 (hW.g 31 0 rfl) rfl ?_
          refine r_bipush (v := 10) dX9_isBroken_46 (by decide) ?_
          refine r_bipush (v := 10) dX9_isBroken_48 (by decide) ?_
          refine r_iload dX9_isBroken_50 7 rfl ?_
          refine r_imul dX9_isBroken_52 ?_
          refine r_top (nI (10 * k)) (pk_mul 10 k) ?_
          refine r_iload_n dX9_isBroken_53 rfl 6 rfl ?_
          refine r_iadd dX9_isBroken_54 ?_
          refine r_top (nI (10 * k + c)) (nI_add _ _) ?_
          refine r_imul dX9_isBroken_55 ?_
          refine r_top (nI (10 * (10 * k + c))) (pk_mul 10 _) ?_
          refine r_iload dX9_isBroken_56 1 rfl ?_
          refine r_iadd dX9_isBroken_58 ?_
          refine r_top (nI (100 * k + 10 * c + o)) (by rw [nI_add]; exact congrArg nI (by omega)) ?_
          refine r_iald dX9_isBroken_59 (hW.g 32 14 rfl) (vp_in_nI (by omega) (by decide)) ?_
          refine r_top (nI (B 14 (100 * k + 10 * c + o))) (by rw [nI_cl (by omega)]; exact rgm (by omega)) ?_
          refine r_iload dX9_isBroken_60 8 rfl ?_
          refine r_icmp_ne 69 dX9_isBroken_62 (by decide) (fun c_26 => ?_) (fun c_26 => ?_)
          · refine r_iconst (v := 0) dX9_isBroken_69 (by decide) ?_
            refine r_istore [(9, .int 0), (8, .int 1), (7, .int (nI o)), (6, .int (b2i (rlA B l t c k 1 o))), (0, .ref (ad 31 0)), (1, .int (nI l)), (2, .int (nI t)), (3, .int (nI c)), (4, .int (nI k)), (5, .int 1)] dX9_isBroken_70 (by decide) rfl ?_
            refine r_iload dX9_isBroken_72 3 rfl ?_
            refine r_if_ne 98 dX9_isBroken_74 (by decide) (fun c_27 => ?_) (fun c_27 => ?_)
            · refine r_iconst (v := b2i (rlA B l t c k 1 (o + 1))) dX9_isBroken_98 (by rw [rlA_s, b2i_n0 c_27, Bool.true_or] <;> rfl) ?_
              refine r_goto 103 dX9_isBroken_99 (by decide) ?_
              refine r_istore [(6, .int (b2i (rlA B l t c k 1 (o + 1)))), (9, .int 0), (8, .int 1), (7, .int (nI o)), (0, .ref (ad 31 0)), (1, .int (nI l)), (2, .int (nI t)), (3, .int (nI c)), (4, .int (nI k)), (5, .int 1)] dX9_isBroken_103 (by decide) rfl ?_
              refine r_iinc (nI (o + 1)) [(7, .int (nI (o + 1))), (6, .int (b2i (rlA B l t c k 1 (o + 1)))), (9, .int 0), (8, .int 1), (0, .ref (ad 31 0)), (1, .int (nI l)), (2, .int (nI t)), (3, .int (nI c)), (4, .int (nI k)), (5, .int 1)] dX9_isBroken_105 3 rfl (nI_1 o) (by decide) rfl ?_
              refine r_goto 6 dX9_isBroken_108 (by decide) ?_
              exact WP.loc [0, 1, 4, 5, 6, 7, 8, 9] rfl (ih (o + 1) (by omega) (by omega))
            · refine r_iload dX9_isBroken_77 0 rfl ?_
              refine r_if_eq 102 dX9_isBroken_79 (by decide) (fun c_29 => ?_) (fun c_29 => absurd (by decide) c_29)
              have his : isB B l t o = true := by unfold isB; rw [b2i_n0 c_2, b2i_n0 c_14]; rfl
              have hr : rlP B l t c k 1 o = false := by unfold rlP; rw [decide_eq_false (p := nI (B 14 (100 * k + 10 * c + o)) = nI 1) c_26, his]; rfl
              refine r_iconst (v := b2i (rlA B l t c k 1 (o + 1))) dX9_isBroken_102 (by rw [rlA_s, hr, b2i_0 c_27] <;> rfl) ?_
              refine r_istore [(6, .int (b2i (rlA B l t c k 1 (o + 1)))), (9, .int 0), (8, .int 1), (7, .int (nI o)), (0, .ref (ad 31 0)), (1, .int (nI l)), (2, .int (nI t)), (3, .int (nI c)), (4, .int (nI k)), (5, .int 1)] dX9_isBroken_103 (by decide) rfl ?_
              refine r_iinc (nI (o + 1)) [(7, .int (nI (o + 1))), (6, .int (b2i (rlA B l t c k 1 (o + 1)))), (9, .int 0), (8, .int 1), (0, .ref (ad 31 0)), (1, .int (nI l)), (2, .int (nI t)), (3, .int (nI c)), (4, .int (nI k)), (5, .int 1)] dX9_isBroken_105 3 rfl (nI_1 o) (by decide) rfl ?_
              refine r_goto 6 dX9_isBroken_108 (by decide) ?_
              exact WP.loc [0, 1, 4, 5, 6, 7, 8, 9] rfl (ih (o + 1) (by omega) (by omega))
          · refine r_iconst (v := 1) dX9_isBroken_65 (by decide) ?_
            refine r_goto 70 dX9_isBroken_66 (by decide) ?_
            refine r_istore [(9, .int 1), (8, .int 1), (7, .int (nI o)), (6, .int (b2i (rlA B l t c k 1 o))), (0, .ref (ad 31 0)), (1, .int (nI l)), (2, .int (nI t)), (3, .int (nI c)), (4, .int (nI k)), (5, .int 1)] dX9_isBroken_70 (by decide) rfl ?_
            refine r_iload dX9_isBroken_72 3 rfl ?_
            refine r_if_ne 98 dX9_isBroken_74 (by decide) (fun c_31 => ?_) (fun c_31 => ?_)
            · refine r_iconst (v := b2i (rlA B l t c k 1 (o + 1))) dX9_isBroken_98 (by rw [rlA_s, b2i_n0 c_31, Bool.true_or] <;> rfl) ?_
              refine r_goto 103 dX9_isBroken_99 (by decide) ?_
              refine r_istore [(6, .int (b2i (rlA B l t c k 1 (o + 1)))), (9, .int 1), (8, .int 1), (7, .int (nI o)), (0, .ref (ad 31 0)), (1, .int (nI l)), (2, .int (nI t)), (3, .int (nI c)), (4, .int (nI k)), (5, .int 1)] dX9_isBroken_103 (by decide) rfl ?_
              refine r_iinc (nI (o + 1)) [(7, .int (nI (o + 1))), (6, .int (b2i (rlA B l t c k 1 (o + 1)))), (9, .int 1), (8, .int 1), (0, .ref (ad 31 0)), (1, .int (nI l)), (2, .int (nI t)), (3, .int (nI c)), (4, .int (nI k)), (5, .int 1)] dX9_isBroken_105 3 rfl (nI_1 o) (by decide) rfl ?_
              refine r_goto 6 dX9_isBroken_108 (by decide) ?_
              exact WP.loc [0, 1, 4, 5, 6, 7, 8, 9] rfl (ih (o + 1) (by omega) (by omega))
            · refine r_iload dX9_isBroken_77 0 rfl ?_
              refine r_if_eq 102 dX9_isBroken_79 (by decide) (fun c_33 => absurd c_33 (by decide)) (fun c_33 => ?_)
              refine r_iload dX9_isBroken_82 1 rfl ?_
              refine r_iload dX9_isBroken_84 9 rfl ?_
              refine r_iconst (v := 2) dX9_isBroken_86 (by decide) ?_
              refine r_icmp_ne 94 dX9_isBroken_87 (by decide) (fun c_34 => ?_) (fun c_34 => absurd c_34 (by decide))
              refine r_iconst (v := 0) dX9_isBroken_94 (by decide) ?_
              refine r_icmp_ne 102 dX9_isBroken_95 (by decide) (fun c_35 => ?_) (fun c_35 => absurd c_35 (by decide))
              have his : isB B l t o = true := by unfold isB; rw [b2i_n0 c_2, b2i_n0 c_14]; rfl
              have hr : rlP B l t c k 1 o = false := by unfold rlP; rw [decide_eq_true (p := nI (B 14 (100 * k + 10 * c + o)) = nI 1) c_26, his]; rfl
              refine r_iconst (v := b2i (rlA B l t c k 1 (o + 1))) dX9_isBroken_102 (by rw [rlA_s, hr, b2i_0 c_31] <;> rfl) ?_
              refine r_istore [(6, .int (b2i (rlA B l t c k 1 (o + 1)))), (9, .int 1), (8, .int 1), (7, .int (nI o)), (0, .ref (ad 31 0)), (1, .int (nI l)), (2, .int (nI t)), (3, .int (nI c)), (4, .int (nI k)), (5, .int 1)] dX9_isBroken_103 (by decide) rfl ?_
              refine r_iinc (nI (o + 1)) [(7, .int (nI (o + 1))), (6, .int (b2i (rlA B l t c k 1 (o + 1)))), (9, .int 1), (8, .int 1), (0, .ref (ad 31 0)), (1, .int (nI l)), (2, .int (nI t)), (3, .int (nI c)), (4, .int (nI k)), (5, .int 1)] dX9_isBroken_105 3 rfl (nI_1 o) (by decide) rfl ?_
              refine r_goto 6 dX9_isBroken_108 (by decide) ?_
              exact WP.loc [0, 1, 4, 5, 6, 7, 8, 9] rfl (ih (o + 1) (by omega) (by omega))
set_option maxRecDepth 100000 in
set_option maxHeartbeats 4000000 in
theorem c_broken_1 {d b0 : Nat} {G : GH} {A B : ST} {ad : AD} (hW : World A B ad G) (hI : Inv B) {l t c k : Nat} (hl : l < 6) (ht : t < 8) (hc : c < 10) (hk : k < 4) : CTd mX9_isBroken (d + 1) b0 G [.ref (ad 31 0), .int (nI l), .int (nI t), .int (nI c), .int (nI k), .int 1] 0 0 (some (.int (b2i (rlB B l t c k 1)))) G := by
  refine CT.intro (by decide +kernel) rfl (Nat.le_of_ble_eq_true rfl) ?_
  show WP mX9_isBroken _ _ _ _ _ 0 0 0 [(0, .ref (ad 31 0)), (1, .int (nI l)), (2, .int (nI t)), (3, .int (nI c)), (4, .int (nI k)), (5, .int 1)] []
  refine r_iconst (v := b2i (rlA B l t c k 1 0)) dX9_isBroken_0 rfl ?_
  refine r_istore [(6, .int (b2i (rlA B l t c k 1 0))), (0, .ref (ad 31 0)), (1, .int (nI l)), (2, .int (nI t)), (3, .int (nI c)), (4, .int (nI k)), (5, .int 1)] dX9_isBroken_1 (by decide) rfl ?_
  refine r_iconst (v := nI 0) dX9_isBroken_3 (by decide) ?_
  refine r_istore [(7, .int (nI 0)), (6, .int (b2i (rlA B l t c k 1 0))), (0, .ref (ad 31 0)), (1, .int (nI l)), (2, .int (nI t)), (3, .int (nI c)), (4, .int (nI k)), (5, .int 1)] dX9_isBroken_4 (by decide) rfl ?_
  exact lp_X9_isBroken_1 hW hI hl ht hc hk _ 0 (Nat.zero_le _) (Nat.lt_succ_self _)
set_option maxRecDepth 100000 in
set_option maxHeartbeats 4000000 in
theorem lp_X9_isBroken_2 {d b0 : Nat} {G : GH} {A B : ST} {ad : AD} (hW : World A B ad G) (hI : Inv B) {l t c k : Nat} (hl : l < 6) (ht : t < 8) (hc : c < 10) (hk : k < 4) : ∀ (fu : Nat) (o : Nat), o ≤ B 9 0 → B 9 0 - o < fu → WP mX9_isBroken (d + 1) b0 (fun r G' => r = some (.int (b2i (rlB B l t c k 2))) ∧ G' = G) (fun _ _ => False) G 0 0 6 [(7, .int (nI o)), (6, .int (b2i (rlA B l t c k 2 o))), (0, .ref (ad 31 0)), (1, .int (nI l)), (2, .int (nI t)), (3, .int (nI c)), (4, .int (nI k)), (5, .int 2)] [] := by
  intro fu
  induction fu with
  | zero => intro o hinv hn; exact absurd hn (Nat.not_lt_zero _)
  | succ fu ih =>
    intro o hinv hn
    have hb9 := hI.b9
    refine r_iload dX9_isBroken_6 0 rfl ?_
    refine r_aload_n dX9_isBroken_8 rfl 2 rfl ?_
    refine r_get 9 dX9_isBroken_9 fRX9_80 (hW.g 31 0 rfl) rfl ?_
    refine r_icmp_ge 111 dX9_isBroken_12 (by decide) (fun c_1 => ?_) (fun c_1 => ?_)
    · refine r_iload dX9_isBroken_111 1 rfl ?_
      refine r_ret .boolean dX9_isBroken_113 rfl b2i_Z ?_
      have hk2 : o = B 9 0 := by have := ni_le (by omega) (by omega) c_1; omega
      exact ⟨by rw [hk2]; rfl, rfl⟩
    · have ho : o < B 9 0 := ni_nle (by omega) (by omega) c_1
      refine r_aload_n dX9_isBroken_15 rfl 2 rfl ?_
      refine r_iload_n dX9_isBroken_16 rfl 3 rfl ?_
      refine r_iload dX9_isBroken_17 0 rfl ?_
      refine r_callV (st := []) [.int (nI l), .int (nI o)] 0 0 dX9_isBroken_19 kX9_has nX9_has lRX9_138 (hW.g 31 0 rfl) rfl (c_has hW hI (show l < 6 by omega)) rfl rfl (Nat.le_of_ble_eq_true rfl) (Nat.le_refl _) (Nat.le_refl _) (fun _ _ h => h.elim) ?_
      refine cx_det (st2 := [.int (b2i (hlB B l o))]) rfl ?_
      refine r_if_eq 39 dX9_isBroken_22 (by decide) (fun c_2 => ?_) (fun c_2 => ?_)
      · refine r_iconst (v := 0) dX9_isBroken_39 (by decide) ?_
        refine r_istore [(8, .int 0), (7, .int (nI o)), (6, .int (b2i (rlA B l t c k 2 o))), (0, .ref (ad 31 0)), (1, .int (nI l)), (2, .int (nI t)), (3, .int (nI c)), (4, .int (nI k)), (5, .int 2)] dX9_isBroken_40 (by decide) rfl ?_
        refine r_aload_n dX9_isBroken_42 rfl 3 rfl ?_
        refine r_get 14 dX9_isBroken_43 fRX9_45 (hW.g 31 0 rfl) rfl ?_
        refine r_bipush (v := 10) dX9_isBroken_46 (by decide) ?_
        refine r_bipush (v := 10) dX9_isBroken_48 (by decide) ?_
        refine r_iload dX9_isBroken_50 7 rfl ?_
        refine r_imul dX9_isBroken_52 ?_
        refine r_top (nI (10 * k)) (pk_mul 10 k) ?_
        refine r_iload_n dX9_isBroken_53 rfl 6 rfl ?_
        refine r_iadd dX9_isBroken_54 ?_
        refine r_top (nI (10 * k + c)) (nI_add _ _) ?_
        refine r_imul dX9_isBroken_55 ?_
        refine r_top (nI (10 * (10 * k + c))) (pk_mul 10 _) ?_
        refine r_iload dX9_isBroken_56 1 rfl ?_
        refine r_iadd dX9_isBroken_58 ?_
        refine r_top (nI (100 * k + 10 * c + o)) (by rw [nI_add]; exact congrArg nI (by omega)) ?_
        refine r_iald dX9_isBroken_59 (hW.g 32 14 rfl) (vp_in_nI (by omega) (by decide)) ?_
        refine r_top (nI (B 14 (100 * k + 10 * c + o))) (by rw [nI_cl (by omega)]; exact rgm (by omega)) ?_
        refine r_iload dX9_isBroken_60 8 rfl ?_
        refine r_icmp_ne 69 dX9_isBroken_62 (by decide) (fun c_3 => ?_) (fun c_3 => ?_)
        · refine r_iconst (v := 0) dX9_isBroken_69 (by decide) ?_
          refine r_istore [(9, .int 0), (8, .int 0), (7, .int (nI o)), (6, .int (b2i (rlA B l t c k 2 o))), (0, .ref (ad 31 0)), (1, .int (nI l)), (2, .int (nI t)), (3, .int (nI c)), (4, .int (nI k)), (5, .int 2)] dX9_isBroken_70 (by decide) rfl ?_
          refine r_iload dX9_isBroken_72 3 rfl ?_
          refine r_if_ne 98 dX9_isBroken_74 (by decide) (fun c_4 => ?_) (fun c_4 => ?_)
          · refine r_iconst (v := b2i (rlA B l t c k 2 (o + 1))) dX9_isBroken_98 (by rw [rlA_s, b2i_n0 c_4, Bool.true_or] <;> rfl) ?_
            refine r_goto 103 dX9_isBroken_99 (by decide) ?_
            refine r_istore [(6, .int (b2i (rlA B l t c k 2 (o + 1)))), (9, .int 0), (8, .int 0), (7, .int (nI o)), (0, .ref (ad 31 0)), (1, .int (nI l)), (2, .int (nI t)), (3, .int (nI c)), (4, .int (nI k)), (5, .int 2)] dX9_isBroken_103 (by decide) rfl ?_
            refine r_iinc (nI (o + 1)) [(7, .int (nI (o + 1))), (6, .int (b2i (rlA B l t c k 2 (o + 1)))), (9, .int 0), (8, .int 0), (0, .ref (ad 31 0)), (1, .int (nI l)), (2, .int (nI t)), (3, .int (nI c)), (4, .int (nI k)), (5, .int 2)] dX9_isBroken_105 3 rfl (nI_1 o) (by decide) rfl ?_
            refine r_goto 6 dX9_isBroken_108 (by decide) ?_
            exact WP.loc [0, 1, 4, 5, 6, 7, 8, 9] rfl (ih (o + 1) (by omega) (by omega))
          · refine r_iload dX9_isBroken_77 0 rfl ?_
            refine r_if_eq 102 dX9_isBroken_79 (by decide) (fun c_6 => ?_) (fun c_6 => absurd (by decide) c_6)
            have his : isB B l t o = false := by unfold isB; rw [b2i_0 c_2]; rfl
            have hr : rlP B l t c k 2 o = false := by unfold rlP; rw [decide_eq_false (p := nI (B 14 (100 * k + 10 * c + o)) = nI 2) c_3, his]; rfl
            refine r_iconst (v := b2i (rlA B l t c k 2 (o + 1))) dX9_isBroken_102 (by rw [rlA_s, hr, b2i_0 c_4] <;> rfl) ?_
            refine r_istore [(6, .int (b2i (rlA B l t c k 2 (o + 1)))), (9, .int 0), (8, .int 0), (7, .int (nI o)), (0, .ref (ad 31 0)), (1, .int (nI l)), (2, .int (nI t)), (3, .int (nI c)), (4, .int (nI k)), (5, .int 2)] dX9_isBroken_103 (by decide) rfl ?_
            refine r_iinc (nI (o + 1)) [(7, .int (nI (o + 1))), (6, .int (b2i (rlA B l t c k 2 (o + 1)))), (9, .int 0), (8, .int 0), (0, .ref (ad 31 0)), (1, .int (nI l)), (2, .int (nI t)), (3, .int (nI c)), (4, .int (nI k)), (5, .int 2)] dX9_isBroken_105 3 rfl (nI_1 o) (by decide) rfl ?_
            refine r_goto 6 dX9_isBroken_108 (by decide) ?_
            exact WP.loc [0, 1, 4, 5, 6, 7, 8, 9] rfl (ih (o + 1) (by omega) (by omega))
        · refine r_iconst (v := 1) dX9_isBroken_65 (by decide) ?_
          refine r_goto 70 dX9_isBroken_66 (by decide) ?_
          refine r_istore [(9, .int 1), (8, .int 0), (7, .int (nI o)), (6, .int (b2i (rlA B l t c k 2 o))), (0, .ref (ad 31 0)), (1, .int (nI l)), (2, .int (nI t)), (3, .int (nI c)), (4, .int (nI k)), (5, .int 2)] dX9_isBroken_70 (by decide) rfl ?_
          refine r_iload dX9_isBroken_72 3 rfl ?_
          refine r_if_ne 98 dX9_isBroken_74 (by decide) (fun c_8 => ?_) (fun c_8 => ?_)
          · refine r_iconst (v := b2i (rlA B l t c k 2 (o + 1))) dX9_isBroken_98 (by rw [rlA_s, b2i_n0 c_8, Bool.true_or] <;> rfl) ?_
            refine r_goto 103 dX9_isBroken_99 (by decide) ?_
            refine r_istore [(6, .int (b2i (rlA B l t c k 2 (o + 1)))), (9, .int 1), (8, .int 0), (7, .int (nI o)), (0, .ref (ad 31 0)), (1, .int (nI l)), (2, .int (nI t)), (3, .int (nI c)), (4, .int (nI k)), (5, .int 2)] dX9_isBroken_103 (by decide) rfl ?_
            refine r_iinc (nI (o + 1)) [(7, .int (nI (o + 1))), (6, .int (b2i (rlA B l t c k 2 (o + 1)))), (9, .int 1), (8, .int 0), (0, .ref (ad 31 0)), (1, .int (nI l)), (2, .int (nI t)), (3, .int (nI c)), (4, .int (nI k)), (5, .int 2)] dX9_isBroken_105 3 rfl (nI_1 o) (by decide) rfl ?_
            refine r_goto 6 dX9_isBroken_108 (by decide) ?_
            exact WP.loc [0, 1, 4, 5, 6, 7, 8, 9] rfl (ih (o + 1) (by omega) (by omega))
          · refine r_iload dX9_isBroken_77 0 rfl ?_
            refine r_if_eq 102 dX9_isBroken_79 (by decide) (fun c_10 => absurd c_10 (by decide)) (fun c_10 => ?_)
            refine r_iload dX9_isBroken_82 1 rfl ?_
            refine r_iload dX9_isBroken_84 9 rfl ?_
            refine r_iconst (v := 2) dX9_isBroken_86 (by decide) ?_
            refine r_icmp_ne 94 dX9_isBroken_87 (by decide) (fun c_11 => absurd (by decide) c_11) (fun c_11 => ?_)
            refine r_iconst (v := 1) dX9_isBroken_90 (by decide) ?_
            refine r_goto 95 dX9_isBroken_91 (by decide) ?_
            refine r_icmp_ne 102 dX9_isBroken_95 (by decide) (fun c_12 => ?_) (fun c_12 => absurd c_12 (by decide))
            have his : isB B l t o = false := by unfold isB; rw [b2i_0 c_2]; rfl
            have hr : rlP B l t c k 2 o = false := by unfold rlP; rw [decide_eq_true (p := nI (B 14 (100 * k + 10 * c + o)) = nI 2) c_3, his]; rfl
            refine r_iconst (v := b2i (rlA B l t c k 2 (o + 1))) dX9_isBroken_102 (by rw [rlA_s, hr, b2i_0 c_8] <;> rfl) ?_
            refine r_istore [(6, .int (b2i (rlA B l t c k 2 (o + 1)))), (9, .int 1), (8, .int 0), (7, .int (nI o)), (0, .ref (ad 31 0)), (1, .int (nI l)), (2, .int (nI t)), (3, .int (nI c)), (4, .int (nI k)), (5, .int 2)] dX9_isBroken_103 (by decide) rfl ?_
            refine r_iinc (nI (o + 1)) [(7, .int (nI (o + 1))), (6, .int (b2i (rlA B l t c k 2 (o + 1)))), (9, .int 1), (8, .int 0), (0, .ref (ad 31 0)), (1, .int (nI l)), (2, .int (nI t)), (3, .int (nI c)), (4, .int (nI k)), (5, .int 2)] dX9_isBroken_105 3 rfl (nI_1 o) (by decide) rfl ?_
            refine r_goto 6 dX9_isBroken_108 (by decide) ?_
            exact WP.loc [0, 1, 4, 5, 6, 7, 8, 9] rfl (ih (o + 1) (by omega) (by omega))
      · refine r_aload_n dX9_isBroken_25 rfl 2 rfl ?_
        refine r_iload_n dX9_isBroken_26 rfl 4 rfl ?_
        refine r_iload dX9_isBroken_27 0 rfl ?_
        refine r_callV (st := []) [.int (nI t), .int (nI o)] 0 0 dX9_isBroken_29 kX9_meets nX9_meets lRX9_144 (hW.g 31 0 rfl) rfl (c_mmeets hW (show t < 8 by omega) (show o < 10 by omega)) rfl rfl (Nat.le_of_ble_eq_true rfl) (Nat.le_refl _) (Nat.le_refl _) (fun _ _ h => h.elim) ?_
        refine cx_det (st2 := [.int (b2i (meB B t o))]) rfl ?_
        refine r_if_eq 39 dX9_isBroken_32 (by decide) (fun c_14 => ?_) (fun c_14 => ?_)
        · refine r_iconst (v := 0) dX9_isBroken_39 (by decide) ?_
          refine r_istore [(8, .int 0), (7, .int (nI o)), (6, .int (b2i (rlA B l t c k 2 o))), (0, .ref (ad 31 0)), (1, .int (nI l)), (2, .int (nI t)), (3, .int (nI c)), (4, .int (nI k)), (5, .int 2)] dX9_isBroken_40 (by decide) rfl ?_
          refine r_aload_n dX9_isBroken_42 rfl 3 rfl ?_
          refine r_get 14 dX9_isBroken_43 fRX9_45 (hW.g 31 0 rfl) rfl ?_
          refine r_bipush (v := 10) dX9_isBroken_46 (by decide) ?_
          refine r_bipush (v := 10) dX9_isBroken_48 (by decide) ?_
          refine r_iload dX9_isBroken_50 7 rfl ?_
          refine r_imul dX9_isBroken_52 ?_
          refine r_top (nI (10 * k)) (pk_mul 10 k) ?_
          refine r_iload_n dX9_isBroken_53 rfl 6 rfl ?_
          refine r_iadd dX9_isBroken_54 ?_
          refine r_top (nI (10 * k + c)) (nI_add _ _) ?_
          refine r_imul dX9_isBroken_55 ?_
          refine r_top (nI (10 * (10 * k + c))) (pk_mul 10 _) ?_
          refine r_iload dX9_isBroken_56 1 rfl ?_
          refine r_iadd dX9_isBroken_58 ?_
          refine r_top (nI (100 * k + 10 * c + o)) (by rw [nI_add]; exact congrArg nI (by omega)) ?_
          refine r_iald dX9_isBroken_59 (hW.g 32 14 rfl) (vp_in_nI (by omega) (by decide)) ?_
          refine r_top (nI (B 14 (100 * k + 10 * c + o))) (by rw [nI_cl (by omega)]; exact rgm (by omega)) ?_
          refine r_iload dX9_isBroken_60 8 rfl ?_
          refine r_icmp_ne 69 dX9_isBroken_62 (by decide) (fun c_15 => ?_) (fun c_15 => ?_)
          · refine r_iconst (v := 0) dX9_isBroken_69 (by decide) ?_
            refine r_istore [(9, .int 0), (8, .int 0), (7, .int (nI o)), (6, .int (b2i (rlA B l t c k 2 o))), (0, .ref (ad 31 0)), (1, .int (nI l)), (2, .int (nI t)), (3, .int (nI c)), (4, .int (nI k)), (5, .int 2)] dX9_isBroken_70 (by decide) rfl ?_
            refine r_iload dX9_isBroken_72 3 rfl ?_
            refine r_if_ne 98 dX9_isBroken_74 (by decide) (fun c_16 => ?_) (fun c_16 => ?_)
            · refine r_iconst (v := b2i (rlA B l t c k 2 (o + 1))) dX9_isBroken_98 (by rw [rlA_s, b2i_n0 c_16, Bool.true_or] <;> rfl) ?_
              refine r_goto 103 dX9_isBroken_99 (by decide) ?_
              refine r_istore [(6, .int (b2i (rlA B l t c k 2 (o + 1)))), (9, .int 0), (8, .int 0), (7, .int (nI o)), (0, .ref (ad 31 0)), (1, .int (nI l)), (2, .int (nI t)), (3, .int (nI c)), (4, .int (nI k)), (5, .int 2)] dX9_isBroken_103 (by decide) rfl ?_
              refine r_iinc (nI (o + 1)) [(7, .int (nI (o + 1))), (6, .int (b2i (rlA B l t c k 2 (o + 1)))), (9, .int 0), (8, .int 0), (0, .ref (ad 31 0)), (1, .int (nI l)), (2, .int (nI t)), (3, .int (nI c)), (4, .int (nI k)), (5, .int 2)] dX9_isBroken_105 3 rfl (nI_1 o) (by decide) rfl ?_
              refine r_goto 6 dX9_isBroken_108 (by decide) ?_
              exact WP.loc [0, 1, 4, 5, 6, 7, 8, 9] rfl (ih (o + 1) (by omega) (by omega))
            · refine r_iload dX9_isBroken_77 0 rfl ?_
              refine r_if_eq 102 dX9_isBroken_79 (by decide) (fun c_18 => ?_) (fun c_18 => absurd (by decide) c_18)
              have his : isB B l t o = false := by unfold isB; rw [b2i_0 c_14, Bool.and_false]
              have hr : rlP B l t c k 2 o = false := by unfold rlP; rw [decide_eq_false (p := nI (B 14 (100 * k + 10 * c + o)) = nI 2) c_15, his]; rfl
              refine r_iconst (v := b2i (rlA B l t c k 2 (o + 1))) dX9_isBroken_102 (by rw [rlA_s, hr, b2i_0 c_16] <;> rfl) ?_
              refine r_istore [(6, .int (b2i (rlA B l t c k 2 (o + 1)))), (9, .int 0), (8, .int 0), (7, .int (nI o)), (0, .ref (ad 31 0)), (1, .int (nI l)), (2, .int (nI t)), (3, .int (nI c)), (4, .int (nI k)), (5, .int 2)] dX9_isBroken_103 (by decide) rfl ?_
              refine r_iinc (nI (o + 1)) [(7, .int (nI (o + 1))), (6, .int (b2i (rlA B l t c k 2 (o + 1)))), (9, .int 0), (8, .int 0), (0, .ref (ad 31 0)), (1, .int (nI l)), (2, .int (nI t)), (3, .int (nI c)), (4, .int (nI k)), (5, .int 2)] dX9_isBroken_105 3 rfl (nI_1 o) (by decide) rfl ?_
              refine r_goto 6 dX9_isBroken_108 (by decide) ?_
              exact WP.loc [0, 1, 4, 5, 6, 7, 8, 9] rfl (ih (o + 1) (by omega) (by omega))
          · refine r_iconst (v := 1) dX9_isBroken_65 (by decide) ?_
            refine r_goto 70 dX9_isBroken_66 (by decide) ?_
            refine r_istore [(9, .int 1), (8, .int 0), (7, .int (nI o)), (6, .int (b2i (rlA B l t c k 2 o))), (0, .ref (ad 31 0)), (1, .int (nI l)), (2, .int (nI t)), (3, .int (nI c)), (4, .int (nI k)), (5, .int 2)] dX9_isBroken_70 (by decide) rfl ?_
            refine r_iload dX9_isBroken_72 3 rfl ?_
            refine r_if_ne 98 dX9_isBroken_74 (by decide) (fun c_20 => ?_) (fun c_20 => ?_)
            · refine r_iconst (v := b2i (rlA B l t c k 2 (o + 1))) dX9_isBroken_98 (by rw [rlA_s, b2i_n0 c_20, Bool.true_or] <;> rfl) ?_
              refine r_goto 103 dX9_isBroken_99 (by decide) ?_
              refine r_istore [(6, .int (b2i (rlA B l t c k 2 (o + 1)))), (9, .int 1), (8, .int 0), (7, .int (nI o)), (0, .ref (ad 31 0)), (1, .int (nI l)), (2, .int (nI t)), (3, .int (nI c)), (4, .int (nI k)), (5, .int 2)] dX9_isBroken_103 (by decide) rfl ?_
              refine r_iinc (nI (o + 1)) [(7, .int (nI (o + 1))), (6, .int (b2i (rlA B l t c k 2 (o + 1)))), (9, .int 1), (8, .int 0), (0, .ref (ad 31 0)), (1, .int (nI l)), (2, .int (nI t)), (3, .int (nI c)), (4, .int (nI k)), (5, .int 2)] dX9_isBroken_105 3 rfl (nI_1 o) (by decide) rfl ?_
              refine r_goto 6 dX9_isBroken_108 (by decide) ?_
              exact WP.loc [0, 1, 4, 5, 6, 7, 8, 9] rfl (ih (o + 1) (by omega) (by omega))
            · refine r_iload dX9_isBroken_77 0 rfl ?_
              refine r_if_eq 102 dX9_isBroken_79 (by decide) (fun c_22 => absurd c_22 (by decide)) (fun c_22 => ?_)
              refine r_iload dX9_isBroken_82 1 rfl ?_
              refine r_iload dX9_isBroken_84 9 rfl ?_
              refine r_iconst (v := 2) dX9_isBroken_86 (by decide) ?_
              refine r_icmp_ne 94 dX9_isBroken_87 (by decide) (fun c_23 => absurd (by decide) c_23) (fun c_23 => ?_)
              refine r_iconst (v := 1) dX9_isBroken_90 (by decide) ?_
              refine r_goto 95 dX9_isBroken_91 (by decide) ?_
              refine r_icmp_ne 102 dX9_isBroken_95 (by decide) (fun c_24 => ?_) (fun c_24 => absurd c_24 (by decide))
              have his : isB B l t o = false := by unfold isB; rw [b2i_0 c_14, Bool.and_false]
              have hr : rlP B l t c k 2 o = false := by unfold rlP; rw [decide_eq_true (p := nI (B 14 (100 * k + 10 * c + o)) = nI 2) c_15, his]; rfl
              refine r_iconst (v := b2i (rlA B l t c k 2 (o + 1))) dX9_isBroken_102 (by rw [rlA_s, hr, b2i_0 c_20] <;> rfl) ?_
              refine r_istore [(6, .int (b2i (rlA B l t c k 2 (o + 1)))), (9, .int 1), (8, .int 0), (7, .int (nI o)), (0, .ref (ad 31 0)), (1, .int (nI l)), (2, .int (nI t)), (3, .int (nI c)), (4, .int (nI k)), (5, .int 2)] dX9_isBroken_103 (by decide) rfl ?_
              refine r_iinc (nI (o + 1)) [(7, .int (nI (o + 1))), (6, .int (b2i (rlA B l t c k 2 (o + 1)))), (9, .int 1), (8, .int 0), (0, .ref (ad 31 0)), (1, .int (nI l)), (2, .int (nI t)), (3, .int (nI c)), (4, .int (nI k)), (5, .int 2)] dX9_isBroken_105 3 rfl (nI_1 o) (by decide) rfl ?_
              refine r_goto 6 dX9_isBroken_108 (by decide) ?_
              exact WP.loc [0, 1, 4, 5, 6, 7, 8, 9] rfl (ih (o + 1) (by omega) (by omega))
        · refine r_iconst (v := 1) dX9_isBroken_35 (by decide) ?_
          refine r_goto 40 dX9_isBroken_36 (by decide) ?_
          refine r_istore [(8, .int 1), (7, .int (nI o)), (6, .int (b2i (rlA B l t c k 2 o))), (0, .ref (ad 31 0)), (1, .int (nI l)), (2, .int (nI t)), (3, .int (nI c)), (4, .int (nI k)), (5, .int 2)] dX9_isBroken_40 (by decide) rfl ?_
          refine r_aload_n dX9_isBroken_42 rfl 3 rfl ?_
          refine r_get 14 dX9_isBroken_43 fRX9_45 (hW.g 31 0 rfl) rfl ?_
          refine r_bipush (v := 10) dX9_isBroken_46 (by decide) ?_
          refine r_bipush (v := 10) dX9_isBroken_48 (by decide) ?_
          refine r_iload dX9_isBroken_50 7 rfl ?_
          refine r_imul dX9_isBroken_52 ?_
          refine r_top (nI (10 * k)) (pk_mul 10 k) ?_
          refine r_iload_n dX9_isBroken_53 rfl 6 rfl ?_
          refine r_iadd dX9_isBroken_54 ?_
          refine r_top (nI (10 * k + c)) (nI_add _ _) ?_
          refine r_imul dX9_isBroken_55 ?_
          refine r_top (nI (10 * (10 * k + c))) (pk_mul 10 _) ?_
          refine r_iload dX9_isBroken_56 1 rfl ?_
          refine r_iadd dX9_isBroken_58 ?_
          refine r_top (nI (100 * k + 10 * c + o)) (by rw [nI_add]; exact congrArg nI (by omega)) ?_
          refine r_iald dX9_isBroken_59 (hW.g 32 14 rfl) (vp_in_nI (by omega) (by decide)) ?_
          refine r_top (nI (B 14 (100 * k + 10 * c + o))) (by rw [nI_cl (by omega)]; exact rgm (by omega)) ?_
          refine r_iload dX9_isBroken_60 8 rfl ?_
          refine r_icmp_ne 69 dX9_isBroken_62 (by decide) (fun c_26 => ?_) (fun c_26 => ?_)
          · refine r_iconst (v := 0) dX9_isBroken_69 (by decide) ?_
            refine r_istore [(9, .int 0), (8, .int 1), (7, .int (nI o)), (6, .int (b2i (rlA B l t c k 2 o))), (0, .ref (ad 31 0)), (1, .int (nI l)), (2, .int (nI t)), (3, .int (nI c)), (4, .int (nI k)), (5, .int 2)] dX9_isBroken_70 (by decide) rfl ?_
            refine r_iload dX9_isBroken_72 3 rfl ?_
            refine r_if_ne 98 dX9_isBroken_74 (by decide) (fun c_27 => ?_) (fun c_27 => ?_)
            · refine r_iconst (v := b2i (rlA B l t c k 2 (o + 1))) dX9_isBroken_98 (by rw [rlA_s, b2i_n0 c_27, Bool.true_or] <;> rfl) ?_
              refine r_goto 103 dX9_isBroken_99 (by decide) ?_
              refine r_istore [(6, .int (b2i (rlA B l t c k 2 (o + 1)))), (9, .int 0), (8, .int 1), (7, .int (nI o)), (0, .ref (ad 31 0)), (1, .int (nI l)), (2, .int (nI t)), (3, .int (nI c)), (4, .int (nI k)), (5, .int 2)] dX9_isBroken_103 (by decide) rfl ?_
              refine r_iinc (nI (o + 1)) [(7, .int (nI (o + 1))), (6, .int (b2i (rlA B l t c k 2 (o + 1)))), (9, .int 0), (8, .int 1), (0, .ref (ad 31 0)), (1, .int (nI l)), (2, .int (nI t)), (3, .int (nI c)), (4, .int (nI k)), (5, .int 2)] dX9_isBroken_105 3 rfl (nI_1 o) (by decide) rfl ?_
              refine r_goto 6 dX9_isBroken_108 (by decide) ?_
              exact WP.loc [0, 1, 4, 5, 6, 7, 8, 9] rfl (ih (o + 1) (by omega) (by omega))
            · refine r_iload dX9_isBroken_77 0 rfl ?_
              refine r_if_eq 102 dX9_isBroken_79 (by decide) (fun c_29 => ?_) (fun c_29 => absurd (by decide) c_29)
              have his : isB B l t o = true := by unfold isB; rw [b2i_n0 c_2, b2i_n0 c_14]; rfl
              have hr : rlP B l t c k 2 o = false := by unfold rlP; rw [decide_eq_false (p := nI (B 14 (100 * k + 10 * c + o)) = nI 2) c_26, his]; rfl
              refine r_iconst (v := b2i (rlA B l t c k 2 (o + 1))) dX9_isBroken_102 (by rw [rlA_s, hr, b2i_0 c_27] <;> rfl) ?_
              refine r_istore [(6, .int (b2i (rlA B l t c k 2 (o + 1)))), (9, .int 0), (8, .int 1), (7, .int (nI o)), (0, .ref (ad 31 0)), (1, .int (nI l)), (2, .int (nI t)), (3, .int (nI c)), (4, .int (nI k)), (5, .int 2)] dX9_isBroken_103 (by decide) rfl ?_
              refine r_iinc (nI (o + 1)) [(7, .int (nI (o + 1))), (6, .int (b2i (rlA B l t c k 2 (o + 1)))), (9, .int 0), (8, .int 1), (0, .ref (ad 31 0)), (1, .int (nI l)), (2, .int (nI t)), (3, .int (nI c)), (4, .int (nI k)), (5, .int 2)] dX9_isBroken_105 3 rfl (nI_1 o) (by decide) rfl ?_
              refine r_goto 6 dX9_isBroken_108 (by decide) ?_
              exact WP.loc [0, 1, 4, 5, 6, 7, 8, 9] rfl (ih (o + 1) (by omega) (by omega))
          · refine r_iconst (v := 1) dX9_isBroken_65 (by decide) ?_
            refine r_goto 70 dX9_isBroken_66 (by decide) ?_
            refine r_istore [(9, .int 1), (8, .int 1), (7, .int (nI o)), (6, .int (b2i (rlA B l t c k 2 o))), (0, .ref (ad 31 0)), (1, .int (nI l)), (2, .int (nI t)), (3, .int (nI c)), (4, .int (nI k)), (5, .int 2)] dX9_isBroken_70 (by decide) rfl ?_
            refine r_iload dX9_isBroken_72 3 rfl ?_
            refine r_if_ne 98 dX9_isBroken_74 (by decide) (fun c_31 => ?_) (fun c_31 => ?_)
            · refine r_iconst (v := b2i (rlA B l t c k 2 (o + 1))) dX9_isBroken_98 (by rw [rlA_s, b2i_n0 c_31, Bool.true_or] <;> rfl) ?_
              refine r_goto 103 dX9_isBroken_99 (by decide) ?_
              refine r_istore [(6, .int (b2i (rlA B l t c k 2 (o + 1)))), (9, .int 1), (8, .int 1), (7, .int (nI o)), (0, .ref (ad 31 0)), (1, .int (nI l)), (2, .int (nI t)), (3, .int (nI c)), (4, .int (nI k)), (5, .int 2)] dX9_isBroken_103 (by decide) rfl ?_
              refine r_iinc (nI (o + 1)) [(7, .int (nI (o + 1))), (6, .int (b2i (rlA B l t c k 2 (o + 1)))), (9, .int 1), (8, .int 1), (0, .ref (ad 31 0)), (1, .int (nI l)), (2, .int (nI t)), (3, .int (nI c)), (4, .int (nI k)), (5, .int 2)] dX9_isBroken_105 3 rfl (nI_1 o) (by decide) rfl ?_
              refine r_goto 6 dX9_isBroken_108 (by decide) ?_
              exact WP.loc [0, 1, 4, 5, 6, 7, 8, 9] rfl (ih (o + 1) (by omega) (by omega))
            · refine r_iload dX9_isBroken_77 0 rfl ?_
              refine r_if_eq 102 dX9_isBroken_79 (by decide) (fun c_33 => absurd c_33 (by decide)) (fun c_33 => ?_)
              refine r_iload dX9_isBroken_82 1 rfl ?_
              refine r_iload dX9_isBroken_84 9 rfl ?_
              refine r_iconst (v := 2) dX9_isBroken_86 (by decide) ?_
              refine r_icmp_ne 94 dX9_isBroken_87 (by decide) (fun c_34 => absurd (by decide) c_34) (fun c_34 => ?_)
              refine r_iconst (v := 1) dX9_isBroken_90 (by decide) ?_
              refine r_goto 95 dX9_isBroken_91 (by decide) ?_
              refine r_icmp_ne 102 dX9_isBroken_95 (by decide) (fun c_35 => absurd (by decide) c_35) (fun c_35 => ?_)
              have his : isB B l t o = true := by unfold isB; rw [b2i_n0 c_2, b2i_n0 c_14]; rfl
              have hr : rlP B l t c k 2 o = true := by unfold rlP; rw [decide_eq_true (p := nI (B 14 (100 * k + 10 * c + o)) = nI 2) c_26, his]; rfl
              refine r_iconst (v := b2i (rlA B l t c k 2 (o + 1))) dX9_isBroken_98 (by rw [rlA_s, hr, Bool.or_true] <;> rfl) ?_
              refine r_goto 103 dX9_isBroken_99 (by decide) ?_
              refine r_istore [(6, .int (b2i (rlA B l t c k 2 (o + 1)))), (9, .int 1), (8, .int 1), (7, .int (nI o)), (0, .ref (ad 31 0)), (1, .int (nI l)), (2, .int (nI t)), (3, .int (nI c)), (4, .int (nI k)), (5, .int 2)] dX9_isBroken_103 (by decide) rfl ?_
              refine r_iinc (nI (o + 1)) [(7, .int (nI (o + 1))), (6, .int (b2i (rlA B l t c k 2 (o + 1)))), (9, .int 1), (8, .int 1), (0, .ref (ad 31 0)), (1, .int (nI l)), (2, .int (nI t)), (3, .int (nI c)), (4, .int (nI k)), (5, .int 2)] dX9_isBroken_105 3 rfl (nI_1 o) (by decide) rfl ?_
              refine r_goto 6 dX9_isBroken_108 (by decide) ?_
              exact WP.loc [0, 1, 4, 5, 6, 7, 8, 9] rfl (ih (o + 1) (by omega) (by omega))
set_option maxRecDepth 100000 in
set_option maxHeartbeats 4000000 in
theorem c_broken_2 {d b0 : Nat} {G : GH} {A B : ST} {ad : AD} (hW : World A B ad G) (hI : Inv B) {l t c k : Nat} (hl : l < 6) (ht : t < 8) (hc : c < 10) (hk : k < 4) : CTd mX9_isBroken (d + 1) b0 G [.ref (ad 31 0), .int (nI l), .int (nI t), .int (nI c), .int (nI k), .int 2] 0 0 (some (.int (b2i (rlB B l t c k 2)))) G := by
  refine CT.intro (by decide +kernel) rfl (Nat.le_of_ble_eq_true rfl) ?_
  show WP mX9_isBroken _ _ _ _ _ 0 0 0 [(0, .ref (ad 31 0)), (1, .int (nI l)), (2, .int (nI t)), (3, .int (nI c)), (4, .int (nI k)), (5, .int 2)] []
  refine r_iconst (v := b2i (rlA B l t c k 2 0)) dX9_isBroken_0 rfl ?_
  refine r_istore [(6, .int (b2i (rlA B l t c k 2 0))), (0, .ref (ad 31 0)), (1, .int (nI l)), (2, .int (nI t)), (3, .int (nI c)), (4, .int (nI k)), (5, .int 2)] dX9_isBroken_1 (by decide) rfl ?_
  refine r_iconst (v := nI 0) dX9_isBroken_3 (by decide) ?_
  refine r_istore [(7, .int (nI 0)), (6, .int (b2i (rlA B l t c k 2 0))), (0, .ref (ad 31 0)), (1, .int (nI l)), (2, .int (nI t)), (3, .int (nI c)), (4, .int (nI k)), (5, .int 2)] dX9_isBroken_4 (by decide) rfl ?_
  exact lp_X9_isBroken_2 hW hI hl ht hc hk _ 0 (Nat.zero_le _) (Nat.lt_succ_self _)
set_option maxRecDepth 100000 in
set_option maxHeartbeats 4000000 in
theorem lp_X9_faultOf {d b0 : Nat} {G : GH} {A B : ST} {ad : AD} (hW : World A (setA B 26 0 0) ad G) (hI : Inv B) {l t g k : Nat} (hl : l < B 15 0) (ht : t < B 18 0) (hg : g < 3) (hk : k < 4) : ∀ (fu : Nat) (p : Nat), p ≤ B 17 l ∧ fof B l t g k (B 17 l - p) = fof B l t g k (B 17 l) → B 17 l - p < fu → WP mX9_faultOf (d + 4) b0 (MPo (nI (fof B l t g k (B 17 l))) 0 B A ad) (fun _ _ => False) G 0 0 66 [(6, .int (nI p)), (5, .int 1), (0, .ref (ad 31 0)), (1, .int (nI l)), (2, .int (nI t)), (3, .int (nI g)), (4, .int (nI k))] [] := by
  intro fu
  induction fu with
  | zero => intro p hinv hn; exact absurd hn (Nat.not_lt_zero _)
  | succ fu ih =>
    intro p hinv hn
    have hb9 := hI.b9
    have hb15 := hI.b15
    have hb18 := hI.b18
    have h17 := (hI.ro l (by omega)).1
    refine r_iload dX9_faultOf_66 0 rfl ?_
    refine r_aload_n dX9_faultOf_68 rfl 2 rfl ?_
    refine r_get 17 dX9_faultOf_69 fRX9_51 (hW.g 31 0 rfl) rfl ?_
    refine r_iload_n dX9_faultOf_72 rfl 3 rfl ?_
    refine r_iald dX9_faultOf_73 (hW.g 32 17 rfl) (vp_in_nI (by omega) (by decide)) ?_
    refine r_top (nI (B 17 l)) (by rw [nI_cl (by omega)]; exact rgm (by omega)) ?_
    refine r_icmp_ge 200 dX9_faultOf_74 (by decide) (fun c_1 => ?_) (fun c_1 => ?_)
    · refine r_iconst (v := 0) dX9_faultOf_200 (by decide) ?_
      refine r_ireti dX9_faultOf_201 rfl ?_
      have hp : p = B 17 l := by have := ni_le (by omega) (by omega) c_1; omega
      exact ⟨by rw [← hinv.2, hp, Nat.sub_self]; rfl, (setA B 26 0 0), hW, rfl, (s26 (fun f _ => rfl))⟩
    · have hp : p < B 17 l := ni_nle (by omega) (by omega) c_1
      have hcl : cla B l p < B 9 0 := ((hI.ro l (by omega)).2 p hp).1
      have hT : 3 * cla B l p + g < 30 := by omega
      have htx := hI.tx (3 * cla B l p + g) hT
      have es : fof B l t g k (B 17 l - p) = (if fap B l t g k p = 0 then fof B l t g k (B 17 l - (p + 1)) else 10 * p + fap B l t g k p) := by
        have e9 : B 17 l - p = (B 17 l - (p + 1)) + 1 := by omega
        rw [e9]
        show (if fap B l t g k (B 17 l - (B 17 l - (p + 1) + 1)) = 0 then fof B l t g k (B 17 l - (p + 1)) else 10 * (B 17 l - (B 17 l - (p + 1) + 1)) + fap B l t g k (B 17 l - (B 17 l - (p + 1) + 1))) = _
        rw [show B 17 l - (B 17 l - (p + 1) + 1) = p by omega]
      refine r_aload_n dX9_faultOf_77 rfl 2 rfl ?_
      refine r_get 16 dX9_faultOf_78 fRX9_48 (hW.g 31 0 rfl) rfl ?_
      refine r_bipush (v := 6) dX9_faultOf_81 (by decide) ?_
      refine r_iload_n dX9_faultOf_83 rfl 3 rfl ?_
      refine r_imul dX9_faultOf_84 ?_
      refine r_top (nI (6 * l)) (pk_mul 6 l) ?_
      refine r_iload dX9_faultOf_85 0 rfl ?_
      refine r_iadd dX9_faultOf_87 ?_
      refine r_top (nI (6 * l + p)) (nI_add _ _) ?_
      refine r_iald dX9_faultOf_88 (hW.g 32 16 rfl) (vp_in_nI (by omega) (by decide)) ?_
      refine r_top (nI (B 16 (6 * l + p))) (by rw [nI_cl (by omega)]; exact rgm (by omega)) ?_
      refine r_top (nI (cla B l p)) rfl ?_
      refine r_istore [(7, .int (nI (cla B l p))), (6, .int (nI p)), (5, .int 1), (0, .ref (ad 31 0)), (1, .int (nI l)), (2, .int (nI t)), (3, .int (nI g)), (4, .int (nI k))] dX9_faultOf_89 (by decide) rfl ?_
      refine r_iload dX9_faultOf_91 0 rfl ?_
      refine r_iload_n dX9_faultOf_93 rfl 6 rfl ?_
      refine r_callS (st := []) [.int (nI (cla B l p)), .int (nI g)] 0 0 dX9_faultOf_94 kX9_at nX9_at lRX9_128 (c_mat (cla B l p) g) rfl rfl (Nat.le_of_ble_eq_true rfl) (Nat.le_refl _) (Nat.le_refl _) (fun _ _ h => h.elim) ?_
      refine cx_det (st2 := [.int (nI (3 * (cla B l p) + g))]) rfl ?_
      refine r_istore [(8, .int (nI (3 * (cla B l p) + g))), (7, .int (nI (cla B l p))), (6, .int (nI p)), (5, .int 1), (0, .ref (ad 31 0)), (1, .int (nI l)), (2, .int (nI t)), (3, .int (nI g)), (4, .int (nI k))] dX9_faultOf_97 (by decide) rfl ?_
      refine r_aload_n dX9_faultOf_99 rfl 4 rfl ?_
      refine r_iload_n dX9_faultOf_100 rfl 6 rfl ?_
      refine r_iload dX9_faultOf_101 1 rfl ?_
      have hme := c_mmeets (d := d + 3) (b0 := b0) hW (t := t) (c := cla B l p) (by omega) (by omega)
      rw [me_26] at hme
      refine r_callV (st := []) [.int (nI t), .int (nI (cla B l p))] 0 0 dX9_faultOf_103 kX9_meets nX9_meets lRX9_144 (hW.g 31 0 rfl) rfl hme rfl rfl (Nat.le_of_ble_eq_true rfl) (Nat.le_refl _) (Nat.le_refl _) (fun _ _ h => h.elim) ?_
      refine cx_det (st2 := [.int (b2i (meB B t (cla B l p)))]) rfl ?_
      refine r_if_ne 113 dX9_faultOf_106 (by decide) (fun c_4 => ?_) (fun c_4 => ?_)
      · refine r_aload_n dX9_faultOf_113 rfl 4 rfl ?_
        refine r_get 12 dX9_faultOf_114 fRX9_38 (hW.g 31 0 rfl) rfl ?_
        refine r_iload dX9_faultOf_117 0 rfl ?_
        refine r_iald dX9_faultOf_119 (hW.g 32 12 rfl) (vp_in_nI (by omega) (by decide)) ?_
        refine r_top (nI (B 12 (3 * (cla B l p) + g))) (by rw [nI_cl (by omega)]; exact rgm (by omega)) ?_
        refine r_if_ne 127 dX9_faultOf_120 (by decide) (fun c_5 => ?_) (fun c_5 => ?_)
        · refine r_aload_n dX9_faultOf_127 rfl 4 rfl ?_
          refine r_get 13 dX9_faultOf_128 fRX9_41 (hW.g 31 0 rfl) rfl ?_
          refine r_iload dX9_faultOf_131 0 rfl ?_
          refine r_zald dX9_faultOf_133 (hW.g 32 13 rfl) (vp_in_nI (by omega) (by decide)) ?_
          refine r_top (nI (B 13 (3 * (cla B l p) + g))) (by rw [nI_cl (by omega)]; exact rgm (by omega)) ?_
          refine r_if_ne 141 dX9_faultOf_134 (by decide) (fun c_6 => ?_) (fun c_6 => ?_)
          · refine r_aload_n dX9_faultOf_141 rfl 4 rfl ?_
            refine r_iload_n dX9_faultOf_142 rfl 5 rfl ?_
            refine r_iload_n dX9_faultOf_143 rfl 6 rfl ?_
            refine r_iload dX9_faultOf_144 1 rfl ?_
            refine r_iload dX9_faultOf_146 8 rfl ?_
            refine r_iconst (v := 1) dX9_faultOf_148 (by decide) ?_
            have hbr1 := c_broken_1 (d := d + 2) (b0 := b0) hW (Inv.congr (fun f hf => fld26 (by omega)) hI) (l := l) (t := t) (c := cla B l p) (k := k) (by omega) (by omega) (by omega) hk
            rw [show rlB (setA B 26 0 0) l t (cla B l p) k 1 = rlB B l t (cla B l p) k 1 from rlA_26] at hbr1
            refine r_callV (st := []) [.int (nI l), .int (nI t), .int (nI (cla B l p)), .int (nI k), .int 1] 0 0 dX9_faultOf_149 kX9_isBroken nX9_isBroken lRX9_147 (hW.g 31 0 rfl) rfl hbr1 rfl rfl (Nat.le_of_ble_eq_true rfl) (Nat.le_refl _) (Nat.le_refl _) (fun _ _ h => h.elim) ?_
            refine cx_det (st2 := [.int (b2i (rlB B l t (cla B l p) k 1))]) rfl ?_
            refine r_if_eq 159 dX9_faultOf_152 (by decide) (fun c_7 => ?_) (fun c_7 => ?_)
            · refine r_aload_n dX9_faultOf_159 rfl 4 rfl ?_
              refine r_iload_n dX9_faultOf_160 rfl 5 rfl ?_
              refine r_iload_n dX9_faultOf_161 rfl 6 rfl ?_
              refine r_iload dX9_faultOf_162 1 rfl ?_
              refine r_iload dX9_faultOf_164 8 rfl ?_
              refine r_iconst (v := 2) dX9_faultOf_166 (by decide) ?_
              have hbr2 := c_broken_2 (d := d + 2) (b0 := b0) hW (Inv.congr (fun f hf => fld26 (by omega)) hI) (l := l) (t := t) (c := cla B l p) (k := k) (by omega) (by omega) (by omega) hk
              rw [show rlB (setA B 26 0 0) l t (cla B l p) k 2 = rlB B l t (cla B l p) k 2 from rlA_26] at hbr2
              refine r_callV (st := []) [.int (nI l), .int (nI t), .int (nI (cla B l p)), .int (nI k), .int 2] 0 0 dX9_faultOf_167 kX9_isBroken nX9_isBroken lRX9_147 (hW.g 31 0 rfl) rfl hbr2 rfl rfl (Nat.le_of_ble_eq_true rfl) (Nat.le_refl _) (Nat.le_refl _) (fun _ _ h => h.elim) ?_
              refine cx_det (st2 := [.int (b2i (rlB B l t (cla B l p) k 2))]) rfl ?_
              refine r_if_eq 177 dX9_faultOf_170 (by decide) (fun c_8 => ?_) (fun c_8 => ?_)
              · refine r_iconst (v := 0) dX9_faultOf_177 (by decide) ?_
                have hf : fap B l t g k p = 0 := by
                  have x1 : ¬ B 12 (3 * cla B l p + g) = 0 := ni_ne (b := 0) (by omega) (by decide) c_5
                  have x2 : ¬ B 13 (3 * cla B l p + g) = 0 := ni_ne (b := 0) (by omega) (by decide) c_6
                  unfold fap
                  rw [b2i_n0 c_4, if_pos rfl]
                  unfold fau
                  rw [if_neg x1, if_neg x2, b2i_0 c_7, if_neg (by decide), b2i_0 c_8, if_neg (by decide)]
                refine r_istore [(9, .int 0), (8, .int (nI (3 * (cla B l p) + g))), (7, .int (nI (cla B l p))), (6, .int (nI p)), (5, .int 1), (0, .ref (ad 31 0)), (1, .int (nI l)), (2, .int (nI t)), (3, .int (nI g)), (4, .int (nI k))] dX9_faultOf_178 (by decide) rfl ?_
                refine r_iload dX9_faultOf_180 0 rfl ?_
                refine r_if_le 194 dX9_faultOf_182 (by decide) (fun c_9 => ?_) (fun c_9 => absurd (by decide) c_9)
                refine r_iinc (nI (p + 1)) [(6, .int (nI (p + 1))), (9, .int 0), (8, .int (nI (3 * (cla B l p) + g))), (7, .int (nI (cla B l p))), (5, .int 1), (0, .ref (ad 31 0)), (1, .int (nI l)), (2, .int (nI t)), (3, .int (nI g)), (4, .int (nI k))] dX9_faultOf_194 3 rfl (nI_1 p) (by decide) rfl ?_
                refine r_goto 66 dX9_faultOf_197 (by decide) ?_
                exact WP.loc [0, 4, 5, 6, 7, 8, 9] rfl (ih (p + 1) ⟨by omega, by rw [← hinv.2, es, hf, if_pos rfl]⟩ (by omega))
              · refine r_iconst (v := 4) dX9_faultOf_173 (by decide) ?_
                refine r_goto 178 dX9_faultOf_174 (by decide) ?_
                have hf : fap B l t g k p = 4 := by
                  have x1 : ¬ B 12 (3 * cla B l p + g) = 0 := ni_ne (b := 0) (by omega) (by decide) c_5
                  have x2 : ¬ B 13 (3 * cla B l p + g) = 0 := ni_ne (b := 0) (by omega) (by decide) c_6
                  unfold fap
                  rw [b2i_n0 c_4, if_pos rfl]
                  unfold fau
                  rw [if_neg x1, if_neg x2, b2i_0 c_7, if_neg (by decide), b2i_n0 c_8, if_pos rfl]
                refine r_istore [(9, .int 4), (8, .int (nI (3 * (cla B l p) + g))), (7, .int (nI (cla B l p))), (6, .int (nI p)), (5, .int 1), (0, .ref (ad 31 0)), (1, .int (nI l)), (2, .int (nI t)), (3, .int (nI g)), (4, .int (nI k))] dX9_faultOf_178 (by decide) rfl ?_
                refine r_iload dX9_faultOf_180 0 rfl ?_
                refine r_if_le 194 dX9_faultOf_182 (by decide) (fun c_10 => absurd c_10 (by decide)) (fun c_10 => ?_)
                refine r_bipush (v := 10) dX9_faultOf_185 (by decide) ?_
                refine r_iload dX9_faultOf_187 3 rfl ?_
                refine r_imul dX9_faultOf_189 ?_
                refine r_top (nI (10 * p)) (pk_mul 10 p) ?_
                refine r_iload dX9_faultOf_190 0 rfl ?_
                refine r_iadd dX9_faultOf_192 ?_
                refine r_top (nI (10 * p + 4)) (nI_add (10 * p) 4) ?_
                refine r_ireti dX9_faultOf_193 rfl ?_
                exact ⟨by rw [← hinv.2, es, hf, if_neg (by decide)], (setA B 26 0 0), hW, rfl, (s26 (fun f _ => rfl))⟩
            · refine r_iconst (v := 3) dX9_faultOf_155 (by decide) ?_
              refine r_goto 178 dX9_faultOf_156 (by decide) ?_
              have hf : fap B l t g k p = 3 := by
                have x1 : ¬ B 12 (3 * cla B l p + g) = 0 := ni_ne (b := 0) (by omega) (by decide) c_5
                have x2 : ¬ B 13 (3 * cla B l p + g) = 0 := ni_ne (b := 0) (by omega) (by decide) c_6
                unfold fap
                rw [b2i_n0 c_4, if_pos rfl]
                unfold fau
                rw [if_neg x1, if_neg x2, b2i_n0 c_7, if_pos rfl]
              refine r_istore [(9, .int 3), (8, .int (nI (3 * (cla B l p) + g))), (7, .int (nI (cla B l p))), (6, .int (nI p)), (5, .int 1), (0, .ref (ad 31 0)), (1, .int (nI l)), (2, .int (nI t)), (3, .int (nI g)), (4, .int (nI k))] dX9_faultOf_178 (by decide) rfl ?_
              refine r_iload dX9_faultOf_180 0 rfl ?_
              refine r_if_le 194 dX9_faultOf_182 (by decide) (fun c_11 => absurd c_11 (by decide)) (fun c_11 => ?_)
              refine r_bipush (v := 10) dX9_faultOf_185 (by decide) ?_
              refine r_iload dX9_faultOf_187 3 rfl ?_
              refine r_imul dX9_faultOf_189 ?_
              refine r_top (nI (10 * p)) (pk_mul 10 p) ?_
              refine r_iload dX9_faultOf_190 0 rfl ?_
              refine r_iadd dX9_faultOf_192 ?_
              refine r_top (nI (10 * p + 3)) (nI_add (10 * p) 3) ?_
              refine r_ireti dX9_faultOf_193 rfl ?_
              exact ⟨by rw [← hinv.2, es, hf, if_neg (by decide)], (setA B 26 0 0), hW, rfl, (s26 (fun f _ => rfl))⟩
          · refine r_iconst (v := 2) dX9_faultOf_137 (by decide) ?_
            refine r_goto 178 dX9_faultOf_138 (by decide) ?_
            have hf : fap B l t g k p = 2 := by
              have x1 : ¬ B 12 (3 * cla B l p + g) = 0 := ni_ne (b := 0) (by omega) (by decide) c_5
              have x2 : B 13 (3 * cla B l p + g) = 0 := ni_eq (b := 0) (by omega) (by decide) c_6
              unfold fap
              rw [b2i_n0 c_4, if_pos rfl]
              unfold fau
              rw [if_neg x1, if_pos x2]
            refine r_istore [(9, .int 2), (8, .int (nI (3 * (cla B l p) + g))), (7, .int (nI (cla B l p))), (6, .int (nI p)), (5, .int 1), (0, .ref (ad 31 0)), (1, .int (nI l)), (2, .int (nI t)), (3, .int (nI g)), (4, .int (nI k))] dX9_faultOf_178 (by decide) rfl ?_
            refine r_iload dX9_faultOf_180 0 rfl ?_
            refine r_if_le 194 dX9_faultOf_182 (by decide) (fun c_12 => absurd c_12 (by decide)) (fun c_12 => ?_)
            refine r_bipush (v := 10) dX9_faultOf_185 (by decide) ?_
            refine r_iload dX9_faultOf_187 3 rfl ?_
            refine r_imul dX9_faultOf_189 ?_
            refine r_top (nI (10 * p)) (pk_mul 10 p) ?_
            refine r_iload dX9_faultOf_190 0 rfl ?_
            refine r_iadd dX9_faultOf_192 ?_
            refine r_top (nI (10 * p + 2)) (nI_add (10 * p) 2) ?_
            refine r_ireti dX9_faultOf_193 rfl ?_
            exact ⟨by rw [← hinv.2, es, hf, if_neg (by decide)], (setA B 26 0 0), hW, rfl, (s26 (fun f _ => rfl))⟩
        · refine r_iconst (v := 1) dX9_faultOf_123 (by decide) ?_
          refine r_goto 178 dX9_faultOf_124 (by decide) ?_
          have hf : fap B l t g k p = 1 := by
            have x1 : B 12 (3 * cla B l p + g) = 0 := ni_eq (b := 0) (by omega) (by decide) c_5
            unfold fap
            rw [b2i_n0 c_4, if_pos rfl]
            unfold fau
            rw [if_pos x1]
          refine r_istore [(9, .int 1), (8, .int (nI (3 * (cla B l p) + g))), (7, .int (nI (cla B l p))), (6, .int (nI p)), (5, .int 1), (0, .ref (ad 31 0)), (1, .int (nI l)), (2, .int (nI t)), (3, .int (nI g)), (4, .int (nI k))] dX9_faultOf_178 (by decide) rfl ?_
          refine r_iload dX9_faultOf_180 0 rfl ?_
          refine r_if_le 194 dX9_faultOf_182 (by decide) (fun c_13 => absurd c_13 (by decide)) (fun c_13 => ?_)
          refine r_bipush (v := 10) dX9_faultOf_185 (by decide) ?_
          refine r_iload dX9_faultOf_187 3 rfl ?_
          refine r_imul dX9_faultOf_189 ?_
          refine r_top (nI (10 * p)) (pk_mul 10 p) ?_
          refine r_iload dX9_faultOf_190 0 rfl ?_
          refine r_iadd dX9_faultOf_192 ?_
          refine r_top (nI (10 * p + 1)) (nI_add (10 * p) 1) ?_
          refine r_ireti dX9_faultOf_193 rfl ?_
          exact ⟨by rw [← hinv.2, es, hf, if_neg (by decide)], (setA B 26 0 0), hW, rfl, (s26 (fun f _ => rfl))⟩
      · refine r_iconst (v := 0) dX9_faultOf_109 (by decide) ?_
        refine r_goto 178 dX9_faultOf_110 (by decide) ?_
        have hf : fap B l t g k p = 0 := by unfold fap; rw [b2i_0 c_4]; rfl
        refine r_istore [(9, .int 0), (8, .int (nI (3 * (cla B l p) + g))), (7, .int (nI (cla B l p))), (6, .int (nI p)), (5, .int 1), (0, .ref (ad 31 0)), (1, .int (nI l)), (2, .int (nI t)), (3, .int (nI g)), (4, .int (nI k))] dX9_faultOf_178 (by decide) rfl ?_
        refine r_iload dX9_faultOf_180 0 rfl ?_
        refine r_if_le 194 dX9_faultOf_182 (by decide) (fun c_14 => ?_) (fun c_14 => absurd (by decide) c_14)
        refine r_iinc (nI (p + 1)) [(6, .int (nI (p + 1))), (9, .int 0), (8, .int (nI (3 * (cla B l p) + g))), (7, .int (nI (cla B l p))), (5, .int 1), (0, .ref (ad 31 0)), (1, .int (nI l)), (2, .int (nI t)), (3, .int (nI g)), (4, .int (nI k))] dX9_faultOf_194 3 rfl (nI_1 p) (by decide) rfl ?_
        refine r_goto 66 dX9_faultOf_197 (by decide) ?_
        exact WP.loc [0, 4, 5, 6, 7, 8, 9] rfl (ih (p + 1) ⟨by omega, by rw [← hinv.2, es, hf, if_pos rfl]⟩ (by omega))
set_option maxRecDepth 100000 in
set_option maxHeartbeats 4000000 in
theorem m_faultOf_0 {d b0 : Nat} {G : GH} {A B : ST} {ad : AD} (hW : World A B ad G) (hI : Inv B) {l t g k : Nat} (hl : l < B 15 0) (ht : t < B 18 0) (hg : g < 3) (hk : k < 4) : CT mX9_faultOf (d + 4) b0 G [.ref (ad 31 0), .int (nI l), .int (nI t), .int (nI g), .int (nI k)] 0 0 (MPo (nI (fof B l t g k (B 17 l))) 0 B A ad) (fun _ _ => False) := by
  have hb0 := hI.b0
  have hb2 := hI.b2
  have hb9 := hI.b9
  have hb15 := hI.b15
  have hb18 := hI.b18
  refine CT.intro (by decide +kernel) rfl (Nat.le_of_ble_eq_true rfl) ?_
  show WP mX9_faultOf _ _ _ _ _ 0 0 0 [(0, .ref (ad 31 0)), (1, .int (nI l)), (2, .int (nI t)), (3, .int (nI g)), (4, .int (nI k))] []
  refine r_aload_n dX9_faultOf_0 rfl 0 rfl ?_
  refine r_iload_n dX9_faultOf_1 rfl 1 rfl ?_
  refine r_callV (st := []) [.int (nI l)] 0 0 dX9_faultOf_2 kX9_isLetter nX9_isLetter lRX9_135 (hW.g 31 0 rfl) rfl (c_X9_isLetter hW (Nat.le_trans hb15 (by decide)) (nI l)) rfl rfl (Nat.le_of_ble_eq_true rfl) (Nat.le_refl _) (Nat.le_refl _) (fun _ _ h => h.elim) ?_
  refine cx_det (st2 := [.int (b2i (inB (nI l) (B 15 0)))]) rfl ?_
  refine r_if_eq 27 dX9_faultOf_5 (by decide) (fun c_1 => absurd c_1 (b2i_no (inB_k hl (by omega)))) (fun c_1 => ?_)
  refine r_aload_n dX9_faultOf_8 rfl 0 rfl ?_
  refine r_iload_n dX9_faultOf_9 rfl 2 rfl ?_
  refine r_callV (st := []) [.int (nI t)] 0 0 dX9_faultOf_10 kX9_isData nX9_isData lRX9_141 (hW.g 31 0 rfl) rfl (c_X9_isData hW (Nat.le_trans hb18 (by decide)) (nI t)) rfl rfl (Nat.le_of_ble_eq_true rfl) (Nat.le_refl _) (Nat.le_refl _) (fun _ _ h => h.elim) ?_
  refine cx_det (st2 := [.int (b2i (inB (nI t) (B 18 0)))]) rfl ?_
  refine r_if_eq 27 dX9_faultOf_13 (by decide) (fun c_2 => absurd c_2 (b2i_no (inB_k ht (by omega)))) (fun c_2 => ?_)
  refine r_iload_n dX9_faultOf_16 rfl 3 rfl ?_
  refine r_callS (st := []) [.int (nI g)] 0 0 dX9_faultOf_17 kX9_isLanguage nX9_isLanguage lRX9_108 (c_mLang (nI g)) rfl rfl (Nat.le_of_ble_eq_true rfl) (Nat.le_refl _) (Nat.le_refl _) (fun _ _ h => h.elim) ?_
  refine cx_det (st2 := [.int (b2i (inB (nI g) 3))]) rfl ?_
  refine r_if_eq 27 dX9_faultOf_20 (by decide) (fun c_3 => absurd c_3 (b2i_no (inB_k hg (by decide)))) (fun c_3 => ?_)
  refine r_iconst (v := 1) dX9_faultOf_23 (by decide) ?_
  refine r_goto 28 dX9_faultOf_24 (by decide) ?_
  refine r_istore [(5, .int 1), (0, .ref (ad 31 0)), (1, .int (nI l)), (2, .int (nI t)), (3, .int (nI g)), (4, .int (nI k))] dX9_faultOf_28 (by decide) rfl ?_
  refine r_aload_n dX9_faultOf_30 rfl 1 rfl ?_
  refine r_iload dX9_faultOf_31 0 rfl ?_
  refine r_if_ne 40 dX9_faultOf_33 (by decide) (fun c_4 => ?_) (fun c_4 => absurd c_4 (by decide))
  refine r_iload dX9_faultOf_40 5 rfl ?_
  refine r_iconst (v := 0) dX9_faultOf_42 (by decide) ?_
  refine r_iconst (v := 3) dX9_faultOf_43 (by decide) ?_
  refine r_callS (st := [.ref (ad 31 0)]) [.int (nI k), .int 0, .int 3] 0 0 dX9_faultOf_44 kX9_isIn nX9_isIn lRX9_73 (c_in (n := 4) (nI k) (by decide) (by decide)) rfl rfl (Nat.le_of_ble_eq_true rfl) (Nat.le_refl _) (Nat.le_refl _) (fun _ _ h => h.elim) ?_
  refine cx_det (st2 := [.int (b2i (inB (nI k) 4)), .ref (ad 31 0)]) rfl ?_
  refine r_if_eq 54 dX9_faultOf_47 (by decide) (fun c_5 => absurd c_5 (b2i_no (inB_k hk (by decide)))) (fun c_5 => ?_)
  refine r_iconst (v := 0) dX9_faultOf_50 (by decide) ?_
  refine r_goto 55 dX9_faultOf_51 (by decide) ?_
  refine r_callV (st := []) [.int 0] 0 0 dX9_faultOf_55 kX9_goes nX9_goes lRX9_92 (hW.g 31 0 rfl) rfl (c_goes hW 0) rfl rfl (Nat.le_of_ble_eq_true rfl) (Nat.le_refl _) (Nat.le_refl _) (fun _ _ h => h.elim) ?_
  refine cx_det (st2 := [.int 1]) rfl ?_
  have hW_6 : World A (setA B 26 0 0) ad (va_up G (ad 31 0) (some (.inr (9, (mF B ad).set 26 (.int (nI 0)))))) := m_s26 hW 0
  refine r_heap (G' := va_up G (ad 31 0) (some (.inr (9, (mF B ad).set 26 (.int (nI 0)))))) rfl ?_
  refine r_if_ne 63 dX9_faultOf_58 (by decide) (fun c_7 => ?_) (fun c_7 => absurd c_7 (by decide))
  refine r_iconst (v := nI 0) dX9_faultOf_63 (by decide) ?_
  refine r_istore [(6, .int (nI 0)), (5, .int 1), (0, .ref (ad 31 0)), (1, .int (nI l)), (2, .int (nI t)), (3, .int (nI g)), (4, .int (nI k))] dX9_faultOf_64 (by decide) rfl ?_
  exact lp_X9_faultOf hW_6 hI hl ht hg hk _ 0 ⟨Nat.zero_le _, rfl⟩ (Nat.lt_succ_self _)
set_option maxRecDepth 100000 in
set_option maxHeartbeats 4000000 in
theorem m_faultOf_1a {d b0 : Nat} {G : GH} {A B : ST} {ad : AD} (hW : World A B ad G) (hI : Inv B) {x y z u : Int32} (hx : inB x (B 15 0) = false) : CT mX9_faultOf (d + 4) b0 G [.ref (ad 31 0), .int x, .int y, .int z, .int u] 0 0 (MPo 0 1 B A ad) (fun _ _ => False) := by
  have hb0 := hI.b0
  have hb2 := hI.b2
  have hb9 := hI.b9
  have hb15 := hI.b15
  have hb18 := hI.b18
  refine CT.intro (by decide +kernel) rfl (Nat.le_of_ble_eq_true rfl) ?_
  show WP mX9_faultOf _ _ _ _ _ 0 0 0 [(0, .ref (ad 31 0)), (1, .int x), (2, .int y), (3, .int z), (4, .int u)] []
  refine r_aload_n dX9_faultOf_0 rfl 0 rfl ?_
  refine r_iload_n dX9_faultOf_1 rfl 1 rfl ?_
  refine r_callV (st := []) [.int x] 0 0 dX9_faultOf_2 kX9_isLetter nX9_isLetter lRX9_135 (hW.g 31 0 rfl) rfl (c_X9_isLetter hW (Nat.le_trans hb15 (by decide)) x) rfl rfl (Nat.le_of_ble_eq_true rfl) (Nat.le_refl _) (Nat.le_refl _) (fun _ _ h => h.elim) ?_
  refine cx_det (st2 := [.int (b2i (inB x (B 15 0)))]) rfl ?_
  refine r_if_eq 27 dX9_faultOf_5 (by decide) (fun c_1 => ?_) (fun c_1 => absurd (b2i_z hx) c_1)
  refine r_iconst (v := 0) dX9_faultOf_27 (by decide) ?_
  refine r_istore [(5, .int 0), (0, .ref (ad 31 0)), (1, .int x), (2, .int y), (3, .int z), (4, .int u)] dX9_faultOf_28 (by decide) rfl ?_
  refine r_aload_n dX9_faultOf_30 rfl 1 rfl ?_
  refine r_iload dX9_faultOf_31 0 rfl ?_
  refine r_if_ne 40 dX9_faultOf_33 (by decide) (fun c_2 => absurd (by decide) c_2) (fun c_2 => ?_)
  refine r_iconst (v := 1) dX9_faultOf_36 (by decide) ?_
  refine r_goto 55 dX9_faultOf_37 (by decide) ?_
  refine r_callV (st := []) [.int 1] 0 0 dX9_faultOf_55 kX9_goes nX9_goes lRX9_92 (hW.g 31 0 rfl) rfl (c_goes hW 1) rfl rfl (Nat.le_of_ble_eq_true rfl) (Nat.le_refl _) (Nat.le_refl _) (fun _ _ h => h.elim) ?_
  refine cx_det (st2 := [.int 0]) rfl ?_
  have hW_3 : World A (setA B 26 0 1) ad (va_up G (ad 31 0) (some (.inr (9, (mF B ad).set 26 (.int (nI 1)))))) := m_s26 hW 1
  refine r_heap (G' := va_up G (ad 31 0) (some (.inr (9, (mF B ad).set 26 (.int (nI 1)))))) rfl ?_
  refine r_if_ne 63 dX9_faultOf_58 (by decide) (fun c_4 => absurd (by decide) c_4) (fun c_4 => ?_)
  refine r_iconst (v := 0) dX9_faultOf_61 (by decide) ?_
  refine r_ireti dX9_faultOf_62 rfl ?_
  exact ⟨rfl, (setA B 26 0 1), hW_3, rfl, (s26 (fun f _ => rfl))⟩
set_option maxRecDepth 100000 in
set_option maxHeartbeats 4000000 in
theorem m_faultOf_1b {d b0 : Nat} {G : GH} {A B : ST} {ad : AD} (hW : World A B ad G) (hI : Inv B) {l : Nat} {y z u : Int32} (hl : l < B 15 0) (hy : inB y (B 18 0) = false) : CT mX9_faultOf (d + 4) b0 G [.ref (ad 31 0), .int (nI l), .int y, .int z, .int u] 0 0 (MPo 0 1 B A ad) (fun _ _ => False) := by
  have hb0 := hI.b0
  have hb2 := hI.b2
  have hb9 := hI.b9
  have hb15 := hI.b15
  have hb18 := hI.b18
  refine CT.intro (by decide +kernel) rfl (Nat.le_of_ble_eq_true rfl) ?_
  show WP mX9_faultOf _ _ _ _ _ 0 0 0 [(0, .ref (ad 31 0)), (1, .int (nI l)), (2, .int y), (3, .int z), (4, .int u)] []
  refine r_aload_n dX9_faultOf_0 rfl 0 rfl ?_
  refine r_iload_n dX9_faultOf_1 rfl 1 rfl ?_
  refine r_callV (st := []) [.int (nI l)] 0 0 dX9_faultOf_2 kX9_isLetter nX9_isLetter lRX9_135 (hW.g 31 0 rfl) rfl (c_X9_isLetter hW (Nat.le_trans hb15 (by decide)) (nI l)) rfl rfl (Nat.le_of_ble_eq_true rfl) (Nat.le_refl _) (Nat.le_refl _) (fun _ _ h => h.elim) ?_
  refine cx_det (st2 := [.int (b2i (inB (nI l) (B 15 0)))]) rfl ?_
  refine r_if_eq 27 dX9_faultOf_5 (by decide) (fun c_1 => absurd c_1 (b2i_no (inB_k hl (by omega)))) (fun c_1 => ?_)
  refine r_aload_n dX9_faultOf_8 rfl 0 rfl ?_
  refine r_iload_n dX9_faultOf_9 rfl 2 rfl ?_
  refine r_callV (st := []) [.int y] 0 0 dX9_faultOf_10 kX9_isData nX9_isData lRX9_141 (hW.g 31 0 rfl) rfl (c_X9_isData hW (Nat.le_trans hb18 (by decide)) y) rfl rfl (Nat.le_of_ble_eq_true rfl) (Nat.le_refl _) (Nat.le_refl _) (fun _ _ h => h.elim) ?_
  refine cx_det (st2 := [.int (b2i (inB y (B 18 0)))]) rfl ?_
  refine r_if_eq 27 dX9_faultOf_13 (by decide) (fun c_2 => ?_) (fun c_2 => absurd (b2i_z hy) c_2)
  refine r_iconst (v := 0) dX9_faultOf_27 (by decide) ?_
  refine r_istore [(5, .int 0), (0, .ref (ad 31 0)), (1, .int (nI l)), (2, .int y), (3, .int z), (4, .int u)] dX9_faultOf_28 (by decide) rfl ?_
  refine r_aload_n dX9_faultOf_30 rfl 1 rfl ?_
  refine r_iload dX9_faultOf_31 0 rfl ?_
  refine r_if_ne 40 dX9_faultOf_33 (by decide) (fun c_3 => absurd (by decide) c_3) (fun c_3 => ?_)
  refine r_iconst (v := 1) dX9_faultOf_36 (by decide) ?_
  refine r_goto 55 dX9_faultOf_37 (by decide) ?_
  refine r_callV (st := []) [.int 1] 0 0 dX9_faultOf_55 kX9_goes nX9_goes lRX9_92 (hW.g 31 0 rfl) rfl (c_goes hW 1) rfl rfl (Nat.le_of_ble_eq_true rfl) (Nat.le_refl _) (Nat.le_refl _) (fun _ _ h => h.elim) ?_
  refine cx_det (st2 := [.int 0]) rfl ?_
  have hW_4 : World A (setA B 26 0 1) ad (va_up G (ad 31 0) (some (.inr (9, (mF B ad).set 26 (.int (nI 1)))))) := m_s26 hW 1
  refine r_heap (G' := va_up G (ad 31 0) (some (.inr (9, (mF B ad).set 26 (.int (nI 1)))))) rfl ?_
  refine r_if_ne 63 dX9_faultOf_58 (by decide) (fun c_5 => absurd (by decide) c_5) (fun c_5 => ?_)
  refine r_iconst (v := 0) dX9_faultOf_61 (by decide) ?_
  refine r_ireti dX9_faultOf_62 rfl ?_
  exact ⟨rfl, (setA B 26 0 1), hW_4, rfl, (s26 (fun f _ => rfl))⟩
set_option maxRecDepth 100000 in
set_option maxHeartbeats 4000000 in
theorem m_faultOf_1c {d b0 : Nat} {G : GH} {A B : ST} {ad : AD} (hW : World A B ad G) (hI : Inv B) {l t : Nat} {z u : Int32} (hl : l < B 15 0) (ht : t < B 18 0) (hz : inB z 3 = false) : CT mX9_faultOf (d + 4) b0 G [.ref (ad 31 0), .int (nI l), .int (nI t), .int z, .int u] 0 0 (MPo 0 1 B A ad) (fun _ _ => False) := by
  have hb0 := hI.b0
  have hb2 := hI.b2
  have hb9 := hI.b9
  have hb15 := hI.b15
  have hb18 := hI.b18
  refine CT.intro (by decide +kernel) rfl (Nat.le_of_ble_eq_true rfl) ?_
  show WP mX9_faultOf _ _ _ _ _ 0 0 0 [(0, .ref (ad 31 0)), (1, .int (nI l)), (2, .int (nI t)), (3, .int z), (4, .int u)] []
  refine r_aload_n dX9_faultOf_0 rfl 0 rfl ?_
  refine r_iload_n dX9_faultOf_1 rfl 1 rfl ?_
  refine r_callV (st := []) [.int (nI l)] 0 0 dX9_faultOf_2 kX9_isLetter nX9_isLetter lRX9_135 (hW.g 31 0 rfl) rfl (c_X9_isLetter hW (Nat.le_trans hb15 (by decide)) (nI l)) rfl rfl (Nat.le_of_ble_eq_true rfl) (Nat.le_refl _) (Nat.le_refl _) (fun _ _ h => h.elim) ?_
  refine cx_det (st2 := [.int (b2i (inB (nI l) (B 15 0)))]) rfl ?_
  refine r_if_eq 27 dX9_faultOf_5 (by decide) (fun c_1 => absurd c_1 (b2i_no (inB_k hl (by omega)))) (fun c_1 => ?_)
  refine r_aload_n dX9_faultOf_8 rfl 0 rfl ?_
  refine r_iload_n dX9_faultOf_9 rfl 2 rfl ?_
  refine r_callV (st := []) [.int (nI t)] 0 0 dX9_faultOf_10 kX9_isData nX9_isData lRX9_141 (hW.g 31 0 rfl) rfl (c_X9_isData hW (Nat.le_trans hb18 (by decide)) (nI t)) rfl rfl (Nat.le_of_ble_eq_true rfl) (Nat.le_refl _) (Nat.le_refl _) (fun _ _ h => h.elim) ?_
  refine cx_det (st2 := [.int (b2i (inB (nI t) (B 18 0)))]) rfl ?_
  refine r_if_eq 27 dX9_faultOf_13 (by decide) (fun c_2 => absurd c_2 (b2i_no (inB_k ht (by omega)))) (fun c_2 => ?_)
  refine r_iload_n dX9_faultOf_16 rfl 3 rfl ?_
  refine r_callS (st := []) [.int z] 0 0 dX9_faultOf_17 kX9_isLanguage nX9_isLanguage lRX9_108 (c_mLang z) rfl rfl (Nat.le_of_ble_eq_true rfl) (Nat.le_refl _) (Nat.le_refl _) (fun _ _ h => h.elim) ?_
  refine cx_det (st2 := [.int (b2i (inB z 3))]) rfl ?_
  refine r_if_eq 27 dX9_faultOf_20 (by decide) (fun c_3 => ?_) (fun c_3 => absurd (b2i_z hz) c_3)
  refine r_iconst (v := 0) dX9_faultOf_27 (by decide) ?_
  refine r_istore [(5, .int 0), (0, .ref (ad 31 0)), (1, .int (nI l)), (2, .int (nI t)), (3, .int z), (4, .int u)] dX9_faultOf_28 (by decide) rfl ?_
  refine r_aload_n dX9_faultOf_30 rfl 1 rfl ?_
  refine r_iload dX9_faultOf_31 0 rfl ?_
  refine r_if_ne 40 dX9_faultOf_33 (by decide) (fun c_4 => absurd (by decide) c_4) (fun c_4 => ?_)
  refine r_iconst (v := 1) dX9_faultOf_36 (by decide) ?_
  refine r_goto 55 dX9_faultOf_37 (by decide) ?_
  refine r_callV (st := []) [.int 1] 0 0 dX9_faultOf_55 kX9_goes nX9_goes lRX9_92 (hW.g 31 0 rfl) rfl (c_goes hW 1) rfl rfl (Nat.le_of_ble_eq_true rfl) (Nat.le_refl _) (Nat.le_refl _) (fun _ _ h => h.elim) ?_
  refine cx_det (st2 := [.int 0]) rfl ?_
  have hW_5 : World A (setA B 26 0 1) ad (va_up G (ad 31 0) (some (.inr (9, (mF B ad).set 26 (.int (nI 1)))))) := m_s26 hW 1
  refine r_heap (G' := va_up G (ad 31 0) (some (.inr (9, (mF B ad).set 26 (.int (nI 1)))))) rfl ?_
  refine r_if_ne 63 dX9_faultOf_58 (by decide) (fun c_6 => absurd (by decide) c_6) (fun c_6 => ?_)
  refine r_iconst (v := 0) dX9_faultOf_61 (by decide) ?_
  refine r_ireti dX9_faultOf_62 rfl ?_
  exact ⟨rfl, (setA B 26 0 1), hW_5, rfl, (s26 (fun f _ => rfl))⟩
set_option maxRecDepth 100000 in
set_option maxHeartbeats 4000000 in
theorem m_faultOf_2 {d b0 : Nat} {G : GH} {A B : ST} {ad : AD} (hW : World A B ad G) (hI : Inv B) {l t g : Nat} {u : Int32} (hl : l < B 15 0) (ht : t < B 18 0) (hg : g < 3) (hu : inB u 4 = false) : CT mX9_faultOf (d + 4) b0 G [.ref (ad 31 0), .int (nI l), .int (nI t), .int (nI g), .int u] 0 0 (MPo 0 2 B A ad) (fun _ _ => False) := by
  have hb0 := hI.b0
  have hb2 := hI.b2
  have hb9 := hI.b9
  have hb15 := hI.b15
  have hb18 := hI.b18
  refine CT.intro (by decide +kernel) rfl (Nat.le_of_ble_eq_true rfl) ?_
  show WP mX9_faultOf _ _ _ _ _ 0 0 0 [(0, .ref (ad 31 0)), (1, .int (nI l)), (2, .int (nI t)), (3, .int (nI g)), (4, .int u)] []
  refine r_aload_n dX9_faultOf_0 rfl 0 rfl ?_
  refine r_iload_n dX9_faultOf_1 rfl 1 rfl ?_
  refine r_callV (st := []) [.int (nI l)] 0 0 dX9_faultOf_2 kX9_isLetter nX9_isLetter lRX9_135 (hW.g 31 0 rfl) rfl (c_X9_isLetter hW (Nat.le_trans hb15 (by decide)) (nI l)) rfl rfl (Nat.le_of_ble_eq_true rfl) (Nat.le_refl _) (Nat.le_refl _) (fun _ _ h => h.elim) ?_
  refine cx_det (st2 := [.int (b2i (inB (nI l) (B 15 0)))]) rfl ?_
  refine r_if_eq 27 dX9_faultOf_5 (by decide) (fun c_1 => absurd c_1 (b2i_no (inB_k hl (by omega)))) (fun c_1 => ?_)
  refine r_aload_n dX9_faultOf_8 rfl 0 rfl ?_
  refine r_iload_n dX9_faultOf_9 rfl 2 rfl ?_
  refine r_callV (st := []) [.int (nI t)] 0 0 dX9_faultOf_10 kX9_isData nX9_isData lRX9_141 (hW.g 31 0 rfl) rfl (c_X9_isData hW (Nat.le_trans hb18 (by decide)) (nI t)) rfl rfl (Nat.le_of_ble_eq_true rfl) (Nat.le_refl _) (Nat.le_refl _) (fun _ _ h => h.elim) ?_
  refine cx_det (st2 := [.int (b2i (inB (nI t) (B 18 0)))]) rfl ?_
  refine r_if_eq 27 dX9_faultOf_13 (by decide) (fun c_2 => absurd c_2 (b2i_no (inB_k ht (by omega)))) (fun c_2 => ?_)
  refine r_iload_n dX9_faultOf_16 rfl 3 rfl ?_
  refine r_callS (st := []) [.int (nI g)] 0 0 dX9_faultOf_17 kX9_isLanguage nX9_isLanguage lRX9_108 (c_mLang (nI g)) rfl rfl (Nat.le_of_ble_eq_true rfl) (Nat.le_refl _) (Nat.le_refl _) (fun _ _ h => h.elim) ?_
  refine cx_det (st2 := [.int (b2i (inB (nI g) 3))]) rfl ?_
  refine r_if_eq 27 dX9_faultOf_20 (by decide) (fun c_3 => absurd c_3 (b2i_no (inB_k hg (by decide)))) (fun c_3 => ?_)
  refine r_iconst (v := 1) dX9_faultOf_23 (by decide) ?_
  refine r_goto 28 dX9_faultOf_24 (by decide) ?_
  refine r_istore [(5, .int 1), (0, .ref (ad 31 0)), (1, .int (nI l)), (2, .int (nI t)), (3, .int (nI g)), (4, .int u)] dX9_faultOf_28 (by decide) rfl ?_
  refine r_aload_n dX9_faultOf_30 rfl 1 rfl ?_
  refine r_iload dX9_faultOf_31 0 rfl ?_
  refine r_if_ne 40 dX9_faultOf_33 (by decide) (fun c_4 => ?_) (fun c_4 => absurd c_4 (by decide))
  refine r_iload dX9_faultOf_40 5 rfl ?_
  refine r_iconst (v := 0) dX9_faultOf_42 (by decide) ?_
  refine r_iconst (v := 3) dX9_faultOf_43 (by decide) ?_
  refine r_callS (st := [.ref (ad 31 0)]) [.int u, .int 0, .int 3] 0 0 dX9_faultOf_44 kX9_isIn nX9_isIn lRX9_73 (c_in (n := 4) u (by decide) (by decide)) rfl rfl (Nat.le_of_ble_eq_true rfl) (Nat.le_refl _) (Nat.le_refl _) (fun _ _ h => h.elim) ?_
  refine cx_det (st2 := [.int (b2i (inB u 4)), .ref (ad 31 0)]) rfl ?_
  refine r_if_eq 54 dX9_faultOf_47 (by decide) (fun c_5 => ?_) (fun c_5 => absurd (b2i_z hu) c_5)
  refine r_iconst (v := 2) dX9_faultOf_54 (by decide) ?_
  refine r_callV (st := []) [.int 2] 0 0 dX9_faultOf_55 kX9_goes nX9_goes lRX9_92 (hW.g 31 0 rfl) rfl (c_goes hW 2) rfl rfl (Nat.le_of_ble_eq_true rfl) (Nat.le_refl _) (Nat.le_refl _) (fun _ _ h => h.elim) ?_
  refine cx_det (st2 := [.int 0]) rfl ?_
  have hW_6 : World A (setA B 26 0 2) ad (va_up G (ad 31 0) (some (.inr (9, (mF B ad).set 26 (.int (nI 2)))))) := m_s26 hW 2
  refine r_heap (G' := va_up G (ad 31 0) (some (.inr (9, (mF B ad).set 26 (.int (nI 2)))))) rfl ?_
  refine r_if_ne 63 dX9_faultOf_58 (by decide) (fun c_7 => absurd (by decide) c_7) (fun c_7 => ?_)
  refine r_iconst (v := 0) dX9_faultOf_61 (by decide) ?_
  refine r_ireti dX9_faultOf_62 rfl ?_
  exact ⟨rfl, (setA B 26 0 2), hW_6, rfl, (s26 (fun f _ => rfl))⟩
