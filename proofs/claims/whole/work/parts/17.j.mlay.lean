section CC
variable {A A' : ST}
theorem rg_c {f b n : Nat} (h : A' f = A f) : rg A' f b n = rg A f b n := by unfold rg; rw [h]
theorem seg_c {f b n : Nat} (h : A' f = A f) : seg A' f b n = seg A f b n := by unfold seg; rw [h]
theorem fmL_c (E : ∀ f, f < 22 → A' f = A f) {l w g : Nat} : fmL A' l w g = fmL A l w g := by
  unfold fmL kpA
  rw [rg_c (E 3 (by decide)), rg_c (E 5 (by decide)), seg_c (E 3 (by decide)), seg_c (E 5 (by decide)), seg_c (E 7 (by decide)), E 8 (by decide), E 6 (by decide), E 4 (by decide)]
theorem txL_c (E : ∀ f, f < 22 → A' f = A f) {t e g : Nat} : ∀ n i, txL A' t e g n i = txL A t e g n i
  | 0, _ => rfl
  | n + 1, i => by
    show (if A' 12 t ≤ i then [] else if A' 11 (60 * t + i) = 91 then fmL A' g (A' 19 (5 * e + (A' 11 (60 * t + (i + 1)) - 48))) (2 * cseN (A' 11 (60 * t + (i + 2))) + nmbN (A' 11 (60 * t + (i + 3)))) ++ txL A' t e g n (i + 5) else A' 11 (60 * t + i) :: txL A' t e g n (i + 1)) = (if A 12 t ≤ i then [] else if A 11 (60 * t + i) = 91 then fmL A g (A 19 (5 * e + (A 11 (60 * t + (i + 1)) - 48))) (2 * cseN (A 11 (60 * t + (i + 2))) + nmbN (A 11 (60 * t + (i + 3)))) ++ txL A t e g n (i + 5) else A 11 (60 * t + i) :: txL A t e g n (i + 1))
    rw [E 12 (by decide), E 11 (by decide), E 19 (by decide), fmL_c E, txL_c E n, txL_c E n]
theorem meB_c (E : ∀ f, f < 22 → A' f = A f) {t c : Nat} : meB A' t c = meB A t c := by
  unfold meB meI
  rw [E 20 (by decide), E 10 (by decide)]
theorem cla_c (E : ∀ f, f < 22 → A' f = A f) {l p : Nat} : cla A' l p = cla A l p := by
  unfold cla
  rw [E 16 (by decide)]
theorem ltL_c (E : ∀ f, f < 22 → A' f = A f) {l e g : Nat} : ∀ n, ltL A' l e g n = ltL A l e g n
  | 0 => rfl
  | n + 1 => by
    have h1 : isL A' l e g n = isL A l e g n := by
      unfold isL
      rw [meB_c E, cla_c E, E 12 (by decide)]
    show (if isL A' l e g n = true then (if ltL A' l e g n = [] then txL A' (3 * cla A' l n + g) e g 60 0 else ltL A' l e g n ++ 32 :: txL A' (3 * cla A' l n + g) e g 60 0) else ltL A' l e g n) = (if isL A l e g n = true then (if ltL A l e g n = [] then txL A (3 * cla A l n + g) e g 60 0 else ltL A l e g n ++ 32 :: txL A (3 * cla A l n + g) e g 60 0) else ltL A l e g n)
    rw [h1, ltL_c E n, txL_c E, cla_c E]
end CC
/-- the letter that has been built, in the reference -/
def blS (B : ST) (L : List Nat) : ST := fun f k => if f = 22 then (bld true L).getD k (B 22 k) else if f = 23 then (if k = 0 then L.length else B 23 k) else if f = 24 then (if k = 0 then b2n (opn true L) else B 24 k) else B f k
theorem blS_o {B : ST} {L : List Nat} {f k : Nat} (h : f < 22) : blS B L f k = B f k := by unfold blS; rw [if_neg (by omega), if_neg (by omega), if_neg (by omega)]
theorem blS_f {B : ST} {L : List Nat} {f : Nat} (h : f < 22) : blS B L f = B f := by funext k; exact blS_o h
theorem sbl {B1 B2 : ST} {L : List Nat} (h : ∀ f, f < 22 ∨ f = 40 → B1 f = B2 f) : ∀ f, f < 22 ∨ f = 40 → blS B1 L f = B2 f := fun f hf => by
  rw [← h f hf]
  funext k
  unfold blS
  rw [if_neg (by omega), if_neg (by omega), if_neg (by omega)]
theorem Inv.bl {B : ST} (h : Inv B) (L : List Nat) : Inv (blS B L) := h.congr (fun f hf => blS_f hf)
theorem blS_lay {A : ST} {L : List Nat} {x : Nat} : setA (setA (setA (blS A L) 22 L.length (capN (opn true L) x)) 24 0 (b2n (nxo (opn true L) x))) 23 0 (L.length + 1) = blS A (L ++ [x]) := by
  rw [setA_cm (by decide)]
  funext f k
  by_cases h2 : f = 24
  · rw [h2]
    by_cases hk : k = 0
    · rw [hk, setA_s]; show _ = b2n (opn true (L ++ [x])); rw [opn_one]
    · rw [setA_n hk, setA_f (by decide), setA_f (by decide)]; unfold blS
      rw [if_neg (by decide), if_neg (by decide), if_pos rfl, if_neg hk, if_neg (by decide), if_neg (by decide), if_pos rfl, if_neg hk]
  · rw [setA_f h2]
    by_cases h1 : f = 23
    · rw [h1]
      by_cases hk : k = 0
      · rw [hk, setA_s]; show _ = (L ++ [x]).length; rw [List.length_append]; rfl
      · rw [setA_n hk, setA_f (by decide)]; unfold blS
        rw [if_neg (by decide), if_pos rfl, if_neg hk, if_neg (by decide), if_pos rfl, if_neg hk]
    · rw [setA_f h1]
      by_cases h0 : f = 22
      · rw [h0]
        show _ = (bld true (L ++ [x])).getD k (A 22 k)
        rw [bld_one]
        by_cases hk : k = L.length
        · rw [hk, setA_s, getD_app_r (by rw [bld_len]; omega), bld_len, Nat.sub_self]; rfl
        · rw [setA_n hk]
          show (bld true L).getD k (A 22 k) = _
          by_cases hq : k < L.length
          · rw [getD_app_l (by rw [bld_len]; exact hq)]
          · rw [getD_big (by rw [bld_len]; omega), getD_big (by rw [List.length_append, bld_len]; show L.length + 1 ≤ k; omega)]
      · rw [setA_f h0]; unfold blS
        rw [if_neg h0, if_neg h1, if_neg h2, if_neg h0, if_neg h1, if_neg h2]
theorem blS_start {A : ST} : setA (setA A 23 0 0) 24 0 1 = blS A [] := by
  funext f k
  by_cases h2 : f = 24
  · rw [h2]
    by_cases hk : k = 0
    · rw [hk, setA_s]; rfl
    · rw [setA_n hk, setA_f (by decide)]; unfold blS
      rw [if_neg (by decide), if_neg (by decide), if_pos rfl, if_neg hk]
  · rw [setA_f h2]
    by_cases h1 : f = 23
    · rw [h1]
      by_cases hk : k = 0
      · rw [hk, setA_s]; rfl
      · rw [setA_n hk]; unfold blS
        rw [if_neg (by decide), if_pos rfl, if_neg hk]
    · rw [setA_f h1]; unfold blS
      by_cases h0 : f = 22
      · rw [h0, if_pos rfl]; rfl
      · rw [if_neg h0, if_neg h1, if_neg h2]
theorem cap_raw {x : Nat} (h : x < 65536) (hs : smn x = true) : (((nI x - 97) + 65).toUInt32 % 65536).toInt32 = nI (capN true x) := by
  have h1 := cap_n h true
  unfold cap at h1
  rw [if_neg (by decide)] at h1
  unfold s_X8_capital at h1
  rw [sm_n h, hs, if_neg (by decide)] at h1
  exact h1
theorem c_msm {d b0 : Nat} {G : GH} {x : Nat} (h : x < 65536) : CTd mX9_isSmall d b0 G [.int (nI x)] 0 0 (some (.int (b2i (smn x)))) G := by
  rw [← (show s_X9_isSmall (nI x) = b2i (smn x) from sm_n h)]
  exact c_X9_isSmall _
theorem seg_s {A : ST} {f b n : Nat} : seg A f b (n + 1) = seg A f b n ++ [A f (b + n)] := by
  unfold seg
  rw [List.range_succ, List.map_append]; rfl
theorem seg_0 {A : ST} {f b : Nat} : seg A f b 0 = [] := rfl
set_option maxRecDepth 100000 in
set_option maxHeartbeats 4000000 in
theorem m_lay {d b0 : Nat} {G : GH} {A B : ST} {ad : AD} {L : List Nat} {x : Nat} (hW : World A (blS B L) ad G) (hl : L.length < 1100) (hx : x < 65536) : CT mX9_lays (d + 1) b0 G [.ref (ad 31 0), .int (nI x)] 0 0 (fun r G' => r = none ∧ World A (blS B (L ++ [x])) ad G') (fun _ _ => False) := by
  refine CT.intro (by decide +kernel) rfl (Nat.le_of_ble_eq_true rfl) ?_
  show WP mX9_lays _ _ _ _ _ 0 0 0 [(0, .ref (ad 31 0)), (1, .int (nI x))] []
  refine r_aload_n dX9_lays_0 rfl 0 rfl ?_
  refine r_get 22 dX9_lays_1 fRX9_63 (hW.g 31 0 rfl) rfl ?_
  refine r_aload_n dX9_lays_4 rfl 0 rfl ?_
  refine r_get 23 dX9_lays_5 fRX9_151 (hW.g 31 0 rfl) rfl ?_
  refine r_top (nI (L.length)) rfl ?_
  refine r_aload_n dX9_lays_8 rfl 0 rfl ?_
  refine r_get 24 dX9_lays_9 fRX9_154 (hW.g 31 0 rfl) rfl ?_
  refine r_top (nI (b2n (opn true L))) rfl ?_
  refine r_top (b2i (opn true L)) (b2n_i _) ?_
  refine r_if_eq 33 dX9_lays_12 (by decide) (fun c_1 => ?_) (fun c_1 => ?_)
  · refine r_iload_n dX9_lays_33 rfl 1 rfl ?_
    refine r_top (nI (capN (opn true L) x)) (by unfold capN; rw [b2i_0 c_1]; rfl) ?_
    refine r_cast dX9_lays_34 (hW.g 32 22 rfl) (vp_in_nI (by omega) (by decide)) (isC_nI (Nat.lt_of_le_of_lt (capN_le _ _) hx)) ?_
    have hW_2 : World A (setA (blS B L) 22 L.length (capN (opn true L) x)) ad (va_up G (ad 32 22) (some (.inl (.char, 1100, .inl (upd (rg (blS B L) 22 0 1100) L.length (nI (capN (opn true L) x))))))) := m_a22 hW (by omega)
    refine r_heap (G' := va_up G (ad 32 22) (some (.inl (.char, 1100, .inl (upd (rg (blS B L) 22 0 1100) L.length (nI (capN (opn true L) x))))))) (by rw [nI_cl (by omega)] <;> rfl) ?_
    refine r_aload_n dX9_lays_35 rfl 0 rfl ?_
    refine r_iload_n dX9_lays_36 rfl 1 rfl ?_
    refine r_bipush (v := 46) dX9_lays_37 (by decide) ?_
    refine r_icmp_eq 56 dX9_lays_39 (by decide) (fun c_3 => ?_) (fun c_3 => ?_)
    · have hnx : nxo (opn true L) x = true := by unfold nxo; rw [decide_eq_true (p := x = 46) (ni_eq (b := 46) (by omega) (by decide) c_3)]; rfl
      refine r_iconst (v := nI (b2n (nxo (opn true L) x))) dX9_lays_56 (by rw [hnx]; rfl) ?_
      refine r_goto 61 dX9_lays_57 (by decide) ?_
      refine r_put 24 (.boolean) dX9_lays_61 gRX9_154 (hW_2.g 31 0 rfl) (Nat.le_of_ble_eq_true rfl) (by rw [b2n_i]; exact b2i_Z) (fitZ (by rw [b2n_i]; exact b2i_Z)) ?_
      have hW_4 : World A (setA (setA (blS B L) 22 L.length (capN (opn true L) x)) 24 0 (b2n (nxo (opn true L) x))) ad (va_up (va_up G (ad 32 22) (some (.inl (.char, 1100, .inl (upd (rg (blS B L) 22 0 1100) L.length (nI (capN (opn true L) x))))))) (ad 31 0) (some (.inr (9, (mF (setA (blS B L) 22 L.length (capN (opn true L) x)) ad).set 24 (.int (nI (b2n (nxo (opn true L) x)))))))) := m_s24 hW_2 (b2n (nxo (opn true L) x))
      refine r_heap (G' := va_up (va_up G (ad 32 22) (some (.inl (.char, 1100, .inl (upd (rg (blS B L) 22 0 1100) L.length (nI (capN (opn true L) x))))))) (ad 31 0) (some (.inr (9, (mF (setA (blS B L) 22 L.length (capN (opn true L) x)) ad).set 24 (.int (nI (b2n (nxo (opn true L) x)))))))) rfl ?_
      refine r_aload_n dX9_lays_64 rfl 0 rfl ?_
      refine r_dup dX9_lays_65 rfl ?_
      refine r_get 23 dX9_lays_66 fRX9_151 (hW_4.g 31 0 rfl) rfl ?_
      refine r_top (nI (L.length)) rfl ?_
      refine r_iconst (v := 1) dX9_lays_69 (by decide) ?_
      refine r_iadd dX9_lays_70 ?_
      refine r_top (nI (L.length + 1)) (nI_1 _) ?_
      refine r_put 23 (.int) dX9_lays_71 gRX9_151 (hW_4.g 31 0 rfl) (Nat.le_of_ble_eq_true rfl) rfl rfl ?_
      have hW_5 : World A (setA (setA (setA (blS B L) 22 L.length (capN (opn true L) x)) 24 0 (b2n (nxo (opn true L) x))) 23 0 (L.length + 1)) ad (va_up (va_up (va_up G (ad 32 22) (some (.inl (.char, 1100, .inl (upd (rg (blS B L) 22 0 1100) L.length (nI (capN (opn true L) x))))))) (ad 31 0) (some (.inr (9, (mF (setA (blS B L) 22 L.length (capN (opn true L) x)) ad).set 24 (.int (nI (b2n (nxo (opn true L) x)))))))) (ad 31 0) (some (.inr (9, (mF (setA (setA (blS B L) 22 L.length (capN (opn true L) x)) 24 0 (b2n (nxo (opn true L) x))) ad).set 23 (.int (nI (L.length + 1))))))) := m_s23 hW_4 (L.length + 1)
      refine r_heap (G' := va_up (va_up (va_up G (ad 32 22) (some (.inl (.char, 1100, .inl (upd (rg (blS B L) 22 0 1100) L.length (nI (capN (opn true L) x))))))) (ad 31 0) (some (.inr (9, (mF (setA (blS B L) 22 L.length (capN (opn true L) x)) ad).set 24 (.int (nI (b2n (nxo (opn true L) x)))))))) (ad 31 0) (some (.inr (9, (mF (setA (setA (blS B L) 22 L.length (capN (opn true L) x)) 24 0 (b2n (nxo (opn true L) x))) ad).set 23 (.int (nI (L.length + 1))))))) rfl ?_
      refine r_vret dX9_lays_74 rfl ?_
      have hq := hW_5
      rw [blS_lay] at hq
      exact ⟨rfl, hq⟩
    · refine r_aload_n dX9_lays_42 rfl 0 rfl ?_
      refine r_get 24 dX9_lays_43 fRX9_154 (hW_2.g 31 0 rfl) rfl ?_
      refine r_top (nI (b2n (opn true L))) rfl ?_
      refine r_top (b2i (opn true L)) (b2n_i _) ?_
      refine r_if_eq 60 dX9_lays_46 (by decide) (fun c_6 => ?_) (fun c_6 => absurd c_1 c_6)
      have hnx : nxo (opn true L) x = false := by unfold nxo; rw [decide_eq_false (p := x = 46) (ni_ne (b := 46) (by omega) (by decide) c_3), b2i_0 c_1]; rfl
      refine r_iconst (v := nI (b2n (nxo (opn true L) x))) dX9_lays_60 (by rw [hnx]; rfl) ?_
      refine r_put 24 (.boolean) dX9_lays_61 gRX9_154 (hW_2.g 31 0 rfl) (Nat.le_of_ble_eq_true rfl) (by rw [b2n_i]; exact b2i_Z) (fitZ (by rw [b2n_i]; exact b2i_Z)) ?_
      have hW_7 : World A (setA (setA (blS B L) 22 L.length (capN (opn true L) x)) 24 0 (b2n (nxo (opn true L) x))) ad (va_up (va_up G (ad 32 22) (some (.inl (.char, 1100, .inl (upd (rg (blS B L) 22 0 1100) L.length (nI (capN (opn true L) x))))))) (ad 31 0) (some (.inr (9, (mF (setA (blS B L) 22 L.length (capN (opn true L) x)) ad).set 24 (.int (nI (b2n (nxo (opn true L) x)))))))) := m_s24 hW_2 (b2n (nxo (opn true L) x))
      refine r_heap (G' := va_up (va_up G (ad 32 22) (some (.inl (.char, 1100, .inl (upd (rg (blS B L) 22 0 1100) L.length (nI (capN (opn true L) x))))))) (ad 31 0) (some (.inr (9, (mF (setA (blS B L) 22 L.length (capN (opn true L) x)) ad).set 24 (.int (nI (b2n (nxo (opn true L) x)))))))) rfl ?_
      refine r_aload_n dX9_lays_64 rfl 0 rfl ?_
      refine r_dup dX9_lays_65 rfl ?_
      refine r_get 23 dX9_lays_66 fRX9_151 (hW_7.g 31 0 rfl) rfl ?_
      refine r_top (nI (L.length)) rfl ?_
      refine r_iconst (v := 1) dX9_lays_69 (by decide) ?_
      refine r_iadd dX9_lays_70 ?_
      refine r_top (nI (L.length + 1)) (nI_1 _) ?_
      refine r_put 23 (.int) dX9_lays_71 gRX9_151 (hW_7.g 31 0 rfl) (Nat.le_of_ble_eq_true rfl) rfl rfl ?_
      have hW_8 : World A (setA (setA (setA (blS B L) 22 L.length (capN (opn true L) x)) 24 0 (b2n (nxo (opn true L) x))) 23 0 (L.length + 1)) ad (va_up (va_up (va_up G (ad 32 22) (some (.inl (.char, 1100, .inl (upd (rg (blS B L) 22 0 1100) L.length (nI (capN (opn true L) x))))))) (ad 31 0) (some (.inr (9, (mF (setA (blS B L) 22 L.length (capN (opn true L) x)) ad).set 24 (.int (nI (b2n (nxo (opn true L) x)))))))) (ad 31 0) (some (.inr (9, (mF (setA (setA (blS B L) 22 L.length (capN (opn true L) x)) 24 0 (b2n (nxo (opn true L) x))) ad).set 23 (.int (nI (L.length + 1))))))) := m_s23 hW_7 (L.length + 1)
      refine r_heap (G' := va_up (va_up (va_up G (ad 32 22) (some (.inl (.char, 1100, .inl (upd (rg (blS B L) 22 0 1100) L.length (nI (capN (opn true L) x))))))) (ad 31 0) (some (.inr (9, (mF (setA (blS B L) 22 L.length (capN (opn true L) x)) ad).set 24 (.int (nI (b2n (nxo (opn true L) x)))))))) (ad 31 0) (some (.inr (9, (mF (setA (setA (blS B L) 22 L.length (capN (opn true L) x)) 24 0 (b2n (nxo (opn true L) x))) ad).set 23 (.int (nI (L.length + 1))))))) rfl ?_
      refine r_vret dX9_lays_74 rfl ?_
      have hq := hW_8
      rw [blS_lay] at hq
      exact ⟨rfl, hq⟩
  · refine r_iload_n dX9_lays_15 rfl 1 rfl ?_
    refine r_callS (st := [.int (nI (L.length)), .ref (ad 32 22)]) [.int (nI x)] 0 0 dX9_lays_16 kX9_isSmall nX9_isSmall lRX9_96 (c_msm hx) rfl rfl (Nat.le_of_ble_eq_true rfl) (Nat.le_refl _) (Nat.le_refl _) (fun _ _ h => h.elim) ?_
    refine cx_det (st2 := [.int (b2i (smn x)), .int (nI (L.length)), .ref (ad 32 22)]) rfl ?_
    refine r_if_eq 33 dX9_lays_19 (by decide) (fun c_9 => ?_) (fun c_9 => ?_)
    · refine r_iload_n dX9_lays_33 rfl 1 rfl ?_
      refine r_top (nI (capN (opn true L) x)) (by unfold capN; rw [b2i_0 c_9, Bool.and_false]; rfl) ?_
      refine r_cast dX9_lays_34 (hW.g 32 22 rfl) (vp_in_nI (by omega) (by decide)) (isC_nI (Nat.lt_of_le_of_lt (capN_le _ _) hx)) ?_
      have hW_10 : World A (setA (blS B L) 22 L.length (capN (opn true L) x)) ad (va_up G (ad 32 22) (some (.inl (.char, 1100, .inl (upd (rg (blS B L) 22 0 1100) L.length (nI (capN (opn true L) x))))))) := m_a22 hW (by omega)
      refine r_heap (G' := va_up G (ad 32 22) (some (.inl (.char, 1100, .inl (upd (rg (blS B L) 22 0 1100) L.length (nI (capN (opn true L) x))))))) (by rw [nI_cl (by omega)] <;> rfl) ?_
      refine r_aload_n dX9_lays_35 rfl 0 rfl ?_
      refine r_iload_n dX9_lays_36 rfl 1 rfl ?_
      refine r_bipush (v := 46) dX9_lays_37 (by decide) ?_
      refine r_icmp_eq 56 dX9_lays_39 (by decide) (fun c_11 => ?_) (fun c_11 => ?_)
      · have hnx : nxo (opn true L) x = true := by unfold nxo; rw [decide_eq_true (p := x = 46) (ni_eq (b := 46) (by omega) (by decide) c_11)]; rfl
        refine r_iconst (v := nI (b2n (nxo (opn true L) x))) dX9_lays_56 (by rw [hnx]; rfl) ?_
        refine r_goto 61 dX9_lays_57 (by decide) ?_
        refine r_put 24 (.boolean) dX9_lays_61 gRX9_154 (hW_10.g 31 0 rfl) (Nat.le_of_ble_eq_true rfl) (by rw [b2n_i]; exact b2i_Z) (fitZ (by rw [b2n_i]; exact b2i_Z)) ?_
        have hW_12 : World A (setA (setA (blS B L) 22 L.length (capN (opn true L) x)) 24 0 (b2n (nxo (opn true L) x))) ad (va_up (va_up G (ad 32 22) (some (.inl (.char, 1100, .inl (upd (rg (blS B L) 22 0 1100) L.length (nI (capN (opn true L) x))))))) (ad 31 0) (some (.inr (9, (mF (setA (blS B L) 22 L.length (capN (opn true L) x)) ad).set 24 (.int (nI (b2n (nxo (opn true L) x)))))))) := m_s24 hW_10 (b2n (nxo (opn true L) x))
        refine r_heap (G' := va_up (va_up G (ad 32 22) (some (.inl (.char, 1100, .inl (upd (rg (blS B L) 22 0 1100) L.length (nI (capN (opn true L) x))))))) (ad 31 0) (some (.inr (9, (mF (setA (blS B L) 22 L.length (capN (opn true L) x)) ad).set 24 (.int (nI (b2n (nxo (opn true L) x)))))))) rfl ?_
        refine r_aload_n dX9_lays_64 rfl 0 rfl ?_
        refine r_dup dX9_lays_65 rfl ?_
        refine r_get 23 dX9_lays_66 fRX9_151 (hW_12.g 31 0 rfl) rfl ?_
        refine r_top (nI (L.length)) rfl ?_
        refine r_iconst (v := 1) dX9_lays_69 (by decide) ?_
        refine r_iadd dX9_lays_70 ?_
        refine r_top (nI (L.length + 1)) (nI_1 _) ?_
        refine r_put 23 (.int) dX9_lays_71 gRX9_151 (hW_12.g 31 0 rfl) (Nat.le_of_ble_eq_true rfl) rfl rfl ?_
        have hW_13 : World A (setA (setA (setA (blS B L) 22 L.length (capN (opn true L) x)) 24 0 (b2n (nxo (opn true L) x))) 23 0 (L.length + 1)) ad (va_up (va_up (va_up G (ad 32 22) (some (.inl (.char, 1100, .inl (upd (rg (blS B L) 22 0 1100) L.length (nI (capN (opn true L) x))))))) (ad 31 0) (some (.inr (9, (mF (setA (blS B L) 22 L.length (capN (opn true L) x)) ad).set 24 (.int (nI (b2n (nxo (opn true L) x)))))))) (ad 31 0) (some (.inr (9, (mF (setA (setA (blS B L) 22 L.length (capN (opn true L) x)) 24 0 (b2n (nxo (opn true L) x))) ad).set 23 (.int (nI (L.length + 1))))))) := m_s23 hW_12 (L.length + 1)
        refine r_heap (G' := va_up (va_up (va_up G (ad 32 22) (some (.inl (.char, 1100, .inl (upd (rg (blS B L) 22 0 1100) L.length (nI (capN (opn true L) x))))))) (ad 31 0) (some (.inr (9, (mF (setA (blS B L) 22 L.length (capN (opn true L) x)) ad).set 24 (.int (nI (b2n (nxo (opn true L) x)))))))) (ad 31 0) (some (.inr (9, (mF (setA (setA (blS B L) 22 L.length (capN (opn true L) x)) 24 0 (b2n (nxo (opn true L) x))) ad).set 23 (.int (nI (L.length + 1))))))) rfl ?_
        refine r_vret dX9_lays_74 rfl ?_
        have hq := hW_13
        rw [blS_lay] at hq
        exact ⟨rfl, hq⟩
      · refine r_aload_n dX9_lays_42 rfl 0 rfl ?_
        refine r_get 24 dX9_lays_43 fRX9_154 (hW_10.g 31 0 rfl) rfl ?_
        refine r_top (nI (b2n (opn true L))) rfl ?_
        refine r_top (b2i (opn true L)) (b2n_i _) ?_
        refine r_if_eq 60 dX9_lays_46 (by decide) (fun c_14 => absurd c_14 c_1) (fun c_14 => ?_)
        refine r_iload_n dX9_lays_49 rfl 1 rfl ?_
        refine r_callS (st := [.ref (ad 31 0)]) [.int (nI x)] 0 0 dX9_lays_50 kX9_isSmall nX9_isSmall lRX9_96 (c_msm hx) rfl rfl (Nat.le_of_ble_eq_true rfl) (Nat.le_refl _) (Nat.le_refl _) (fun _ _ h => h.elim) ?_
        refine cx_det (st2 := [.int (b2i (smn x)), .ref (ad 31 0)]) rfl ?_
        refine r_if_ne 60 dX9_lays_53 (by decide) (fun c_15 => absurd c_9 c_15) (fun c_15 => ?_)
        have hnx : nxo (opn true L) x = true := by unfold nxo; rw [decide_eq_false (p := x = 46) (ni_ne (b := 46) (by omega) (by decide) c_11), b2i_n0 c_1, b2i_0 c_9]; rfl
        refine r_iconst (v := nI (b2n (nxo (opn true L) x))) dX9_lays_56 (by rw [hnx]; rfl) ?_
        refine r_goto 61 dX9_lays_57 (by decide) ?_
        refine r_put 24 (.boolean) dX9_lays_61 gRX9_154 (hW_10.g 31 0 rfl) (Nat.le_of_ble_eq_true rfl) (by rw [b2n_i]; exact b2i_Z) (fitZ (by rw [b2n_i]; exact b2i_Z)) ?_
        have hW_16 : World A (setA (setA (blS B L) 22 L.length (capN (opn true L) x)) 24 0 (b2n (nxo (opn true L) x))) ad (va_up (va_up G (ad 32 22) (some (.inl (.char, 1100, .inl (upd (rg (blS B L) 22 0 1100) L.length (nI (capN (opn true L) x))))))) (ad 31 0) (some (.inr (9, (mF (setA (blS B L) 22 L.length (capN (opn true L) x)) ad).set 24 (.int (nI (b2n (nxo (opn true L) x)))))))) := m_s24 hW_10 (b2n (nxo (opn true L) x))
        refine r_heap (G' := va_up (va_up G (ad 32 22) (some (.inl (.char, 1100, .inl (upd (rg (blS B L) 22 0 1100) L.length (nI (capN (opn true L) x))))))) (ad 31 0) (some (.inr (9, (mF (setA (blS B L) 22 L.length (capN (opn true L) x)) ad).set 24 (.int (nI (b2n (nxo (opn true L) x)))))))) rfl ?_
        refine r_aload_n dX9_lays_64 rfl 0 rfl ?_
        refine r_dup dX9_lays_65 rfl ?_
        refine r_get 23 dX9_lays_66 fRX9_151 (hW_16.g 31 0 rfl) rfl ?_
        refine r_top (nI (L.length)) rfl ?_
        refine r_iconst (v := 1) dX9_lays_69 (by decide) ?_
        refine r_iadd dX9_lays_70 ?_
        refine r_top (nI (L.length + 1)) (nI_1 _) ?_
        refine r_put 23 (.int) dX9_lays_71 gRX9_151 (hW_16.g 31 0 rfl) (Nat.le_of_ble_eq_true rfl) rfl rfl ?_
        have hW_17 : World A (setA (setA (setA (blS B L) 22 L.length (capN (opn true L) x)) 24 0 (b2n (nxo (opn true L) x))) 23 0 (L.length + 1)) ad (va_up (va_up (va_up G (ad 32 22) (some (.inl (.char, 1100, .inl (upd (rg (blS B L) 22 0 1100) L.length (nI (capN (opn true L) x))))))) (ad 31 0) (some (.inr (9, (mF (setA (blS B L) 22 L.length (capN (opn true L) x)) ad).set 24 (.int (nI (b2n (nxo (opn true L) x)))))))) (ad 31 0) (some (.inr (9, (mF (setA (setA (blS B L) 22 L.length (capN (opn true L) x)) 24 0 (b2n (nxo (opn true L) x))) ad).set 23 (.int (nI (L.length + 1))))))) := m_s23 hW_16 (L.length + 1)
        refine r_heap (G' := va_up (va_up (va_up G (ad 32 22) (some (.inl (.char, 1100, .inl (upd (rg (blS B L) 22 0 1100) L.length (nI (capN (opn true L) x))))))) (ad 31 0) (some (.inr (9, (mF (setA (blS B L) 22 L.length (capN (opn true L) x)) ad).set 24 (.int (nI (b2n (nxo (opn true L) x)))))))) (ad 31 0) (some (.inr (9, (mF (setA (setA (blS B L) 22 L.length (capN (opn true L) x)) 24 0 (b2n (nxo (opn true L) x))) ad).set 23 (.int (nI (L.length + 1))))))) rfl ?_
        refine r_vret dX9_lays_74 rfl ?_
        have hq := hW_17
        rw [blS_lay] at hq
        exact ⟨rfl, hq⟩
    · refine r_iload_n dX9_lays_22 rfl 1 rfl ?_
      refine r_bipush (v := 97) dX9_lays_23 (by decide) ?_
      refine r_isub dX9_lays_25 ?_
      refine r_bipush (v := 65) dX9_lays_26 (by decide) ?_
      refine r_iadd dX9_lays_28 ?_
      have hop : opn true L = true := b2i_n0 c_1
      refine r_i2c (v := nI (capN (opn true L) x)) dX9_lays_29 (by rw [hop]; exact cap_raw hx (b2i_n0 c_9)) ?_
      refine r_goto 34 dX9_lays_30 (by decide) ?_
      refine r_cast dX9_lays_34 (hW.g 32 22 rfl) (vp_in_nI (by omega) (by decide)) (isC_nI (Nat.lt_of_le_of_lt (capN_le _ _) hx)) ?_
      have hW_18 : World A (setA (blS B L) 22 L.length (capN (opn true L) x)) ad (va_up G (ad 32 22) (some (.inl (.char, 1100, .inl (upd (rg (blS B L) 22 0 1100) L.length (nI (capN (opn true L) x))))))) := m_a22 hW (by omega)
      refine r_heap (G' := va_up G (ad 32 22) (some (.inl (.char, 1100, .inl (upd (rg (blS B L) 22 0 1100) L.length (nI (capN (opn true L) x))))))) (by rw [nI_cl (by omega)] <;> rfl) ?_
      refine r_aload_n dX9_lays_35 rfl 0 rfl ?_
      refine r_iload_n dX9_lays_36 rfl 1 rfl ?_
      refine r_bipush (v := 46) dX9_lays_37 (by decide) ?_
      refine r_icmp_eq 56 dX9_lays_39 (by decide) (fun c_19 => ?_) (fun c_19 => ?_)
      · have hnx : nxo (opn true L) x = true := by unfold nxo; rw [decide_eq_true (p := x = 46) (ni_eq (b := 46) (by omega) (by decide) c_19)]; rfl
        refine r_iconst (v := nI (b2n (nxo (opn true L) x))) dX9_lays_56 (by rw [hnx]; rfl) ?_
        refine r_goto 61 dX9_lays_57 (by decide) ?_
        refine r_put 24 (.boolean) dX9_lays_61 gRX9_154 (hW_18.g 31 0 rfl) (Nat.le_of_ble_eq_true rfl) (by rw [b2n_i]; exact b2i_Z) (fitZ (by rw [b2n_i]; exact b2i_Z)) ?_
        have hW_20 : World A (setA (setA (blS B L) 22 L.length (capN (opn true L) x)) 24 0 (b2n (nxo (opn true L) x))) ad (va_up (va_up G (ad 32 22) (some (.inl (.char, 1100, .inl (upd (rg (blS B L) 22 0 1100) L.length (nI (capN (opn true L) x))))))) (ad 31 0) (some (.inr (9, (mF (setA (blS B L) 22 L.length (capN (opn true L) x)) ad).set 24 (.int (nI (b2n (nxo (opn true L) x)))))))) := m_s24 hW_18 (b2n (nxo (opn true L) x))
        refine r_heap (G' := va_up (va_up G (ad 32 22) (some (.inl (.char, 1100, .inl (upd (rg (blS B L) 22 0 1100) L.length (nI (capN (opn true L) x))))))) (ad 31 0) (some (.inr (9, (mF (setA (blS B L) 22 L.length (capN (opn true L) x)) ad).set 24 (.int (nI (b2n (nxo (opn true L) x)))))))) rfl ?_
        refine r_aload_n dX9_lays_64 rfl 0 rfl ?_
        refine r_dup dX9_lays_65 rfl ?_
        refine r_get 23 dX9_lays_66 fRX9_151 (hW_20.g 31 0 rfl) rfl ?_
        refine r_top (nI (L.length)) rfl ?_
        refine r_iconst (v := 1) dX9_lays_69 (by decide) ?_
        refine r_iadd dX9_lays_70 ?_
        refine r_top (nI (L.length + 1)) (nI_1 _) ?_
        refine r_put 23 (.int) dX9_lays_71 gRX9_151 (hW_20.g 31 0 rfl) (Nat.le_of_ble_eq_true rfl) rfl rfl ?_
        have hW_21 : World A (setA (setA (setA (blS B L) 22 L.length (capN (opn true L) x)) 24 0 (b2n (nxo (opn true L) x))) 23 0 (L.length + 1)) ad (va_up (va_up (va_up G (ad 32 22) (some (.inl (.char, 1100, .inl (upd (rg (blS B L) 22 0 1100) L.length (nI (capN (opn true L) x))))))) (ad 31 0) (some (.inr (9, (mF (setA (blS B L) 22 L.length (capN (opn true L) x)) ad).set 24 (.int (nI (b2n (nxo (opn true L) x)))))))) (ad 31 0) (some (.inr (9, (mF (setA (setA (blS B L) 22 L.length (capN (opn true L) x)) 24 0 (b2n (nxo (opn true L) x))) ad).set 23 (.int (nI (L.length + 1))))))) := m_s23 hW_20 (L.length + 1)
        refine r_heap (G' := va_up (va_up (va_up G (ad 32 22) (some (.inl (.char, 1100, .inl (upd (rg (blS B L) 22 0 1100) L.length (nI (capN (opn true L) x))))))) (ad 31 0) (some (.inr (9, (mF (setA (blS B L) 22 L.length (capN (opn true L) x)) ad).set 24 (.int (nI (b2n (nxo (opn true L) x)))))))) (ad 31 0) (some (.inr (9, (mF (setA (setA (blS B L) 22 L.length (capN (opn true L) x)) 24 0 (b2n (nxo (opn true L) x))) ad).set 23 (.int (nI (L.length + 1))))))) rfl ?_
        refine r_vret dX9_lays_74 rfl ?_
        have hq := hW_21
        rw [blS_lay] at hq
        exact ⟨rfl, hq⟩
      · refine r_aload_n dX9_lays_42 rfl 0 rfl ?_
        refine r_get 24 dX9_lays_43 fRX9_154 (hW_18.g 31 0 rfl) rfl ?_
        refine r_top (nI (b2n (opn true L))) rfl ?_
        refine r_top (b2i (opn true L)) (b2n_i _) ?_
        refine r_if_eq 60 dX9_lays_46 (by decide) (fun c_22 => absurd c_22 c_1) (fun c_22 => ?_)
        refine r_iload_n dX9_lays_49 rfl 1 rfl ?_
        refine r_callS (st := [.ref (ad 31 0)]) [.int (nI x)] 0 0 dX9_lays_50 kX9_isSmall nX9_isSmall lRX9_96 (c_msm hx) rfl rfl (Nat.le_of_ble_eq_true rfl) (Nat.le_refl _) (Nat.le_refl _) (fun _ _ h => h.elim) ?_
        refine cx_det (st2 := [.int (b2i (smn x)), .ref (ad 31 0)]) rfl ?_
        refine r_if_ne 60 dX9_lays_53 (by decide) (fun c_23 => ?_) (fun c_23 => absurd c_23 c_9)
        have hnx : nxo (opn true L) x = false := by unfold nxo; rw [decide_eq_false (p := x = 46) (ni_ne (b := 46) (by omega) (by decide) c_19), b2i_n0 c_1, b2i_n0 c_9]; rfl
        refine r_iconst (v := nI (b2n (nxo (opn true L) x))) dX9_lays_60 (by rw [hnx]; rfl) ?_
        refine r_put 24 (.boolean) dX9_lays_61 gRX9_154 (hW_18.g 31 0 rfl) (Nat.le_of_ble_eq_true rfl) (by rw [b2n_i]; exact b2i_Z) (fitZ (by rw [b2n_i]; exact b2i_Z)) ?_
        have hW_24 : World A (setA (setA (blS B L) 22 L.length (capN (opn true L) x)) 24 0 (b2n (nxo (opn true L) x))) ad (va_up (va_up G (ad 32 22) (some (.inl (.char, 1100, .inl (upd (rg (blS B L) 22 0 1100) L.length (nI (capN (opn true L) x))))))) (ad 31 0) (some (.inr (9, (mF (setA (blS B L) 22 L.length (capN (opn true L) x)) ad).set 24 (.int (nI (b2n (nxo (opn true L) x)))))))) := m_s24 hW_18 (b2n (nxo (opn true L) x))
        refine r_heap (G' := va_up (va_up G (ad 32 22) (some (.inl (.char, 1100, .inl (upd (rg (blS B L) 22 0 1100) L.length (nI (capN (opn true L) x))))))) (ad 31 0) (some (.inr (9, (mF (setA (blS B L) 22 L.length (capN (opn true L) x)) ad).set 24 (.int (nI (b2n (nxo (opn true L) x)))))))) rfl ?_
        refine r_aload_n dX9_lays_64 rfl 0 rfl ?_
        refine r_dup dX9_lays_65 rfl ?_
        refine r_get 23 dX9_lays_66 fRX9_151 (hW_24.g 31 0 rfl) rfl ?_
        refine r_top (nI (L.length)) rfl ?_
        refine r_iconst (v := 1) dX9_lays_69 (by decide) ?_
        refine r_iadd dX9_lays_70 ?_
        refine r_top (nI (L.length + 1)) (nI_1 _) ?_
        refine r_put 23 (.int) dX9_lays_71 gRX9_151 (hW_24.g 31 0 rfl) (Nat.le_of_ble_eq_true rfl) rfl rfl ?_
        have hW_25 : World A (setA (setA (setA (blS B L) 22 L.length (capN (opn true L) x)) 24 0 (b2n (nxo (opn true L) x))) 23 0 (L.length + 1)) ad (va_up (va_up (va_up G (ad 32 22) (some (.inl (.char, 1100, .inl (upd (rg (blS B L) 22 0 1100) L.length (nI (capN (opn true L) x))))))) (ad 31 0) (some (.inr (9, (mF (setA (blS B L) 22 L.length (capN (opn true L) x)) ad).set 24 (.int (nI (b2n (nxo (opn true L) x)))))))) (ad 31 0) (some (.inr (9, (mF (setA (setA (blS B L) 22 L.length (capN (opn true L) x)) 24 0 (b2n (nxo (opn true L) x))) ad).set 23 (.int (nI (L.length + 1))))))) := m_s23 hW_24 (L.length + 1)
        refine r_heap (G' := va_up (va_up (va_up G (ad 32 22) (some (.inl (.char, 1100, .inl (upd (rg (blS B L) 22 0 1100) L.length (nI (capN (opn true L) x))))))) (ad 31 0) (some (.inr (9, (mF (setA (blS B L) 22 L.length (capN (opn true L) x)) ad).set 24 (.int (nI (b2n (nxo (opn true L) x)))))))) (ad 31 0) (some (.inr (9, (mF (setA (setA (blS B L) 22 L.length (capN (opn true L) x)) 24 0 (b2n (nxo (opn true L) x))) ad).set 23 (.int (nI (L.length + 1))))))) rfl ?_
        refine r_vret dX9_lays_74 rfl ?_
        have hq := hW_25
        rw [blS_lay] at hq
        exact ⟨rfl, hq⟩
