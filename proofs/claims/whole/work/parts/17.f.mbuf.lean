theorem cx_val {M : MD} {d b0 : Nat} {Po : Option Value → GH → Prop} {Px : String → GH → Prop} {bc bs pc : Nat} {lv : List (Nat × Value)} {st st2 : List Value} {v : Option Value} {Q : GH → Prop} (hst : v.toList ++ st = st2) (k : ∀ G', Q G' → WP M d b0 Po Px G' bc bs pc lv st2) : ∀ (r : Option Value) (G' : GH), (r = v ∧ Q G') → WP M d b0 Po Px G' bc bs pc lv (r.toList ++ st) := by
  intro r G' h
  obtain ⟨rfl, h2⟩ := h
  rw [hst]
  exact k G' h2
theorem ccg {B1 B2 : ST} {g b n : Nat} (h : ∀ f, f < 22 ∨ f = 40 → B1 f = B2 f) : ∀ f, f < 22 ∨ f = 40 → cpyA B1 g b n f = cpyA B2 g b n f := fun f hf => by
  funext k
  unfold cpyA
  rw [h f hf, h 1 (Or.inl (by decide))]
theorem cpyA_z {B : ST} {f b : Nat} : cpyA B f b 0 = B := by
  funext g k
  by_cases h : g = f
  · rw [h, cpyA_out (by omega)]
  · rw [cpyA_f h]
theorem cpyA_s {B : ST} {f b k : Nat} (h : f ≠ 1) : setA (cpyA B f b k) f (b + k) (B 1 k) = cpyA B f b (k + 1) := by
  funext g j
  by_cases e : g = f
  · rw [e]
    by_cases e2 : j = b + k
    · rw [e2, setA_s, cpyA_in (by omega), show b + k - b = k by omega]
    · rw [setA_n e2]
      by_cases e3 : b ≤ j ∧ j < b + k
      · rw [cpyA_in e3, cpyA_in (by omega)]
      · rw [cpyA_out e3, cpyA_out (by omega)]
  · rw [setA_f e, cpyA_f e, cpyA_f e]
def iaB (B : ST) (lo hi k : Nat) : Bool := allB (fun j => smB (rg B 1 0 60 j)) k && (decide (lo ≤ B 0 0) && decide (B 0 0 ≤ hi))
theorem iaB_0 {B : ST} {lo hi : Nat} : iaB B lo hi 0 = (decide (lo ≤ B 0 0) && decide (B 0 0 ≤ hi)) := rfl
theorem iaB_s {B : ST} {lo hi k : Nat} (hk : k < 60) : iaB B lo hi (k + 1) = (iaB B lo hi k && smB (nI (B 1 k))) := by
  unfold iaB
  show ((allB _ k && smB (rg B 1 0 60 k)) && _) = _
  rw [rgm hk]
  cases allB (fun j => smB (rg B 1 0 60 j)) k <;> cases smB (nI (B 1 k)) <;> cases decide (lo ≤ B 0 0) <;> cases decide (B 0 0 ≤ hi) <;> rfl
set_option maxRecDepth 100000 in
set_option maxHeartbeats 4000000 in
theorem lp_X9_isAll {d b0 : Nat} {G : GH} {A B : ST} {ad : AD} (hW : World A B ad G) (hI : Inv B) {lo hi : Nat} (hlo : lo < 2000) (hhi : hi < 2000) {x y : Int32} : ∀ (fu : Nat) (k : Nat), k ≤ B 0 0 → B 0 0 - k < fu → WP mX9_isAll (d + 1) b0 (fun r G' => r = some (.int (b2i (ltB B lo hi))) ∧ G' = G) (fun _ _ => False) G 0 0 25 [(4, .int (nI k)), (3, .int (b2i (iaB B lo hi k))), (0, .ref (ad 31 0)), (1, .int x), (2, .int y)] [] := by
  intro fu
  induction fu with
  | zero => intro k hinv hn; exact absurd hn (Nat.not_lt_zero _)
  | succ fu ih =>
    intro k hinv hn
    have hb0 := hI.b0
    refine r_iload dX9_isAll_25 0 rfl ?_
    refine r_aload_n dX9_isAll_27 rfl 2 rfl ?_
    refine r_get 0 dX9_isAll_28 fRX9_89 (hW.g 31 0 rfl) rfl ?_
    refine r_icmp_ge 63 dX9_isAll_31 (by decide) (fun c_1 => ?_) (fun c_1 => ?_)
    · refine r_iload_n dX9_isAll_63 rfl 1 rfl ?_
      refine r_ret .boolean dX9_isAll_64 rfl b2i_Z ?_
      have hk : k = B 0 0 := by have := ni_le (by omega) (by omega) c_1; omega
      exact ⟨by rw [hk]; rfl, rfl⟩
    · have hk0 : k < B 0 0 := ni_nle (by omega) (by omega) c_1
      have hk : k < 60 := by omega
      refine r_iload_n dX9_isAll_34 rfl 1 rfl ?_
      refine r_if_eq 55 dX9_isAll_35 (by decide) (fun c_2 => ?_) (fun c_2 => ?_)
      · refine r_iconst (v := b2i (iaB B lo hi (k + 1))) dX9_isAll_55 (by rw [iaB_s hk, b2i_0 c_2] <;> rfl) ?_
        refine r_istore_n [(3, .int (b2i (iaB B lo hi (k + 1)))), (4, .int (nI k)), (0, .ref (ad 31 0)), (1, .int x), (2, .int y)] dX9_isAll_56 rfl (by decide) rfl ?_
        refine r_iinc (nI (k + 1)) [(4, .int (nI (k + 1))), (3, .int (b2i (iaB B lo hi (k + 1)))), (0, .ref (ad 31 0)), (1, .int x), (2, .int y)] dX9_isAll_57 1 rfl (nI_1 k) (by decide) rfl ?_
        refine r_goto 25 dX9_isAll_60 (by decide) ?_
        exact WP.loc [0, 1, 2, 3, 4] rfl (ih (k + 1) (by omega) (by omega))
      · refine r_aload_n dX9_isAll_38 rfl 2 rfl ?_
        refine r_get 1 dX9_isAll_39 fRX9_7 (hW.g 31 0 rfl) rfl ?_
        refine r_iload dX9_isAll_42 0 rfl ?_
        refine r_cald dX9_isAll_44 (hW.g 32 1 rfl) (vp_in_nI hk (by decide)) ?_
        refine r_top (nI (B 1 k)) (by rw [nI_cl (by omega)]; exact rgm hk) ?_
        refine r_callS (st := []) [.int (nI (B 1 k))] 0 0 dX9_isAll_45 kX9_isSmall nX9_isSmall lRX9_96 (c_X9_isSmall (nI (B 1 k))) rfl rfl (Nat.le_of_ble_eq_true rfl) (Nat.le_refl _) (Nat.le_refl _) (fun _ _ h => h.elim) ?_
        refine cx_det (st2 := [.int (s_X9_isSmall (nI (B 1 k)))]) rfl ?_
        refine r_if_eq 55 dX9_isAll_48 (by decide) (fun c_4 => ?_) (fun c_4 => ?_)
        · refine r_iconst (v := b2i (iaB B lo hi (k + 1))) dX9_isAll_55 (by rw [iaB_s hk, smB_f (x := nI (B 1 k)) c_4, Bool.and_false] <;> rfl) ?_
          refine r_istore_n [(3, .int (b2i (iaB B lo hi (k + 1)))), (4, .int (nI k)), (0, .ref (ad 31 0)), (1, .int x), (2, .int y)] dX9_isAll_56 rfl (by decide) rfl ?_
          refine r_iinc (nI (k + 1)) [(4, .int (nI (k + 1))), (3, .int (b2i (iaB B lo hi (k + 1)))), (0, .ref (ad 31 0)), (1, .int x), (2, .int y)] dX9_isAll_57 1 rfl (nI_1 k) (by decide) rfl ?_
          refine r_goto 25 dX9_isAll_60 (by decide) ?_
          exact WP.loc [0, 1, 2, 3, 4] rfl (ih (k + 1) (by omega) (by omega))
        · refine r_iconst (v := b2i (iaB B lo hi (k + 1))) dX9_isAll_51 (by rw [iaB_s hk, b2i_n0 c_2, smB_t (x := nI (B 1 k)) c_4] <;> rfl) ?_
          refine r_goto 56 dX9_isAll_52 (by decide) ?_
          refine r_istore_n [(3, .int (b2i (iaB B lo hi (k + 1)))), (4, .int (nI k)), (0, .ref (ad 31 0)), (1, .int x), (2, .int y)] dX9_isAll_56 rfl (by decide) rfl ?_
          refine r_iinc (nI (k + 1)) [(4, .int (nI (k + 1))), (3, .int (b2i (iaB B lo hi (k + 1)))), (0, .ref (ad 31 0)), (1, .int x), (2, .int y)] dX9_isAll_57 1 rfl (nI_1 k) (by decide) rfl ?_
          refine r_goto 25 dX9_isAll_60 (by decide) ?_
          exact WP.loc [0, 1, 2, 3, 4] rfl (ih (k + 1) (by omega) (by omega))
set_option maxRecDepth 100000 in
set_option maxHeartbeats 4000000 in
theorem c_isAll {d b0 : Nat} {G : GH} {A B : ST} {ad : AD} (hW : World A B ad G) (hI : Inv B) {lo hi : Nat} (hlo : lo < 2000) (hhi : hi < 2000) : CTd mX9_isAll (d + 1) b0 G [.ref (ad 31 0), .int (nI lo), .int (nI hi)] 0 0 (some (.int (b2i (ltB B lo hi)))) G := by
  have hb0 := hI.b0
  refine CT.intro (by decide +kernel) rfl (Nat.le_of_ble_eq_true rfl) ?_
  show WP mX9_isAll _ _ _ _ _ 0 0 0 [(0, .ref (ad 31 0)), (1, .int (nI lo)), (2, .int (nI hi))] []
  refine r_aload_n dX9_isAll_0 rfl 0 rfl ?_
  refine r_get 0 dX9_isAll_1 fRX9_89 (hW.g 31 0 rfl) rfl ?_
  refine r_iload_n dX9_isAll_4 rfl 1 rfl ?_
  refine r_icmp_lt 20 dX9_isAll_5 (by decide) (fun c_1 => ?_) (fun c_1 => ?_)
  · refine r_iconst (v := b2i (iaB B lo hi 0)) dX9_isAll_20 (by rw [iaB_0, decide_eq_false (Nat.not_le.mpr (ni_lt (by omega) (by omega) c_1))] <;> rfl) ?_
    refine r_istore_n [(3, .int (b2i (iaB B lo hi 0))), (0, .ref (ad 31 0)), (1, .int (nI lo)), (2, .int (nI hi))] dX9_isAll_21 rfl (by decide) rfl ?_
    refine r_iconst (v := nI 0) dX9_isAll_22 (by decide) ?_
    refine r_istore [(4, .int (nI 0)), (3, .int (b2i (iaB B lo hi 0))), (0, .ref (ad 31 0)), (1, .int (nI lo)), (2, .int (nI hi))] dX9_isAll_23 (by decide) rfl ?_
    exact lp_X9_isAll hW hI hlo hhi _ 0 (Nat.zero_le _) (Nat.lt_succ_self _)
  · refine r_aload_n dX9_isAll_8 rfl 0 rfl ?_
    refine r_get 0 dX9_isAll_9 fRX9_89 (hW.g 31 0 rfl) rfl ?_
    refine r_iload_n dX9_isAll_12 rfl 2 rfl ?_
    refine r_icmp_gt 20 dX9_isAll_13 (by decide) (fun c_4 => ?_) (fun c_4 => ?_)
    · refine r_iconst (v := b2i (iaB B lo hi 0)) dX9_isAll_20 (by rw [iaB_0, decide_eq_true (ni_nlt (by omega) (by omega) c_1), decide_eq_false (Nat.not_le.mpr (ni_lt (by omega) (by omega) c_4))] <;> rfl) ?_
      refine r_istore_n [(3, .int (b2i (iaB B lo hi 0))), (0, .ref (ad 31 0)), (1, .int (nI lo)), (2, .int (nI hi))] dX9_isAll_21 rfl (by decide) rfl ?_
      refine r_iconst (v := nI 0) dX9_isAll_22 (by decide) ?_
      refine r_istore [(4, .int (nI 0)), (3, .int (b2i (iaB B lo hi 0))), (0, .ref (ad 31 0)), (1, .int (nI lo)), (2, .int (nI hi))] dX9_isAll_23 (by decide) rfl ?_
      exact lp_X9_isAll hW hI hlo hhi _ 0 (Nat.zero_le _) (Nat.lt_succ_self _)
    · refine r_iconst (v := b2i (iaB B lo hi 0)) dX9_isAll_16 (by rw [iaB_0, decide_eq_true (ni_nlt (by omega) (by omega) c_1), decide_eq_true (ni_nlt (by omega) (by omega) c_4)] <;> rfl) ?_
      refine r_goto 21 dX9_isAll_17 (by decide) ?_
      refine r_istore_n [(3, .int (b2i (iaB B lo hi 0))), (0, .ref (ad 31 0)), (1, .int (nI lo)), (2, .int (nI hi))] dX9_isAll_21 rfl (by decide) rfl ?_
      refine r_iconst (v := nI 0) dX9_isAll_22 (by decide) ?_
      refine r_istore [(4, .int (nI 0)), (3, .int (b2i (iaB B lo hi 0))), (0, .ref (ad 31 0)), (1, .int (nI lo)), (2, .int (nI hi))] dX9_isAll_23 (by decide) rfl ?_
      exact lp_X9_isAll hW hI hlo hhi _ 0 (Nat.zero_le _) (Nat.lt_succ_self _)
set_option maxRecDepth 100000 in
set_option maxHeartbeats 4000000 in
theorem lp_X9_takes3 {d b0 : Nat} {G : GH} {A B : ST} {ad : AD} (hb0 : B 0 0 ≤ 60) (hC : ∀ k, B 1 k < 65536) {b : Nat} (hb : b + B 0 0 ≤ 120) : ∀ (fu : Nat) (k : Nat) (G2 : GH), k ≤ B 0 0 ∧ World A (cpyA B 3 b k) ad G2 → B 0 0 - k < fu → WP mX9_takes d b0 (fun r G' => r = some (.int (nI (B 0 0))) ∧ World A (setA (cpyA B 3 b (B 0 0)) 0 0 0) ad G') (fun _ _ => False) G2 0 0 2 [(3, .int (nI k)), (0, .ref (ad 31 0)), (1, .ref (ad 32 3)), (2, .int (nI b))] [] := by
  intro fu
  induction fu with
  | zero => intro k G2 hinv hn; exact absurd hn (Nat.not_lt_zero _)
  | succ fu ih =>
    intro k G2 hinv hn
    refine r_iload_n dX9_takes_2 rfl 0 rfl ?_
    refine r_aload_n dX9_takes_3 rfl 1 rfl ?_
    refine r_get 0 dX9_takes_4 fRX9_89 (hinv.2.g 31 0 rfl) rfl ?_
    refine r_top (nI (B 0 0)) rfl ?_
    refine r_icmp_ge 27 dX9_takes_7 (by decide) (fun c_1 => ?_) (fun c_1 => ?_)
    · have hk : k = B 0 0 := by have := ni_le (by omega) (by omega) c_1; omega
      have hq := hinv.2
      rw [hk] at hq
      refine r_aload_n dX9_takes_27 rfl 1 rfl ?_
      refine r_get 0 dX9_takes_28 fRX9_89 (hq.g 31 0 rfl) rfl ?_
      refine r_top (nI (B 0 0)) rfl ?_
      refine r_istore_n [(3, .int (nI (B 0 0))), (0, .ref (ad 31 0)), (1, .ref (ad 32 3)), (2, .int (nI b))] dX9_takes_31 rfl (by decide) rfl ?_
      refine r_aload_n dX9_takes_32 rfl 1 rfl ?_
      refine r_iconst (v := 0) dX9_takes_33 (by decide) ?_
      refine r_put 0 (.int) dX9_takes_34 gRX9_89 (hq.g 31 0 rfl) (Nat.le_of_ble_eq_true rfl) rfl rfl ?_
      have hW_3 : World A (setA (cpyA B 3 b (B 0 0)) 0 0 0) ad (va_up G2 (ad 31 0) (some (.inr (9, (mF (cpyA B 3 b (B 0 0)) ad).set 0 (.int (nI 0)))))) := m_s0 hq 0
      refine r_heap (G' := va_up G2 (ad 31 0) (some (.inr (9, (mF (cpyA B 3 b (B 0 0)) ad).set 0 (.int (nI 0)))))) rfl ?_
      refine r_iload_n dX9_takes_37 rfl 0 rfl ?_
      refine r_ireti dX9_takes_38 rfl ?_
      exact ⟨rfl, hW_3⟩
    · have hk0 : k < B 0 0 := ni_nle (by omega) (by omega) c_1
      have hk : k < 60 := by omega
      refine r_aload_n dX9_takes_10 rfl 2 rfl ?_
      refine r_iload_n dX9_takes_11 rfl 3 rfl ?_
      refine r_iload_n dX9_takes_12 rfl 0 rfl ?_
      refine r_iadd dX9_takes_13 ?_
      refine r_top (nI (b + k)) (nI_add _ _) ?_
      refine r_aload_n dX9_takes_14 rfl 1 rfl ?_
      refine r_get 1 dX9_takes_15 fRX9_7 (hinv.2.g 31 0 rfl) rfl ?_
      refine r_iload_n dX9_takes_18 rfl 0 rfl ?_
      refine r_cald dX9_takes_19 (hinv.2.g 32 1 rfl) (vp_in_nI hk (by decide)) ?_
      refine r_top (nI (B 1 k)) (by rw [nI_cl (by omega)]; exact rgm hk) ?_
      refine r_cast dX9_takes_20 (hinv.2.g 32 3 rfl) (vp_in_nI (by omega) (by decide)) (isC_nI (hC k)) ?_
      have hW_4 : World A (setA (cpyA B 3 b k) 3 (b + k) (B 1 k)) ad (va_up G2 (ad 32 3) (some (.inl (.char, 120, .inl (upd (rg (cpyA B 3 b k) 3 0 120) (b + k) (nI (B 1 k))))))) := m_a3 hinv.2 (by omega)
      refine r_heap (G' := va_up G2 (ad 32 3) (some (.inl (.char, 120, .inl (upd (rg (cpyA B 3 b k) 3 0 120) (b + k) (nI (B 1 k))))))) (by rw [nI_cl (by omega)] <;> rfl) ?_
      refine r_iinc (nI (k + 1)) [(3, .int (nI (k + 1))), (0, .ref (ad 31 0)), (1, .ref (ad 32 3)), (2, .int (nI b))] dX9_takes_21 0 rfl (nI_1 k) (by decide) rfl ?_
      refine r_goto 2 dX9_takes_24 (by decide) ?_
      have hn := hW_4
      rw [cpyA_s (f := 3) (by decide)] at hn
      exact WP.loc [0, 1, 2, 3] rfl (ih (k + 1) _ ⟨by omega, hn⟩ (by omega))
set_option maxRecDepth 100000 in
set_option maxHeartbeats 4000000 in
theorem c_takes3 {d b0 : Nat} {G : GH} {A B : ST} {ad : AD} (hW : World A B ad G) (hb0 : B 0 0 ≤ 60) (hC : ∀ k, B 1 k < 65536) {b : Nat} (hb : b + B 0 0 ≤ 120) : CT mX9_takes d b0 G [.ref (ad 31 0), .ref (ad 32 3), .int (nI b)] 0 0 (fun r G' => r = some (.int (nI (B 0 0))) ∧ World A (setA (cpyA B 3 b (B 0 0)) 0 0 0) ad G') (fun _ _ => False) := by
  refine CT.intro (by decide +kernel) rfl (Nat.le_of_ble_eq_true rfl) ?_
  show WP mX9_takes _ _ _ _ _ 0 0 0 [(0, .ref (ad 31 0)), (1, .ref (ad 32 3)), (2, .int (nI b))] []
  refine r_iconst (v := nI 0) dX9_takes_0 (by decide) ?_
  refine r_istore_n [(3, .int (nI 0)), (0, .ref (ad 31 0)), (1, .ref (ad 32 3)), (2, .int (nI b))] dX9_takes_1 rfl (by decide) rfl ?_
  exact lp_X9_takes3 (G := G) hb0 hC hb _ 0 _ ⟨Nat.zero_le _, by rw [cpyA_z]; exact hW⟩ (Nat.lt_succ_self _)
set_option maxRecDepth 100000 in
set_option maxHeartbeats 4000000 in
theorem lp_X9_takes5 {d b0 : Nat} {G : GH} {A B : ST} {ad : AD} (hb0 : B 0 0 ≤ 60) (hC : ∀ k, B 1 k < 65536) {b : Nat} (hb : b + B 0 0 ≤ 96) : ∀ (fu : Nat) (k : Nat) (G2 : GH), k ≤ B 0 0 ∧ World A (cpyA B 5 b k) ad G2 → B 0 0 - k < fu → WP mX9_takes d b0 (fun r G' => r = some (.int (nI (B 0 0))) ∧ World A (setA (cpyA B 5 b (B 0 0)) 0 0 0) ad G') (fun _ _ => False) G2 0 0 2 [(3, .int (nI k)), (0, .ref (ad 31 0)), (1, .ref (ad 32 5)), (2, .int (nI b))] [] := by
  intro fu
  induction fu with
  | zero => intro k G2 hinv hn; exact absurd hn (Nat.not_lt_zero _)
  | succ fu ih =>
    intro k G2 hinv hn
    refine r_iload_n dX9_takes_2 rfl 0 rfl ?_
    refine r_aload_n dX9_takes_3 rfl 1 rfl ?_
    refine r_get 0 dX9_takes_4 fRX9_89 (hinv.2.g 31 0 rfl) rfl ?_
    refine r_top (nI (B 0 0)) rfl ?_
    refine r_icmp_ge 27 dX9_takes_7 (by decide) (fun c_1 => ?_) (fun c_1 => ?_)
    · have hk : k = B 0 0 := by have := ni_le (by omega) (by omega) c_1; omega
      have hq := hinv.2
      rw [hk] at hq
      refine r_aload_n dX9_takes_27 rfl 1 rfl ?_
      refine r_get 0 dX9_takes_28 fRX9_89 (hq.g 31 0 rfl) rfl ?_
      refine r_top (nI (B 0 0)) rfl ?_
      refine r_istore_n [(3, .int (nI (B 0 0))), (0, .ref (ad 31 0)), (1, .ref (ad 32 5)), (2, .int (nI b))] dX9_takes_31 rfl (by decide) rfl ?_
      refine r_aload_n dX9_takes_32 rfl 1 rfl ?_
      refine r_iconst (v := 0) dX9_takes_33 (by decide) ?_
      refine r_put 0 (.int) dX9_takes_34 gRX9_89 (hq.g 31 0 rfl) (Nat.le_of_ble_eq_true rfl) rfl rfl ?_
      have hW_3 : World A (setA (cpyA B 5 b (B 0 0)) 0 0 0) ad (va_up G2 (ad 31 0) (some (.inr (9, (mF (cpyA B 5 b (B 0 0)) ad).set 0 (.int (nI 0)))))) := m_s0 hq 0
      refine r_heap (G' := va_up G2 (ad 31 0) (some (.inr (9, (mF (cpyA B 5 b (B 0 0)) ad).set 0 (.int (nI 0)))))) rfl ?_
      refine r_iload_n dX9_takes_37 rfl 0 rfl ?_
      refine r_ireti dX9_takes_38 rfl ?_
      exact ⟨rfl, hW_3⟩
    · have hk0 : k < B 0 0 := ni_nle (by omega) (by omega) c_1
      have hk : k < 60 := by omega
      refine r_aload_n dX9_takes_10 rfl 2 rfl ?_
      refine r_iload_n dX9_takes_11 rfl 3 rfl ?_
      refine r_iload_n dX9_takes_12 rfl 0 rfl ?_
      refine r_iadd dX9_takes_13 ?_
      refine r_top (nI (b + k)) (nI_add _ _) ?_
      refine r_aload_n dX9_takes_14 rfl 1 rfl ?_
      refine r_get 1 dX9_takes_15 fRX9_7 (hinv.2.g 31 0 rfl) rfl ?_
      refine r_iload_n dX9_takes_18 rfl 0 rfl ?_
      refine r_cald dX9_takes_19 (hinv.2.g 32 1 rfl) (vp_in_nI hk (by decide)) ?_
      refine r_top (nI (B 1 k)) (by rw [nI_cl (by omega)]; exact rgm hk) ?_
      refine r_cast dX9_takes_20 (hinv.2.g 32 5 rfl) (vp_in_nI (by omega) (by decide)) (isC_nI (hC k)) ?_
      have hW_4 : World A (setA (cpyA B 5 b k) 5 (b + k) (B 1 k)) ad (va_up G2 (ad 32 5) (some (.inl (.char, 96, .inl (upd (rg (cpyA B 5 b k) 5 0 96) (b + k) (nI (B 1 k))))))) := m_a5 hinv.2 (by omega)
      refine r_heap (G' := va_up G2 (ad 32 5) (some (.inl (.char, 96, .inl (upd (rg (cpyA B 5 b k) 5 0 96) (b + k) (nI (B 1 k))))))) (by rw [nI_cl (by omega)] <;> rfl) ?_
      refine r_iinc (nI (k + 1)) [(3, .int (nI (k + 1))), (0, .ref (ad 31 0)), (1, .ref (ad 32 5)), (2, .int (nI b))] dX9_takes_21 0 rfl (nI_1 k) (by decide) rfl ?_
      refine r_goto 2 dX9_takes_24 (by decide) ?_
      have hn := hW_4
      rw [cpyA_s (f := 5) (by decide)] at hn
      exact WP.loc [0, 1, 2, 3] rfl (ih (k + 1) _ ⟨by omega, hn⟩ (by omega))
set_option maxRecDepth 100000 in
set_option maxHeartbeats 4000000 in
theorem c_takes5 {d b0 : Nat} {G : GH} {A B : ST} {ad : AD} (hW : World A B ad G) (hb0 : B 0 0 ≤ 60) (hC : ∀ k, B 1 k < 65536) {b : Nat} (hb : b + B 0 0 ≤ 96) : CT mX9_takes d b0 G [.ref (ad 31 0), .ref (ad 32 5), .int (nI b)] 0 0 (fun r G' => r = some (.int (nI (B 0 0))) ∧ World A (setA (cpyA B 5 b (B 0 0)) 0 0 0) ad G') (fun _ _ => False) := by
  refine CT.intro (by decide +kernel) rfl (Nat.le_of_ble_eq_true rfl) ?_
  show WP mX9_takes _ _ _ _ _ 0 0 0 [(0, .ref (ad 31 0)), (1, .ref (ad 32 5)), (2, .int (nI b))] []
  refine r_iconst (v := nI 0) dX9_takes_0 (by decide) ?_
  refine r_istore_n [(3, .int (nI 0)), (0, .ref (ad 31 0)), (1, .ref (ad 32 5)), (2, .int (nI b))] dX9_takes_1 rfl (by decide) rfl ?_
  exact lp_X9_takes5 (G := G) hb0 hC hb _ 0 _ ⟨Nat.zero_le _, by rw [cpyA_z]; exact hW⟩ (Nat.lt_succ_self _)
set_option maxRecDepth 100000 in
set_option maxHeartbeats 4000000 in
theorem lp_X9_takes7 {d b0 : Nat} {G : GH} {A B : ST} {ad : AD} (hb0 : B 0 0 ≤ 60) (hC : ∀ k, B 1 k < 65536) {b : Nat} (hb : b + B 0 0 ≤ 2880) : ∀ (fu : Nat) (k : Nat) (G2 : GH), k ≤ B 0 0 ∧ World A (cpyA B 7 b k) ad G2 → B 0 0 - k < fu → WP mX9_takes d b0 (fun r G' => r = some (.int (nI (B 0 0))) ∧ World A (setA (cpyA B 7 b (B 0 0)) 0 0 0) ad G') (fun _ _ => False) G2 0 0 2 [(3, .int (nI k)), (0, .ref (ad 31 0)), (1, .ref (ad 32 7)), (2, .int (nI b))] [] := by
  intro fu
  induction fu with
  | zero => intro k G2 hinv hn; exact absurd hn (Nat.not_lt_zero _)
  | succ fu ih =>
    intro k G2 hinv hn
    refine r_iload_n dX9_takes_2 rfl 0 rfl ?_
    refine r_aload_n dX9_takes_3 rfl 1 rfl ?_
    refine r_get 0 dX9_takes_4 fRX9_89 (hinv.2.g 31 0 rfl) rfl ?_
    refine r_top (nI (B 0 0)) rfl ?_
    refine r_icmp_ge 27 dX9_takes_7 (by decide) (fun c_1 => ?_) (fun c_1 => ?_)
    · have hk : k = B 0 0 := by have := ni_le (by omega) (by omega) c_1; omega
      have hq := hinv.2
      rw [hk] at hq
      refine r_aload_n dX9_takes_27 rfl 1 rfl ?_
      refine r_get 0 dX9_takes_28 fRX9_89 (hq.g 31 0 rfl) rfl ?_
      refine r_top (nI (B 0 0)) rfl ?_
      refine r_istore_n [(3, .int (nI (B 0 0))), (0, .ref (ad 31 0)), (1, .ref (ad 32 7)), (2, .int (nI b))] dX9_takes_31 rfl (by decide) rfl ?_
      refine r_aload_n dX9_takes_32 rfl 1 rfl ?_
      refine r_iconst (v := 0) dX9_takes_33 (by decide) ?_
      refine r_put 0 (.int) dX9_takes_34 gRX9_89 (hq.g 31 0 rfl) (Nat.le_of_ble_eq_true rfl) rfl rfl ?_
      have hW_3 : World A (setA (cpyA B 7 b (B 0 0)) 0 0 0) ad (va_up G2 (ad 31 0) (some (.inr (9, (mF (cpyA B 7 b (B 0 0)) ad).set 0 (.int (nI 0)))))) := m_s0 hq 0
      refine r_heap (G' := va_up G2 (ad 31 0) (some (.inr (9, (mF (cpyA B 7 b (B 0 0)) ad).set 0 (.int (nI 0)))))) rfl ?_
      refine r_iload_n dX9_takes_37 rfl 0 rfl ?_
      refine r_ireti dX9_takes_38 rfl ?_
      exact ⟨rfl, hW_3⟩
    · have hk0 : k < B 0 0 := ni_nle (by omega) (by omega) c_1
      have hk : k < 60 := by omega
      refine r_aload_n dX9_takes_10 rfl 2 rfl ?_
      refine r_iload_n dX9_takes_11 rfl 3 rfl ?_
      refine r_iload_n dX9_takes_12 rfl 0 rfl ?_
      refine r_iadd dX9_takes_13 ?_
      refine r_top (nI (b + k)) (nI_add _ _) ?_
      refine r_aload_n dX9_takes_14 rfl 1 rfl ?_
      refine r_get 1 dX9_takes_15 fRX9_7 (hinv.2.g 31 0 rfl) rfl ?_
      refine r_iload_n dX9_takes_18 rfl 0 rfl ?_
      refine r_cald dX9_takes_19 (hinv.2.g 32 1 rfl) (vp_in_nI hk (by decide)) ?_
      refine r_top (nI (B 1 k)) (by rw [nI_cl (by omega)]; exact rgm hk) ?_
      refine r_cast dX9_takes_20 (hinv.2.g 32 7 rfl) (vp_in_nI (by omega) (by decide)) (isC_nI (hC k)) ?_
      have hW_4 : World A (setA (cpyA B 7 b k) 7 (b + k) (B 1 k)) ad (va_up G2 (ad 32 7) (some (.inl (.char, 2880, .inl (upd (rg (cpyA B 7 b k) 7 0 2880) (b + k) (nI (B 1 k))))))) := m_a7 hinv.2 (by omega)
      refine r_heap (G' := va_up G2 (ad 32 7) (some (.inl (.char, 2880, .inl (upd (rg (cpyA B 7 b k) 7 0 2880) (b + k) (nI (B 1 k))))))) (by rw [nI_cl (by omega)] <;> rfl) ?_
      refine r_iinc (nI (k + 1)) [(3, .int (nI (k + 1))), (0, .ref (ad 31 0)), (1, .ref (ad 32 7)), (2, .int (nI b))] dX9_takes_21 0 rfl (nI_1 k) (by decide) rfl ?_
      refine r_goto 2 dX9_takes_24 (by decide) ?_
      have hn := hW_4
      rw [cpyA_s (f := 7) (by decide)] at hn
      exact WP.loc [0, 1, 2, 3] rfl (ih (k + 1) _ ⟨by omega, hn⟩ (by omega))
set_option maxRecDepth 100000 in
set_option maxHeartbeats 4000000 in
theorem c_takes7 {d b0 : Nat} {G : GH} {A B : ST} {ad : AD} (hW : World A B ad G) (hb0 : B 0 0 ≤ 60) (hC : ∀ k, B 1 k < 65536) {b : Nat} (hb : b + B 0 0 ≤ 2880) : CT mX9_takes d b0 G [.ref (ad 31 0), .ref (ad 32 7), .int (nI b)] 0 0 (fun r G' => r = some (.int (nI (B 0 0))) ∧ World A (setA (cpyA B 7 b (B 0 0)) 0 0 0) ad G') (fun _ _ => False) := by
  refine CT.intro (by decide +kernel) rfl (Nat.le_of_ble_eq_true rfl) ?_
  show WP mX9_takes _ _ _ _ _ 0 0 0 [(0, .ref (ad 31 0)), (1, .ref (ad 32 7)), (2, .int (nI b))] []
  refine r_iconst (v := nI 0) dX9_takes_0 (by decide) ?_
  refine r_istore_n [(3, .int (nI 0)), (0, .ref (ad 31 0)), (1, .ref (ad 32 7)), (2, .int (nI b))] dX9_takes_1 rfl (by decide) rfl ?_
  exact lp_X9_takes7 (G := G) hb0 hC hb _ 0 _ ⟨Nat.zero_le _, by rw [cpyA_z]; exact hW⟩ (Nat.lt_succ_self _)
set_option maxRecDepth 100000 in
set_option maxHeartbeats 4000000 in
theorem lp_X9_takes11 {d b0 : Nat} {G : GH} {A B : ST} {ad : AD} (hb0 : B 0 0 ≤ 60) (hC : ∀ k, B 1 k < 65536) {b : Nat} (hb : b + B 0 0 ≤ 1800) : ∀ (fu : Nat) (k : Nat) (G2 : GH), k ≤ B 0 0 ∧ World A (cpyA B 11 b k) ad G2 → B 0 0 - k < fu → WP mX9_takes d b0 (fun r G' => r = some (.int (nI (B 0 0))) ∧ World A (setA (cpyA B 11 b (B 0 0)) 0 0 0) ad G') (fun _ _ => False) G2 0 0 2 [(3, .int (nI k)), (0, .ref (ad 31 0)), (1, .ref (ad 32 11)), (2, .int (nI b))] [] := by
  intro fu
  induction fu with
  | zero => intro k G2 hinv hn; exact absurd hn (Nat.not_lt_zero _)
  | succ fu ih =>
    intro k G2 hinv hn
    refine r_iload_n dX9_takes_2 rfl 0 rfl ?_
    refine r_aload_n dX9_takes_3 rfl 1 rfl ?_
    refine r_get 0 dX9_takes_4 fRX9_89 (hinv.2.g 31 0 rfl) rfl ?_
    refine r_top (nI (B 0 0)) rfl ?_
    refine r_icmp_ge 27 dX9_takes_7 (by decide) (fun c_1 => ?_) (fun c_1 => ?_)
    · have hk : k = B 0 0 := by have := ni_le (by omega) (by omega) c_1; omega
      have hq := hinv.2
      rw [hk] at hq
      refine r_aload_n dX9_takes_27 rfl 1 rfl ?_
      refine r_get 0 dX9_takes_28 fRX9_89 (hq.g 31 0 rfl) rfl ?_
      refine r_top (nI (B 0 0)) rfl ?_
      refine r_istore_n [(3, .int (nI (B 0 0))), (0, .ref (ad 31 0)), (1, .ref (ad 32 11)), (2, .int (nI b))] dX9_takes_31 rfl (by decide) rfl ?_
      refine r_aload_n dX9_takes_32 rfl 1 rfl ?_
      refine r_iconst (v := 0) dX9_takes_33 (by decide) ?_
      refine r_put 0 (.int) dX9_takes_34 gRX9_89 (hq.g 31 0 rfl) (Nat.le_of_ble_eq_true rfl) rfl rfl ?_
      have hW_3 : World A (setA (cpyA B 11 b (B 0 0)) 0 0 0) ad (va_up G2 (ad 31 0) (some (.inr (9, (mF (cpyA B 11 b (B 0 0)) ad).set 0 (.int (nI 0)))))) := m_s0 hq 0
      refine r_heap (G' := va_up G2 (ad 31 0) (some (.inr (9, (mF (cpyA B 11 b (B 0 0)) ad).set 0 (.int (nI 0)))))) rfl ?_
      refine r_iload_n dX9_takes_37 rfl 0 rfl ?_
      refine r_ireti dX9_takes_38 rfl ?_
      exact ⟨rfl, hW_3⟩
    · have hk0 : k < B 0 0 := ni_nle (by omega) (by omega) c_1
      have hk : k < 60 := by omega
      refine r_aload_n dX9_takes_10 rfl 2 rfl ?_
      refine r_iload_n dX9_takes_11 rfl 3 rfl ?_
      refine r_iload_n dX9_takes_12 rfl 0 rfl ?_
      refine r_iadd dX9_takes_13 ?_
      refine r_top (nI (b + k)) (nI_add _ _) ?_
      refine r_aload_n dX9_takes_14 rfl 1 rfl ?_
      refine r_get 1 dX9_takes_15 fRX9_7 (hinv.2.g 31 0 rfl) rfl ?_
      refine r_iload_n dX9_takes_18 rfl 0 rfl ?_
      refine r_cald dX9_takes_19 (hinv.2.g 32 1 rfl) (vp_in_nI hk (by decide)) ?_
      refine r_top (nI (B 1 k)) (by rw [nI_cl (by omega)]; exact rgm hk) ?_
      refine r_cast dX9_takes_20 (hinv.2.g 32 11 rfl) (vp_in_nI (by omega) (by decide)) (isC_nI (hC k)) ?_
      have hW_4 : World A (setA (cpyA B 11 b k) 11 (b + k) (B 1 k)) ad (va_up G2 (ad 32 11) (some (.inl (.char, 1800, .inl (upd (rg (cpyA B 11 b k) 11 0 1800) (b + k) (nI (B 1 k))))))) := m_a11 hinv.2 (by omega)
      refine r_heap (G' := va_up G2 (ad 32 11) (some (.inl (.char, 1800, .inl (upd (rg (cpyA B 11 b k) 11 0 1800) (b + k) (nI (B 1 k))))))) (by rw [nI_cl (by omega)] <;> rfl) ?_
      refine r_iinc (nI (k + 1)) [(3, .int (nI (k + 1))), (0, .ref (ad 31 0)), (1, .ref (ad 32 11)), (2, .int (nI b))] dX9_takes_21 0 rfl (nI_1 k) (by decide) rfl ?_
      refine r_goto 2 dX9_takes_24 (by decide) ?_
      have hn := hW_4
      rw [cpyA_s (f := 11) (by decide)] at hn
      exact WP.loc [0, 1, 2, 3] rfl (ih (k + 1) _ ⟨by omega, hn⟩ (by omega))
set_option maxRecDepth 100000 in
set_option maxHeartbeats 4000000 in
theorem c_takes11 {d b0 : Nat} {G : GH} {A B : ST} {ad : AD} (hW : World A B ad G) (hb0 : B 0 0 ≤ 60) (hC : ∀ k, B 1 k < 65536) {b : Nat} (hb : b + B 0 0 ≤ 1800) : CT mX9_takes d b0 G [.ref (ad 31 0), .ref (ad 32 11), .int (nI b)] 0 0 (fun r G' => r = some (.int (nI (B 0 0))) ∧ World A (setA (cpyA B 11 b (B 0 0)) 0 0 0) ad G') (fun _ _ => False) := by
  refine CT.intro (by decide +kernel) rfl (Nat.le_of_ble_eq_true rfl) ?_
  show WP mX9_takes _ _ _ _ _ 0 0 0 [(0, .ref (ad 31 0)), (1, .ref (ad 32 11)), (2, .int (nI b))] []
  refine r_iconst (v := nI 0) dX9_takes_0 (by decide) ?_
  refine r_istore_n [(3, .int (nI 0)), (0, .ref (ad 31 0)), (1, .ref (ad 32 11)), (2, .int (nI b))] dX9_takes_1 rfl (by decide) rfl ?_
  exact lp_X9_takes11 (G := G) hb0 hC hb _ 0 _ ⟨Nat.zero_le _, by rw [cpyA_z]; exact hW⟩ (Nat.lt_succ_self _)
theorem li_ne {c k : Nat} (hc : c < 65536) (hk : k < 65536) (h : c ≠ k) : ¬ nI c = nI k := fun q => h (ni_eq (by omega) (by omega) q)
theorem li_lt {c k : Nat} (hc : c < 65536) (hk : k < 65536) (h : c < k) : nI c < nI k := (nI_ltI (by omega) (by omega)).mpr h
theorem li_nlt {c k : Nat} (hc : c < 65536) (hk : k < 65536) (h : k ≤ c) : ¬ nI c < nI k := fun q => Nat.not_lt.mpr h ((nI_ltI (by omega) (by omega)).mp q)
theorem li_le {c k : Nat} (hc : c < 65536) (hk : k < 65536) (h : c ≤ k) : nI c ≤ nI k := (nI_leI (by omega) (by omega)).mpr h
theorem li_nle {c k : Nat} (hc : c < 65536) (hk : k < 65536) (h : k < c) : ¬ nI c ≤ nI k := fun q => Nat.not_le.mpr h ((nI_leI (by omega) (by omega)).mp q)
def bhv (n : Nat) : Int32 := if n = 5 then -1 else nI n
theorem nxt_3 {w c : Nat} (hw : w ≤ 4) (hc : c < 65536) : cnx w (nI c) = nxt w c ∧ s_X9_behind (nI w) (nI c) = bhv (nxt w c) := by
  have hs8 : s_X8_isSmall (nI c) = b2i (smn c) := sm_n hc
  have hs9 : s_X9_isSmall (nI c) = b2i (smn c) := sm_n hc
  have hcase : w = 0 ∨ w = 1 ∨ w = 2 ∨ w = 3 ∨ w = 4 := by omega
  rcases hcase with e | e | e | e | e <;> rw [e]
  · by_cases c1 : c = 91
    · rw [c1]; decide +kernel
    by_cases c2 : c = 32
    · rw [c2]; decide +kernel
    by_cases c3 : c = 46
    · rw [c3]; decide +kernel
    have d1 : ¬ nI c = 91 := li_ne hc (k := 91) (by decide) c1
    have d2 : ¬ nI c = 32 := li_ne hc (k := 32) (by decide) c2
    have d3 : ¬ nI c = 46 := li_ne hc (k := 46) (by decide) c3
    by_cases c4 : 97 ≤ c ∧ c ≤ 122
    · have e1 : smn c = true := decide_eq_true c4
      rw [e1] at hs8 hs9
      have n1 : nxt 0 c = 0 := by unfold nxt; rw [if_pos rfl, if_neg c1, if_pos (Or.inl c4)]
      rw [n1]
      refine ⟨?_, ?_⟩
      · unfold cnx s_X8_canStand
        rw [hs8, if_pos (show nI 0 = 0 by decide), if_neg (show ¬ b2i true = 0 by decide), if_neg (show ¬ (1 : Int32) = 0 by decide), decide_eq_false d1]; rfl
      · unfold s_X9_behind
        rw [hs9, if_pos (show nI 0 = 0 by decide), if_neg (show ¬ b2i true = 0 by decide), if_neg d1]; decide +kernel
    · have e1 : smn c = false := decide_eq_false c4
      rw [e1] at hs8 hs9
      have n1 : nxt 0 c = 5 := by unfold nxt; rw [if_pos rfl, if_neg c1, if_neg (fun q => by rcases q with q | q | q; exact c4 q; exact c2 q; exact c3 q)]
      rw [n1]
      refine ⟨?_, ?_⟩
      · unfold cnx s_X8_canStand
        rw [hs8, if_pos (show nI 0 = 0 by decide), if_pos (show b2i false = 0 by decide), if_neg d2, if_neg d3, if_neg d1, if_pos rfl]
      · unfold s_X9_behind
        rw [hs9, if_pos (show nI 0 = 0 by decide), if_pos (show b2i false = 0 by decide), if_neg d2, if_neg d3, if_neg d1]; decide +kernel
  · by_cases c1 : 48 ≤ c ∧ c ≤ 52
    · have h5 : c = 48 ∨ c = 49 ∨ c = 50 ∨ c = 51 ∨ c = 52 := by omega
      rcases h5 with q | q | q | q | q <;> rw [q] <;> decide +kernel
    · have n1 : nxt 1 c = 5 := by unfold nxt; rw [if_neg (by decide), if_pos rfl, if_neg c1]
      rw [n1]
      have hsl : s_X8_slotOf (nI c) = -1 := by
        unfold s_X8_slotOf
        by_cases q : c < 48
        · rw [if_pos (show nI c < 48 from li_lt hc (k := 48) (by decide) q)]
        · rw [if_neg (show ¬ nI c < 48 from li_nlt hc (k := 48) (by decide) (by omega)), if_pos (show (53 : Int32) ≤ nI c from li_le (c := 53) (by decide) hc (by omega))]
      refine ⟨?_, ?_⟩
      · unfold cnx s_X8_canStand
        rw [hsl]; rfl
      · unfold s_X9_behind
        rw [if_neg (show ¬ nI 1 = 0 by decide), if_pos (show nI 1 = 1 by decide)]
        by_cases q : c < 48
        · rw [if_pos (show nI c < 48 from li_lt hc (k := 48) (by decide) q)]; decide +kernel
        · rw [if_neg (show ¬ nI c < 48 from li_nlt hc (k := 48) (by decide) (by omega)), if_pos (show (53 : Int32) ≤ nI c from li_le (c := 53) (by decide) hc (by omega))]; decide +kernel
  · by_cases c1 : c = 110 ∨ c = 103 ∨ c = 100 ∨ c = 97
    · rcases c1 with q | q | q | q <;> rw [q] <;> decide +kernel
    · have n1 : nxt 2 c = 5 := by unfold nxt; rw [if_neg (by decide), if_neg (by decide), if_pos rfl, if_neg c1]
      rw [n1]
      have d1 : ¬ nI c = 110 := li_ne hc (k := 110) (by decide) (by omega)
      have d2 : ¬ nI c = 103 := li_ne hc (k := 103) (by decide) (by omega)
      have d3 : ¬ nI c = 100 := li_ne hc (k := 100) (by decide) (by omega)
      have d4 : ¬ nI c = 97 := li_ne hc (k := 97) (by decide) (by omega)
      have hsl : s_X8_caseOf (nI c) = -1 := by unfold s_X8_caseOf; rw [if_neg d1, if_neg d2, if_neg d3, if_neg d4]
      have hs2 : s_X9_isCase (nI c) = 0 := by unfold s_X9_isCase; rw [if_neg d1, if_neg d2, if_neg d3, if_neg d4]
      refine ⟨?_, ?_⟩
      · unfold cnx s_X8_canStand
        rw [hsl]; rfl
      · unfold s_X9_behind
        rw [hs2]; rfl
  · by_cases c1 : c = 115 ∨ c = 112
    · rcases c1 with q | q <;> rw [q] <;> decide +kernel
    · have n1 : nxt 3 c = 5 := by unfold nxt; rw [if_neg (by decide), if_neg (by decide), if_neg (by decide), if_pos rfl, if_neg c1]
      rw [n1]
      have d1 : ¬ nI c = 115 := li_ne hc (k := 115) (by decide) (by omega)
      have d2 : ¬ nI c = 112 := li_ne hc (k := 112) (by decide) (by omega)
      have hsl : s_X8_numberOf (nI c) = -1 := by unfold s_X8_numberOf; rw [if_neg d1, if_neg d2]
      refine ⟨?_, ?_⟩
      · unfold cnx s_X8_canStand
        rw [hsl]; rfl
      · unfold s_X9_behind
        rw [if_neg (show ¬ nI 3 = 0 by decide), if_neg (show ¬ nI 3 = 1 by decide), if_neg (show ¬ nI 3 = 2 by decide), if_pos (show nI 3 = 3 by decide), if_neg d1, if_neg d2]; rfl
  · by_cases c1 : c = 93
    · rw [c1]; decide +kernel
    · have n1 : nxt 4 c = 5 := by unfold nxt; rw [if_neg (by decide), if_neg (by decide), if_neg (by decide), if_neg (by decide), if_pos rfl, if_neg c1]
      rw [n1]
      have d1 : ¬ nI c = 93 := li_ne hc (k := 93) (by decide) c1
      refine ⟨?_, ?_⟩
      · unfold cnx s_X8_canStand
        rw [if_neg (show ¬ nI 4 = 0 by decide), if_neg (show ¬ nI 4 = 1 by decide), if_neg (show ¬ nI 4 = 2 by decide), if_neg (show ¬ nI 4 = 3 by decide), if_neg d1, if_pos rfl]
      · unfold s_X9_behind
        rw [if_neg (show ¬ nI 4 = 0 by decide), if_neg (show ¬ nI 4 = 1 by decide), if_neg (show ¬ nI 4 = 2 by decide), if_neg (show ¬ nI 4 = 3 by decide), if_neg d1]; rfl
theorem cw_pw {B : ST} (hC : ∀ k, B 1 k < 65536) : ∀ n, n ≤ 60 → cw (rg B 1 0 60) n = pw (B 1) n
  | 0, _ => rfl
  | n + 1, hn => by
    have ih := cw_pw hC n (by omega)
    have h5 : pw (B 1) n ≤ 5 := by rw [← ih]; exact cw_le _ _
    show (if cw (rg B 1 0 60) n = 5 then 5 else cnx (cw (rg B 1 0 60) n) (rg B 1 0 60 n)) = nxt (pw (B 1) n) (B 1 n)
    rw [ih, rgm (by omega)]
    by_cases e : pw (B 1) n = 5
    · rw [if_pos e, e]; rfl
    · rw [if_neg e, (nxt_3 (by omega) (hC n)).1]
theorem c_beh {d b0 : Nat} {G : GH} {w c : Nat} (hw : w ≤ 4) (hc : c < 65536) : CTd mX9_behind (d + 1) b0 G [.int (nI w), .int (nI c)] 0 0 (some (.int (bhv (nxt w c)))) G := by
  have h := c_X9_behind (d := d) (b0 := b0) (G := G) (nI w) (nI c)
  rw [(nxt_3 hw hc).2] at h
  exact h
set_option maxRecDepth 100000 in
set_option maxHeartbeats 4000000 in
theorem lp_X9_faultOfBuffer {d b0 : Nat} {G : GH} {A B : ST} {ad : AD} (hW : World A B ad G) (hI : Inv B) : ∀ (fu : Nat) (k : Nat), k ≤ B 0 0 ∧ pw (B 1) k ≤ 4 ∧ ffI (rg B 1 0 60) (B 0 0) (B 0 0 - k) = ffS (rg B 1 0 60) (B 0 0) → B 0 0 - k < fu → WP mX9_faultOfBuffer (d + 2) b0 (fun r G' => r = some (.int (ffS (rg B 1 0 60) (B 0 0))) ∧ G' = G) (fun _ _ => False) G 0 0 4 [(2, .int (nI k)), (1, .int (nI (pw (B 1) k))), (0, .ref (ad 31 0))] [] := by
  intro fu
  induction fu with
  | zero => intro k hinv hn; exact absurd hn (Nat.not_lt_zero _)
  | succ fu ih =>
    intro k hinv hn
    have hb0 := hI.b0
    refine r_iload_n dX9_faultOfBuffer_4 rfl 0 rfl ?_
    refine r_aload_n dX9_faultOfBuffer_5 rfl 2 rfl ?_
    refine r_get 0 dX9_faultOfBuffer_6 fRX9_89 (hW.g 31 0 rfl) rfl ?_
    refine r_icmp_ge 36 dX9_faultOfBuffer_9 (by decide) (fun c_1 => ?_) (fun c_1 => ?_)
    · have hk : k = B 0 0 := by have := ni_le (by omega) (by omega) c_1; omega
      have e9 : ffS (rg B 1 0 60) (B 0 0) = (if B 0 0 = 0 then nI 0 else if pw (B 1) (B 0 0) = 0 then -1 else nI (B 0 0)) := by rw [← hinv.2.2, hk, Nat.sub_self, ← cw_pw hI.ch.1 (B 0 0) (by omega)]; rfl
      refine r_aload_n dX9_faultOfBuffer_36 rfl 2 rfl ?_
      refine r_get 0 dX9_faultOfBuffer_37 fRX9_89 (hW.g 31 0 rfl) rfl ?_
      refine r_if_ne 47 dX9_faultOfBuffer_40 (by decide) (fun c_2 => ?_) (fun c_2 => ?_)
      · refine r_iload_n dX9_faultOfBuffer_47 rfl 1 rfl ?_
        refine r_if_ne 55 dX9_faultOfBuffer_48 (by decide) (fun c_3 => ?_) (fun c_3 => ?_)
        · refine r_aload_n dX9_faultOfBuffer_55 rfl 2 rfl ?_
          refine r_get 0 dX9_faultOfBuffer_56 fRX9_89 (hW.g 31 0 rfl) rfl ?_
          refine r_ireti dX9_faultOfBuffer_59 rfl ?_
          have hl0 : B 0 0 ≠ 0 := ni_ne (b := 0) (by omega) (by decide) c_2
          have hw0 : pw (B 1) (B 0 0) ≠ 0 := by rw [← hk]; exact ni_ne (b := 0) (by omega) (by decide) c_3
          exact ⟨by rw [e9, if_neg hl0, if_neg hw0], rfl⟩
        · refine r_iconst (v := (-1)) dX9_faultOfBuffer_51 (by decide) ?_
          refine r_goto 59 dX9_faultOfBuffer_52 (by decide) ?_
          refine r_ireti dX9_faultOfBuffer_59 rfl ?_
          have hl0 : B 0 0 ≠ 0 := ni_ne (b := 0) (by omega) (by decide) c_2
          have hw0 : pw (B 1) (B 0 0) = 0 := by rw [← hk]; exact ni_eq (b := 0) (by omega) (by decide) c_3
          exact ⟨by rw [e9, if_neg hl0, if_pos hw0], rfl⟩
      · refine r_iconst (v := 0) dX9_faultOfBuffer_43 (by decide) ?_
        refine r_goto 59 dX9_faultOfBuffer_44 (by decide) ?_
        refine r_ireti dX9_faultOfBuffer_59 rfl ?_
        have hl0 : B 0 0 = 0 := ni_eq (b := 0) (by omega) (by decide) c_2
        exact ⟨by rw [e9, if_pos hl0]; rfl, rfl⟩
    · have hk0 : k < B 0 0 := ni_nle (by omega) (by omega) c_1
      have hk : k < 60 := by omega
      have es : ffI (rg B 1 0 60) (B 0 0) (B 0 0 - k) = (if pw (B 1) (k + 1) = 5 then nI k else ffI (rg B 1 0 60) (B 0 0) (B 0 0 - (k + 1))) := by
        have e9 : B 0 0 - k = (B 0 0 - (k + 1)) + 1 := by omega
        rw [e9]
        show (if cw (rg B 1 0 60) (B 0 0 - (B 0 0 - (k + 1))) = 5 then nI (B 0 0 - (B 0 0 - (k + 1) + 1)) else ffI (rg B 1 0 60) (B 0 0) (B 0 0 - (k + 1))) = _
        rw [show B 0 0 - (B 0 0 - (k + 1)) = k + 1 by omega, show B 0 0 - (B 0 0 - (k + 1) + 1) = k by omega, cw_pw hI.ch.1 (k + 1) (by omega)]
      have h5 : pw (B 1) (k + 1) ≤ 5 := by rw [← cw_pw hI.ch.1 (k + 1) (by omega)]; exact cw_le _ _
      refine r_iload_n dX9_faultOfBuffer_12 rfl 1 rfl ?_
      refine r_aload_n dX9_faultOfBuffer_13 rfl 2 rfl ?_
      refine r_get 1 dX9_faultOfBuffer_14 fRX9_7 (hW.g 31 0 rfl) rfl ?_
      refine r_iload_n dX9_faultOfBuffer_17 rfl 0 rfl ?_
      refine r_cald dX9_faultOfBuffer_18 (hW.g 32 1 rfl) (vp_in_nI hk (by decide)) ?_
      refine r_top (nI (B 1 k)) (by rw [nI_cl (by omega)]; exact rgm hk) ?_
      refine r_callS (st := []) [.int (nI (pw (B 1) k)), .int (nI (B 1 k))] 0 0 dX9_faultOfBuffer_19 kX9_behind nX9_behind lRX9_117 (c_beh (w := pw (B 1) k) (c := B 1 k) hinv.2.1 (hI.ch.1 k)) rfl rfl (Nat.le_of_ble_eq_true rfl) (Nat.le_refl _) (Nat.le_refl _) (fun _ _ h => h.elim) ?_
      refine cx_det (st2 := [.int (bhv (pw (B 1) (k + 1)))]) rfl ?_
      refine r_istore_n [(1, .int (bhv (pw (B 1) (k + 1)))), (2, .int (nI k)), (0, .ref (ad 31 0))] dX9_faultOfBuffer_22 rfl (by decide) rfl ?_
      refine r_iload_n dX9_faultOfBuffer_23 rfl 0 rfl ?_
      refine r_iconst (v := (-1)) dX9_faultOfBuffer_24 (by decide) ?_
      refine r_icmp_ne 30 dX9_faultOfBuffer_25 (by decide) (fun c_5 => ?_) (fun c_5 => ?_)
      · have e5 : pw (B 1) (k + 1) ≠ 5 := fun q => c_5 (by rw [q]; rfl)
        have eb : bhv (pw (B 1) (k + 1)) = nI (pw (B 1) (k + 1)) := by unfold bhv; rw [if_neg e5]
        refine r_iinc (nI (k + 1)) [(2, .int (nI (k + 1))), (1, .int (bhv (pw (B 1) (k + 1)))), (0, .ref (ad 31 0))] dX9_faultOfBuffer_30 1 rfl (nI_1 k) (by decide) rfl ?_
        refine r_goto 4 dX9_faultOfBuffer_33 (by decide) ?_
        have hh := ih (k + 1) ⟨by omega, by omega, by rw [← hinv.2.2, es, if_neg e5]⟩ (by omega)
        rw [← eb] at hh
        exact WP.loc [0, 1, 2] rfl hh
      · refine r_iload_n dX9_faultOfBuffer_28 rfl 1 rfl ?_
        refine r_ireti dX9_faultOfBuffer_29 rfl ?_
        have e5 : pw (B 1) (k + 1) = 5 := by
          rcases Nat.lt_or_ge (pw (B 1) (k + 1)) 5 with q | q
          · exfalso
            have h9 := c_5
            unfold bhv at h9
            rw [if_neg (by omega)] at h9
            exact nI_nm1 (by omega) h9
          · omega
        exact ⟨by rw [← hinv.2.2, es, if_pos e5], rfl⟩
set_option maxRecDepth 100000 in
set_option maxHeartbeats 4000000 in
theorem c_faultB {d b0 : Nat} {G : GH} {A B : ST} {ad : AD} (hW : World A B ad G) (hI : Inv B) : CTd mX9_faultOfBuffer (d + 2) b0 G [.ref (ad 31 0)] 0 0 (some (.int (ffS (rg B 1 0 60) (B 0 0)))) G := by
  refine CT.intro (by decide +kernel) rfl (Nat.le_of_ble_eq_true rfl) ?_
  show WP mX9_faultOfBuffer _ _ _ _ _ 0 0 0 [(0, .ref (ad 31 0))] []
  refine r_iconst (v := nI (pw (B 1) 0)) dX9_faultOfBuffer_0 (by first | rfl | decide) ?_
  refine r_istore_n [(1, .int (nI (pw (B 1) 0))), (0, .ref (ad 31 0))] dX9_faultOfBuffer_1 rfl (by decide) rfl ?_
  refine r_iconst (v := nI 0) dX9_faultOfBuffer_2 (by decide) ?_
  refine r_istore_n [(2, .int (nI 0)), (1, .int (nI (pw (B 1) 0))), (0, .ref (ad 31 0))] dX9_faultOfBuffer_3 rfl (by decide) rfl ?_
  exact lp_X9_faultOfBuffer hW hI _ 0 ⟨Nat.zero_le _, Nat.zero_le _, rfl⟩ (Nat.lt_succ_self _)
