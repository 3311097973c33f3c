theorem setA_cm {A : ST} {f j v g k w : Nat} (h : f ≠ g) : setA (setA A f j v) g k w = setA (setA A g k w) f j v := by
  funext x y
  by_cases h1 : x = g
  · rw [h1, setA_f (A := setA A g k w) (f := f) (g := g) (Ne.symm h)]
    by_cases h2 : y = k
    · rw [h2, setA_s, setA_s]
    · rw [setA_n h2, setA_n h2, setA_f (Ne.symm h)]
  · rw [setA_f h1]
    by_cases h3 : x = f
    · rw [h3]
      by_cases h2 : y = j
      · rw [h2, setA_s, setA_s]
      · rw [setA_n h2, setA_n h2, setA_f h]
    · rw [setA_f h3, setA_f h3, setA_f h1]
theorem fld26 {B : ST} {v f : Nat} (h : f ≠ 26) : (setA B 26 0 v) f = B f := by funext k; exact setA_f h
theorem s26 {B1 B2 : ST} {v : Nat} (h : ∀ f, f < 22 ∨ f = 40 → B1 f = B2 f) : ∀ f, f < 22 ∨ f = 40 → setA B1 26 0 v f = B2 f := fun f hf => by
  funext k
  rw [setA_f (by omega), h f hf]
theorem scg {B1 B2 : ST} {g j v : Nat} (h : ∀ f, f < 22 ∨ f = 40 → B1 f = B2 f) : ∀ f, f < 22 ∨ f = 40 → setA B1 g j v f = setA B2 g j v f := fun f hf => by
  funext k
  unfold setA
  rw [h f hf]
set_option maxRecDepth 100000 in
set_option maxHeartbeats 4000000 in
theorem m_type_0 {d b0 : Nat} {G : GH} {A B : ST} {ad : AD} (hW : World A B ad G) (hI : Inv B) {c : Nat} (hc : c < 65536) (hlt : B 0 0 < 60) : CT mX9_type (d + 4) b0 G [.ref (ad 31 0), .int (nI c)] 0 0 (MPo (nI (B 0 0 + 1)) 0 (setA (setA B 1 (B 0 0) c) 0 0 (B 0 0 + 1)) A ad) (fun _ _ => False) := by
  have hb0 := hI.b0
  have hb2 := hI.b2
  have hb9 := hI.b9
  have hb15 := hI.b15
  have hb18 := hI.b18
  refine CT.intro (by decide +kernel) rfl (Nat.le_of_ble_eq_true rfl) ?_
  show WP mX9_type _ _ _ _ _ 0 0 0 [(0, .ref (ad 31 0)), (1, .int (nI c))] []
  refine r_aload_n dX9_type_0 rfl 0 rfl ?_
  refine r_aload_n dX9_type_1 rfl 0 rfl ?_
  refine r_get 0 dX9_type_2 fRX9_89 (hW.g 31 0 rfl) rfl ?_
  refine r_bipush (v := 60) dX9_type_5 (by decide) ?_
  refine r_icmp_ne 14 dX9_type_7 (by decide) (fun c_1 => ?_) (fun c_1 => absurd c_1 (fun q => Nat.ne_of_lt hlt (ni_eq (b := 60) (by omega) (by decide) q)))
  refine r_iconst (v := 0) dX9_type_14 (by decide) ?_
  refine r_callV (st := []) [.int 0] 0 0 dX9_type_15 kX9_goes nX9_goes lRX9_92 (hW.g 31 0 rfl) rfl (c_goes hW 0) rfl rfl (Nat.le_of_ble_eq_true rfl) (Nat.le_refl _) (Nat.le_refl _) (fun _ _ h => h.elim) ?_
  refine cx_det (st2 := [.int 1]) rfl ?_
  have hW_2 : World A (setA B 26 0 0) ad (va_up G (ad 31 0) (some (.inr (9, (mF B ad).set 26 (.int (nI 0)))))) := m_s26 hW 0
  refine r_heap (G' := va_up G (ad 31 0) (some (.inr (9, (mF B ad).set 26 (.int (nI 0)))))) rfl ?_
  refine r_if_ne 23 dX9_type_18 (by decide) (fun c_3 => ?_) (fun c_3 => absurd c_3 (by decide))
  refine r_aload_n dX9_type_23 rfl 0 rfl ?_
  refine r_get 1 dX9_type_24 fRX9_7 (hW_2.g 31 0 rfl) rfl ?_
  refine r_aload_n dX9_type_27 rfl 0 rfl ?_
  refine r_get 0 dX9_type_28 fRX9_89 (hW_2.g 31 0 rfl) rfl ?_
  refine r_top (nI (B 0 0)) rfl ?_
  refine r_iload_n dX9_type_31 rfl 1 rfl ?_
  refine r_cast dX9_type_32 (hW_2.g 32 1 rfl) (vp_in_nI (by omega) (by decide)) (isC_nI hc) ?_
  have hW_4 : World A (setA (setA B 26 0 0) 1 (B 0 0) c) ad (va_up (va_up G (ad 31 0) (some (.inr (9, (mF B ad).set 26 (.int (nI 0)))))) (ad 32 1) (some (.inl (.char, 60, .inl (upd (rg (setA B 26 0 0) 1 0 60) (B 0 0) (nI c)))))) := m_a1 hW_2 (by omega)
  refine r_heap (G' := va_up (va_up G (ad 31 0) (some (.inr (9, (mF B ad).set 26 (.int (nI 0)))))) (ad 32 1) (some (.inl (.char, 60, .inl (upd (rg (setA B 26 0 0) 1 0 60) (B 0 0) (nI c)))))) (by rw [nI_cl (by omega)] <;> rfl) ?_
  refine r_aload_n dX9_type_33 rfl 0 rfl ?_
  refine r_dup dX9_type_34 rfl ?_
  refine r_get 0 dX9_type_35 fRX9_89 (hW_4.g 31 0 rfl) rfl ?_
  refine r_top (nI (B 0 0)) rfl ?_
  refine r_iconst (v := 1) dX9_type_38 (by decide) ?_
  refine r_iadd dX9_type_39 ?_
  refine r_top (nI (B 0 0 + 1)) (nI_1 _) ?_
  refine r_put 0 (.int) dX9_type_40 gRX9_89 (hW_4.g 31 0 rfl) (Nat.le_of_ble_eq_true rfl) rfl rfl ?_
  have hW_5 : World A (setA (setA (setA B 26 0 0) 1 (B 0 0) c) 0 0 (B 0 0 + 1)) ad (va_up (va_up (va_up G (ad 31 0) (some (.inr (9, (mF B ad).set 26 (.int (nI 0)))))) (ad 32 1) (some (.inl (.char, 60, .inl (upd (rg (setA B 26 0 0) 1 0 60) (B 0 0) (nI c)))))) (ad 31 0) (some (.inr (9, (mF (setA (setA B 26 0 0) 1 (B 0 0) c) ad).set 0 (.int (nI (B 0 0 + 1))))))) := m_s0 hW_4 (B 0 0 + 1)
  refine r_heap (G' := va_up (va_up (va_up G (ad 31 0) (some (.inr (9, (mF B ad).set 26 (.int (nI 0)))))) (ad 32 1) (some (.inl (.char, 60, .inl (upd (rg (setA B 26 0 0) 1 0 60) (B 0 0) (nI c)))))) (ad 31 0) (some (.inr (9, (mF (setA (setA B 26 0 0) 1 (B 0 0) c) ad).set 0 (.int (nI (B 0 0 + 1))))))) rfl ?_
  refine r_aload_n dX9_type_43 rfl 0 rfl ?_
  refine r_get 0 dX9_type_44 fRX9_89 (hW_5.g 31 0 rfl) rfl ?_
  refine r_top (nI (B 0 0 + 1)) rfl ?_
  refine r_ireti dX9_type_47 rfl ?_
  exact ⟨rfl, (setA (setA (setA B 26 0 0) 1 (B 0 0) c) 0 0 (B 0 0 + 1)), hW_5, rfl, (scg (scg (s26 (fun f _ => rfl))))⟩
set_option maxRecDepth 100000 in
set_option maxHeartbeats 4000000 in
theorem m_type_1 {d b0 : Nat} {G : GH} {A B : ST} {ad : AD} (hW : World A B ad G) (hI : Inv B) {c : Nat} (hge : ¬ B 0 0 < 60) : CT mX9_type (d + 4) b0 G [.ref (ad 31 0), .int (nI c)] 0 0 (MPo 0 1 B A ad) (fun _ _ => False) := by
  have hb0 := hI.b0
  have hb2 := hI.b2
  have hb9 := hI.b9
  have hb15 := hI.b15
  have hb18 := hI.b18
  refine CT.intro (by decide +kernel) rfl (Nat.le_of_ble_eq_true rfl) ?_
  show WP mX9_type _ _ _ _ _ 0 0 0 [(0, .ref (ad 31 0)), (1, .int (nI c))] []
  refine r_aload_n dX9_type_0 rfl 0 rfl ?_
  refine r_aload_n dX9_type_1 rfl 0 rfl ?_
  refine r_get 0 dX9_type_2 fRX9_89 (hW.g 31 0 rfl) rfl ?_
  refine r_bipush (v := 60) dX9_type_5 (by decide) ?_
  refine r_icmp_ne 14 dX9_type_7 (by decide) (fun c_1 => absurd (show nI (B 0 0) = 60 by rw [show B 0 0 = 60 by omega]; rfl) c_1) (fun c_1 => ?_)
  refine r_iconst (v := 1) dX9_type_10 (by decide) ?_
  refine r_goto 15 dX9_type_11 (by decide) ?_
  refine r_callV (st := []) [.int 1] 0 0 dX9_type_15 kX9_goes nX9_goes lRX9_92 (hW.g 31 0 rfl) rfl (c_goes hW 1) rfl rfl (Nat.le_of_ble_eq_true rfl) (Nat.le_refl _) (Nat.le_refl _) (fun _ _ h => h.elim) ?_
  refine cx_det (st2 := [.int 0]) rfl ?_
  have hW_2 : World A (setA B 26 0 1) ad (va_up G (ad 31 0) (some (.inr (9, (mF B ad).set 26 (.int (nI 1)))))) := m_s26 hW 1
  refine r_heap (G' := va_up G (ad 31 0) (some (.inr (9, (mF B ad).set 26 (.int (nI 1)))))) rfl ?_
  refine r_if_ne 23 dX9_type_18 (by decide) (fun c_3 => absurd (by decide) c_3) (fun c_3 => ?_)
  refine r_iconst (v := 0) dX9_type_21 (by decide) ?_
  refine r_ireti dX9_type_22 rfl ?_
  exact ⟨rfl, (setA B 26 0 1), hW_2, rfl, (s26 (fun f _ => rfl))⟩
set_option maxRecDepth 100000 in
set_option maxHeartbeats 4000000 in
theorem m_clear_0 {d b0 : Nat} {G : GH} {A B : ST} {ad : AD} (hW : World A B ad G) (hI : Inv B)  : CT mX9_clear (d + 4) b0 G [.ref (ad 31 0)] 0 0 (MPo (nI (B 0 0)) 0 (setA B 0 0 0) A ad) (fun _ _ => False) := by
  have hb0 := hI.b0
  have hb2 := hI.b2
  have hb9 := hI.b9
  have hb15 := hI.b15
  have hb18 := hI.b18
  refine CT.intro (by decide +kernel) rfl (Nat.le_of_ble_eq_true rfl) ?_
  show WP mX9_clear _ _ _ _ _ 0 0 0 [(0, .ref (ad 31 0))] []
  refine r_aload_n dX9_clear_0 rfl 0 rfl ?_
  refine r_iconst (v := 0) dX9_clear_1 (by decide) ?_
  refine r_put 26 (.int) dX9_clear_2 gRX9_69 (hW.g 31 0 rfl) (Nat.le_of_ble_eq_true rfl) rfl rfl ?_
  have hW_1 : World A (setA B 26 0 0) ad (va_up G (ad 31 0) (some (.inr (9, (mF B ad).set 26 (.int (nI 0)))))) := m_s26 hW 0
  refine r_heap (G' := va_up G (ad 31 0) (some (.inr (9, (mF B ad).set 26 (.int (nI 0)))))) rfl ?_
  refine r_aload_n dX9_clear_5 rfl 0 rfl ?_
  refine r_get 0 dX9_clear_6 fRX9_89 (hW_1.g 31 0 rfl) rfl ?_
  refine r_top (nI (B 0 0)) rfl ?_
  refine r_istore_n [(1, .int (nI (B 0 0))), (0, .ref (ad 31 0))] dX9_clear_9 rfl (by decide) rfl ?_
  refine r_aload_n dX9_clear_10 rfl 1 rfl ?_
  refine r_iconst (v := 0) dX9_clear_11 (by decide) ?_
  refine r_put 0 (.int) dX9_clear_12 gRX9_89 (hW_1.g 31 0 rfl) (Nat.le_of_ble_eq_true rfl) rfl rfl ?_
  have hW_3 : World A (setA (setA B 26 0 0) 0 0 0) ad (va_up (va_up G (ad 31 0) (some (.inr (9, (mF B ad).set 26 (.int (nI 0)))))) (ad 31 0) (some (.inr (9, (mF (setA B 26 0 0) ad).set 0 (.int (nI 0)))))) := m_s0 hW_1 0
  refine r_heap (G' := va_up (va_up G (ad 31 0) (some (.inr (9, (mF B ad).set 26 (.int (nI 0)))))) (ad 31 0) (some (.inr (9, (mF (setA B 26 0 0) ad).set 0 (.int (nI 0)))))) rfl ?_
  refine r_iload_n dX9_clear_15 rfl 0 rfl ?_
  refine r_ireti dX9_clear_16 rfl ?_
  exact ⟨rfl, (setA (setA B 26 0 0) 0 0 0), hW_3, rfl, (scg (s26 (fun f _ => rfl)))⟩
set_option maxRecDepth 100000 in
set_option maxHeartbeats 4000000 in
theorem m_price_0 {d b0 : Nat} {G : GH} {A B : ST} {ad : AD} (hW : World A B ad G) (hI : Inv B) {l v : Nat} (hl : l < 3) (hv : v < 1001) : CT mX9_price (d + 4) b0 G [.ref (ad 31 0), .int (nI l), .int (nI v)] 0 0 (MPo (nI (B 21 l)) 0 (setA B 21 l v) A ad) (fun _ _ => False) := by
  have hb0 := hI.b0
  have hb2 := hI.b2
  have hb9 := hI.b9
  have hb15 := hI.b15
  have hb18 := hI.b18
  refine CT.intro (by decide +kernel) rfl (Nat.le_of_ble_eq_true rfl) ?_
  show WP mX9_price _ _ _ _ _ 0 0 0 [(0, .ref (ad 31 0)), (1, .int (nI l)), (2, .int (nI v))] []
  refine r_aload_n dX9_price_0 rfl 0 rfl ?_
  refine r_iload_n dX9_price_1 rfl 1 rfl ?_
  refine r_callS (st := [.ref (ad 31 0)]) [.int (nI l)] 0 0 dX9_price_2 kX9_isLanguage nX9_isLanguage lRX9_108 (c_mLang (nI l)) rfl rfl (Nat.le_of_ble_eq_true rfl) (Nat.le_refl _) (Nat.le_refl _) (fun _ _ h => h.elim) ?_
  refine cx_det (st2 := [.int (b2i (inB (nI l) 3)), .ref (ad 31 0)]) rfl ?_
  refine r_if_ne 12 dX9_price_5 (by decide) (fun c_1 => ?_) (fun c_1 => absurd c_1 (b2i_no (inB_k hl (by decide))))
  refine r_iload_n dX9_price_12 rfl 2 rfl ?_
  refine r_iconst (v := 0) dX9_price_13 (by decide) ?_
  refine r_sipush (v := 1000) dX9_price_14 (by decide) ?_
  refine r_callS (st := [.ref (ad 31 0)]) [.int (nI v), .int 0, .int 1000] 0 0 dX9_price_17 kX9_isIn nX9_isIn lRX9_73 (c_in (n := 1001) (nI v) (by decide) (by decide)) rfl rfl (Nat.le_of_ble_eq_true rfl) (Nat.le_refl _) (Nat.le_refl _) (fun _ _ h => h.elim) ?_
  refine cx_det (st2 := [.int (b2i (inB (nI v) 1001)), .ref (ad 31 0)]) rfl ?_
  refine r_if_eq 27 dX9_price_20 (by decide) (fun c_2 => absurd c_2 (b2i_no (inB_k hv (by decide)))) (fun c_2 => ?_)
  refine r_iconst (v := 0) dX9_price_23 (by decide) ?_
  refine r_goto 28 dX9_price_24 (by decide) ?_
  refine r_callV (st := []) [.int 0] 0 0 dX9_price_28 kX9_goes nX9_goes lRX9_92 (hW.g 31 0 rfl) rfl (c_goes hW 0) rfl rfl (Nat.le_of_ble_eq_true rfl) (Nat.le_refl _) (Nat.le_refl _) (fun _ _ h => h.elim) ?_
  refine cx_det (st2 := [.int 1]) rfl ?_
  have hW_3 : World A (setA B 26 0 0) ad (va_up G (ad 31 0) (some (.inr (9, (mF B ad).set 26 (.int (nI 0)))))) := m_s26 hW 0
  refine r_heap (G' := va_up G (ad 31 0) (some (.inr (9, (mF B ad).set 26 (.int (nI 0)))))) rfl ?_
  refine r_if_ne 36 dX9_price_31 (by decide) (fun c_4 => ?_) (fun c_4 => absurd c_4 (by decide))
  refine r_aload_n dX9_price_36 rfl 0 rfl ?_
  refine r_get 21 dX9_price_37 fRX9_60 (hW_3.g 31 0 rfl) rfl ?_
  refine r_iload_n dX9_price_40 rfl 1 rfl ?_
  refine r_iald dX9_price_41 (hW_3.g 32 21 rfl) (vp_in_nI (by omega) (by decide)) ?_
  refine r_top (nI (B 21 l)) (by rw [nI_cl (by omega)]; exact rgm (by omega)) ?_
  refine r_istore_n [(3, .int (nI (B 21 l))), (0, .ref (ad 31 0)), (1, .int (nI l)), (2, .int (nI v))] dX9_price_42 rfl (by decide) rfl ?_
  refine r_aload_n dX9_price_43 rfl 1 rfl ?_
  refine r_get 21 dX9_price_44 fRX9_60 (hW_3.g 31 0 rfl) rfl ?_
  refine r_iload_n dX9_price_47 rfl 2 rfl ?_
  refine r_iload_n dX9_price_48 rfl 3 rfl ?_
  refine r_iast dX9_price_49 (hW_3.g 32 21 rfl) (vp_in_nI (by omega) (by decide)) ?_
  have hW_6 : World A (setA (setA B 26 0 0) 21 l v) ad (va_up (va_up G (ad 31 0) (some (.inr (9, (mF B ad).set 26 (.int (nI 0)))))) (ad 32 21) (some (.inl (.int, 3, .inl (upd (rg (setA B 26 0 0) 21 0 3) l (nI v)))))) := m_a21 hW_3 (by omega)
  refine r_heap (G' := va_up (va_up G (ad 31 0) (some (.inr (9, (mF B ad).set 26 (.int (nI 0)))))) (ad 32 21) (some (.inl (.int, 3, .inl (upd (rg (setA B 26 0 0) 21 0 3) l (nI v)))))) (by rw [nI_cl (by omega)] <;> rfl) ?_
  refine r_iload_n dX9_price_50 rfl 0 rfl ?_
  refine r_ireti dX9_price_51 rfl ?_
  exact ⟨rfl, (setA (setA B 26 0 0) 21 l v), hW_6, rfl, (scg (s26 (fun f _ => rfl)))⟩
set_option maxRecDepth 100000 in
set_option maxHeartbeats 4000000 in
theorem m_price_1 {d b0 : Nat} {G : GH} {A B : ST} {ad : AD} (hW : World A B ad G) (hI : Inv B) {x y : Int32} (hx : inB x 3 = false) : CT mX9_price (d + 4) b0 G [.ref (ad 31 0), .int x, .int y] 0 0 (MPo 0 1 B A ad) (fun _ _ => False) := by
  have hb0 := hI.b0
  have hb2 := hI.b2
  have hb9 := hI.b9
  have hb15 := hI.b15
  have hb18 := hI.b18
  refine CT.intro (by decide +kernel) rfl (Nat.le_of_ble_eq_true rfl) ?_
  show WP mX9_price _ _ _ _ _ 0 0 0 [(0, .ref (ad 31 0)), (1, .int x), (2, .int y)] []
  refine r_aload_n dX9_price_0 rfl 0 rfl ?_
  refine r_iload_n dX9_price_1 rfl 1 rfl ?_
  refine r_callS (st := [.ref (ad 31 0)]) [.int x] 0 0 dX9_price_2 kX9_isLanguage nX9_isLanguage lRX9_108 (c_mLang x) rfl rfl (Nat.le_of_ble_eq_true rfl) (Nat.le_refl _) (Nat.le_refl _) (fun _ _ h => h.elim) ?_
  refine cx_det (st2 := [.int (b2i (inB x 3)), .ref (ad 31 0)]) rfl ?_
  refine r_if_ne 12 dX9_price_5 (by decide) (fun c_1 => absurd (b2i_z hx) c_1) (fun c_1 => ?_)
  refine r_iconst (v := 1) dX9_price_8 (by decide) ?_
  refine r_goto 28 dX9_price_9 (by decide) ?_
  refine r_callV (st := []) [.int 1] 0 0 dX9_price_28 kX9_goes nX9_goes lRX9_92 (hW.g 31 0 rfl) rfl (c_goes hW 1) rfl rfl (Nat.le_of_ble_eq_true rfl) (Nat.le_refl _) (Nat.le_refl _) (fun _ _ h => h.elim) ?_
  refine cx_det (st2 := [.int 0]) rfl ?_
  have hW_2 : World A (setA B 26 0 1) ad (va_up G (ad 31 0) (some (.inr (9, (mF B ad).set 26 (.int (nI 1)))))) := m_s26 hW 1
  refine r_heap (G' := va_up G (ad 31 0) (some (.inr (9, (mF B ad).set 26 (.int (nI 1)))))) rfl ?_
  refine r_if_ne 36 dX9_price_31 (by decide) (fun c_3 => absurd (by decide) c_3) (fun c_3 => ?_)
  refine r_iconst (v := 0) dX9_price_34 (by decide) ?_
  refine r_ireti dX9_price_35 rfl ?_
  exact ⟨rfl, (setA B 26 0 1), hW_2, rfl, (s26 (fun f _ => rfl))⟩
set_option maxRecDepth 100000 in
set_option maxHeartbeats 4000000 in
theorem m_price_2 {d b0 : Nat} {G : GH} {A B : ST} {ad : AD} (hW : World A B ad G) (hI : Inv B) {l : Nat} {y : Int32} (hl : l < 3) (hy : inB y 1001 = false) : CT mX9_price (d + 4) b0 G [.ref (ad 31 0), .int (nI l), .int y] 0 0 (MPo 0 2 B A ad) (fun _ _ => False) := by
  have hb0 := hI.b0
  have hb2 := hI.b2
  have hb9 := hI.b9
  have hb15 := hI.b15
  have hb18 := hI.b18
  refine CT.intro (by decide +kernel) rfl (Nat.le_of_ble_eq_true rfl) ?_
  show WP mX9_price _ _ _ _ _ 0 0 0 [(0, .ref (ad 31 0)), (1, .int (nI l)), (2, .int y)] []
  refine r_aload_n dX9_price_0 rfl 0 rfl ?_
  refine r_iload_n dX9_price_1 rfl 1 rfl ?_
  refine r_callS (st := [.ref (ad 31 0)]) [.int (nI l)] 0 0 dX9_price_2 kX9_isLanguage nX9_isLanguage lRX9_108 (c_mLang (nI l)) rfl rfl (Nat.le_of_ble_eq_true rfl) (Nat.le_refl _) (Nat.le_refl _) (fun _ _ h => h.elim) ?_
  refine cx_det (st2 := [.int (b2i (inB (nI l) 3)), .ref (ad 31 0)]) rfl ?_
  refine r_if_ne 12 dX9_price_5 (by decide) (fun c_1 => ?_) (fun c_1 => absurd c_1 (b2i_no (inB_k hl (by decide))))
  refine r_iload_n dX9_price_12 rfl 2 rfl ?_
  refine r_iconst (v := 0) dX9_price_13 (by decide) ?_
  refine r_sipush (v := 1000) dX9_price_14 (by decide) ?_
  refine r_callS (st := [.ref (ad 31 0)]) [.int y, .int 0, .int 1000] 0 0 dX9_price_17 kX9_isIn nX9_isIn lRX9_73 (c_in (n := 1001) y (by decide) (by decide)) rfl rfl (Nat.le_of_ble_eq_true rfl) (Nat.le_refl _) (Nat.le_refl _) (fun _ _ h => h.elim) ?_
  refine cx_det (st2 := [.int (b2i (inB y 1001)), .ref (ad 31 0)]) rfl ?_
  refine r_if_eq 27 dX9_price_20 (by decide) (fun c_2 => ?_) (fun c_2 => absurd (b2i_z hy) c_2)
  refine r_iconst (v := 2) dX9_price_27 (by decide) ?_
  refine r_callV (st := []) [.int 2] 0 0 dX9_price_28 kX9_goes nX9_goes lRX9_92 (hW.g 31 0 rfl) rfl (c_goes hW 2) rfl rfl (Nat.le_of_ble_eq_true rfl) (Nat.le_refl _) (Nat.le_refl _) (fun _ _ h => h.elim) ?_
  refine cx_det (st2 := [.int 0]) rfl ?_
  have hW_3 : World A (setA B 26 0 2) ad (va_up G (ad 31 0) (some (.inr (9, (mF B ad).set 26 (.int (nI 2)))))) := m_s26 hW 2
  refine r_heap (G' := va_up G (ad 31 0) (some (.inr (9, (mF B ad).set 26 (.int (nI 2)))))) rfl ?_
  refine r_if_ne 36 dX9_price_31 (by decide) (fun c_4 => absurd (by decide) c_4) (fun c_4 => ?_)
  refine r_iconst (v := 0) dX9_price_34 (by decide) ?_
  refine r_ireti dX9_price_35 rfl ?_
  exact ⟨rfl, (setA B 26 0 2), hW_3, rfl, (s26 (fun f _ => rfl))⟩
set_option maxRecDepth 100000 in
set_option maxHeartbeats 4000000 in
theorem m_letter_0 {d b0 : Nat} {G : GH} {A B : ST} {ad : AD} (hW : World A B ad G) (hI : Inv B) (hn : B 15 0 < 6) : CT mX9_letter (d + 4) b0 G [.ref (ad 31 0)] 0 0 (MPo (nI (B 15 0)) 0 (setA B 15 0 (B 15 0 + 1)) A ad) (fun _ _ => False) := by
  have hb0 := hI.b0
  have hb2 := hI.b2
  have hb9 := hI.b9
  have hb15 := hI.b15
  have hb18 := hI.b18
  refine CT.intro (by decide +kernel) rfl (Nat.le_of_ble_eq_true rfl) ?_
  show WP mX9_letter _ _ _ _ _ 0 0 0 [(0, .ref (ad 31 0))] []
  refine r_aload_n dX9_letter_0 rfl 0 rfl ?_
  refine r_aload_n dX9_letter_1 rfl 0 rfl ?_
  refine r_get 15 dX9_letter_2 fRX9_83 (hW.g 31 0 rfl) rfl ?_
  refine r_bipush (v := 6) dX9_letter_5 (by decide) ?_
  refine r_icmp_ne 14 dX9_letter_7 (by decide) (fun c_1 => ?_) (fun c_1 => absurd c_1 (fun q => Nat.ne_of_lt hn (ni_eq (b := 6) (by omega) (by decide) q)))
  refine r_iconst (v := 0) dX9_letter_14 (by decide) ?_
  refine r_callV (st := []) [.int 0] 0 0 dX9_letter_15 kX9_goes nX9_goes lRX9_92 (hW.g 31 0 rfl) rfl (c_goes hW 0) rfl rfl (Nat.le_of_ble_eq_true rfl) (Nat.le_refl _) (Nat.le_refl _) (fun _ _ h => h.elim) ?_
  refine cx_det (st2 := [.int 1]) rfl ?_
  have hW_2 : World A (setA B 26 0 0) ad (va_up G (ad 31 0) (some (.inr (9, (mF B ad).set 26 (.int (nI 0)))))) := m_s26 hW 0
  refine r_heap (G' := va_up G (ad 31 0) (some (.inr (9, (mF B ad).set 26 (.int (nI 0)))))) rfl ?_
  refine r_if_ne 23 dX9_letter_18 (by decide) (fun c_3 => ?_) (fun c_3 => absurd c_3 (by decide))
  refine r_aload_n dX9_letter_23 rfl 0 rfl ?_
  refine r_dup dX9_letter_24 rfl ?_
  refine r_get 15 dX9_letter_25 fRX9_83 (hW_2.g 31 0 rfl) rfl ?_
  refine r_top (nI (B 15 0)) rfl ?_
  refine r_iconst (v := 1) dX9_letter_28 (by decide) ?_
  refine r_iadd dX9_letter_29 ?_
  refine r_top (nI (B 15 0 + 1)) (nI_1 _) ?_
  refine r_put 15 (.int) dX9_letter_30 gRX9_83 (hW_2.g 31 0 rfl) (Nat.le_of_ble_eq_true rfl) rfl rfl ?_
  have hW_4 : World A (setA (setA B 26 0 0) 15 0 (B 15 0 + 1)) ad (va_up (va_up G (ad 31 0) (some (.inr (9, (mF B ad).set 26 (.int (nI 0)))))) (ad 31 0) (some (.inr (9, (mF (setA B 26 0 0) ad).set 15 (.int (nI (B 15 0 + 1))))))) := m_s15 hW_2 (B 15 0 + 1)
  refine r_heap (G' := va_up (va_up G (ad 31 0) (some (.inr (9, (mF B ad).set 26 (.int (nI 0)))))) (ad 31 0) (some (.inr (9, (mF (setA B 26 0 0) ad).set 15 (.int (nI (B 15 0 + 1))))))) rfl ?_
  refine r_aload_n dX9_letter_33 rfl 0 rfl ?_
  refine r_get 15 dX9_letter_34 fRX9_83 (hW_4.g 31 0 rfl) rfl ?_
  refine r_top (nI (B 15 0 + 1)) rfl ?_
  refine r_iconst (v := 1) dX9_letter_37 (by decide) ?_
  refine r_isub dX9_letter_38 ?_
  refine r_top (nI (B 15 0)) (nI_m1 _) ?_
  refine r_ireti dX9_letter_39 rfl ?_
  exact ⟨rfl, (setA (setA B 26 0 0) 15 0 (B 15 0 + 1)), hW_4, rfl, (scg (s26 (fun f _ => rfl)))⟩
set_option maxRecDepth 100000 in
set_option maxHeartbeats 4000000 in
theorem m_letter_1 {d b0 : Nat} {G : GH} {A B : ST} {ad : AD} (hW : World A B ad G) (hI : Inv B) (hn : ¬ B 15 0 < 6) : CT mX9_letter (d + 4) b0 G [.ref (ad 31 0)] 0 0 (MPo 0 1 B A ad) (fun _ _ => False) := by
  have hb0 := hI.b0
  have hb2 := hI.b2
  have hb9 := hI.b9
  have hb15 := hI.b15
  have hb18 := hI.b18
  refine CT.intro (by decide +kernel) rfl (Nat.le_of_ble_eq_true rfl) ?_
  show WP mX9_letter _ _ _ _ _ 0 0 0 [(0, .ref (ad 31 0))] []
  refine r_aload_n dX9_letter_0 rfl 0 rfl ?_
  refine r_aload_n dX9_letter_1 rfl 0 rfl ?_
  refine r_get 15 dX9_letter_2 fRX9_83 (hW.g 31 0 rfl) rfl ?_
  refine r_bipush (v := 6) dX9_letter_5 (by decide) ?_
  refine r_icmp_ne 14 dX9_letter_7 (by decide) (fun c_1 => absurd (show nI (B 15 0) = 6 by rw [show B 15 0 = 6 by omega]; rfl) c_1) (fun c_1 => ?_)
  refine r_iconst (v := 1) dX9_letter_10 (by decide) ?_
  refine r_goto 15 dX9_letter_11 (by decide) ?_
  refine r_callV (st := []) [.int 1] 0 0 dX9_letter_15 kX9_goes nX9_goes lRX9_92 (hW.g 31 0 rfl) rfl (c_goes hW 1) rfl rfl (Nat.le_of_ble_eq_true rfl) (Nat.le_refl _) (Nat.le_refl _) (fun _ _ h => h.elim) ?_
  refine cx_det (st2 := [.int 0]) rfl ?_
  have hW_2 : World A (setA B 26 0 1) ad (va_up G (ad 31 0) (some (.inr (9, (mF B ad).set 26 (.int (nI 1)))))) := m_s26 hW 1
  refine r_heap (G' := va_up G (ad 31 0) (some (.inr (9, (mF B ad).set 26 (.int (nI 1)))))) rfl ?_
  refine r_if_ne 23 dX9_letter_18 (by decide) (fun c_3 => absurd (by decide) c_3) (fun c_3 => ?_)
  refine r_iconst (v := 0) dX9_letter_21 (by decide) ?_
  refine r_ireti dX9_letter_22 rfl ?_
  exact ⟨rfl, (setA B 26 0 1), hW_2, rfl, (s26 (fun f _ => rfl))⟩
