set_option maxRecDepth 100000 in
set_option maxHeartbeats 4000000 in
theorem m_fill_0 {d b0 : Nat} {G : GH} {A B : ST} {ad : AD} (hW : World A B ad G) (hI : Inv B) {t s q : Nat} (ht : t < B 18 0) (hs : s < 5) (hq : q < B 2 0) : CT mX9_fill (d + 4) b0 G [.ref (ad 31 0), .int (nI t), .int (nI s), .int (nI q)] 0 0 (MPo (nI (B 19 (5 * t + s))) 0 (setA B 19 (5 * t + s) q) A ad) (fun _ _ => False) := by
  have hb0 := hI.b0
  have hb2 := hI.b2
  have hb9 := hI.b9
  have hb15 := hI.b15
  have hb18 := hI.b18
  refine CT.intro (by decide +kernel) rfl (Nat.le_of_ble_eq_true rfl) ?_
  show WP mX9_fill _ _ _ _ _ 0 0 0 [(0, .ref (ad 31 0)), (1, .int (nI t)), (2, .int (nI s)), (3, .int (nI q))] []
  refine r_aload_n dX9_fill_0 rfl 0 rfl ?_
  refine r_iload_n dX9_fill_1 rfl 1 rfl ?_
  refine r_callV (st := []) [.int (nI t)] 0 0 dX9_fill_2 kX9_isData nX9_isData lRX9_141 (hW.g 31 0 rfl) rfl (c_X9_isData hW (Nat.le_trans hb18 (by decide)) (nI t)) rfl rfl (Nat.le_of_ble_eq_true rfl) (Nat.le_refl _) (Nat.le_refl _) (fun _ _ h => h.elim) ?_
  refine cx_det (st2 := [.int (b2i (inB (nI t) (B 18 0)))]) rfl ?_
  refine r_if_eq 29 dX9_fill_5 (by decide) (fun c_1 => absurd c_1 (b2i_no (inB_k ht (by omega)))) (fun c_1 => ?_)
  refine r_iload_n dX9_fill_8 rfl 2 rfl ?_
  refine r_iconst (v := 0) dX9_fill_9 (by decide) ?_
  refine r_iconst (v := 4) dX9_fill_10 (by decide) ?_
  refine r_callS (st := []) [.int (nI s), .int 0, .int 4] 0 0 dX9_fill_11 kX9_isIn nX9_isIn lRX9_73 (c_in (n := 5) (nI s) (by decide) (by decide)) rfl rfl (Nat.le_of_ble_eq_true rfl) (Nat.le_refl _) (Nat.le_refl _) (fun _ _ h => h.elim) ?_
  refine cx_det (st2 := [.int (b2i (inB (nI s) 5))]) rfl ?_
  refine r_if_eq 29 dX9_fill_14 (by decide) (fun c_2 => absurd c_2 (b2i_no (inB_k hs (by decide)))) (fun c_2 => ?_)
  refine r_aload_n dX9_fill_17 rfl 0 rfl ?_
  refine r_iload_n dX9_fill_18 rfl 3 rfl ?_
  refine r_callV (st := []) [.int (nI q)] 0 0 dX9_fill_19 kX9_isWord nX9_isWord lRX9_111 (hW.g 31 0 rfl) rfl (c_X9_isWord hW hb2 (nI q)) rfl rfl (Nat.le_of_ble_eq_true rfl) (Nat.le_refl _) (Nat.le_refl _) (fun _ _ h => h.elim) ?_
  refine cx_det (st2 := [.int (b2i (inB (nI q) (B 2 0)))]) rfl ?_
  refine r_if_eq 29 dX9_fill_22 (by decide) (fun c_3 => absurd c_3 (b2i_no (inB_k hq (by omega)))) (fun c_3 => ?_)
  refine r_iconst (v := 1) dX9_fill_25 (by decide) ?_
  refine r_goto 30 dX9_fill_26 (by decide) ?_
  refine r_istore [(4, .int 1), (0, .ref (ad 31 0)), (1, .int (nI t)), (2, .int (nI s)), (3, .int (nI q))] dX9_fill_30 (by decide) rfl ?_
  refine r_aload_n dX9_fill_32 rfl 1 rfl ?_
  refine r_iload dX9_fill_33 0 rfl ?_
  refine r_if_eq 42 dX9_fill_35 (by decide) (fun c_4 => absurd c_4 (by decide)) (fun c_4 => ?_)
  refine r_iconst (v := 0) dX9_fill_38 (by decide) ?_
  refine r_goto 43 dX9_fill_39 (by decide) ?_
  refine r_callV (st := []) [.int 0] 0 0 dX9_fill_43 kX9_goes nX9_goes lRX9_92 (hW.g 31 0 rfl) rfl (c_goes hW 0) rfl rfl (Nat.le_of_ble_eq_true rfl) (Nat.le_refl _) (Nat.le_refl _) (fun _ _ h => h.elim) ?_
  refine cx_det (st2 := [.int 1]) rfl ?_
  have hW_5 : World A (setA B 26 0 0) ad (va_up G (ad 31 0) (some (.inr (9, (mF B ad).set 26 (.int (nI 0)))))) := m_s26 hW 0
  refine r_heap (G' := va_up G (ad 31 0) (some (.inr (9, (mF B ad).set 26 (.int (nI 0)))))) rfl ?_
  refine r_if_ne 51 dX9_fill_46 (by decide) (fun c_6 => ?_) (fun c_6 => absurd c_6 (by decide))
  refine r_aload_n dX9_fill_51 rfl 1 rfl ?_
  refine r_get 19 dX9_fill_52 fRX9_54 (hW_5.g 31 0 rfl) rfl ?_
  refine r_iconst (v := 5) dX9_fill_55 (by decide) ?_
  refine r_iload_n dX9_fill_56 rfl 2 rfl ?_
  refine r_imul dX9_fill_57 ?_
  refine r_top (nI (5 * t)) (pk_mul 5 t) ?_
  refine r_iload_n dX9_fill_58 rfl 3 rfl ?_
  refine r_iadd dX9_fill_59 ?_
  refine r_top (nI (5 * t + s)) (nI_add _ _) ?_
  refine r_iald dX9_fill_60 (hW_5.g 32 19 rfl) (vp_in_nI (by omega) (by decide)) ?_
  refine r_top (nI (B 19 (5 * t + s))) (by rw [nI_cl (by omega)]; exact rgm (by omega)) ?_
  refine r_istore [(5, .int (nI (B 19 (5 * t + s)))), (4, .int 1), (0, .ref (ad 31 0)), (1, .int (nI t)), (2, .int (nI s)), (3, .int (nI q))] dX9_fill_61 (by decide) rfl ?_
  refine r_aload_n dX9_fill_63 rfl 2 rfl ?_
  refine r_get 19 dX9_fill_64 fRX9_54 (hW_5.g 31 0 rfl) rfl ?_
  refine r_iconst (v := 5) dX9_fill_67 (by decide) ?_
  refine r_iload_n dX9_fill_68 rfl 3 rfl ?_
  refine r_imul dX9_fill_69 ?_
  refine r_top (nI (5 * t)) (pk_mul 5 t) ?_
  refine r_iload_n dX9_fill_70 rfl 4 rfl ?_
  refine r_iadd dX9_fill_71 ?_
  refine r_top (nI (5 * t + s)) (nI_add _ _) ?_
  refine r_iload_n dX9_fill_72 rfl 5 rfl ?_
  refine r_iast dX9_fill_73 (hW_5.g 32 19 rfl) (vp_in_nI (by omega) (by decide)) ?_
  have hW_8 : World A (setA (setA B 26 0 0) 19 (5 * t + s) q) ad (va_up (va_up G (ad 31 0) (some (.inr (9, (mF B ad).set 26 (.int (nI 0)))))) (ad 32 19) (some (.inl (.int, 40, .inl (upd (rg (setA B 26 0 0) 19 0 40) (5 * t + s) (nI q)))))) := m_a19 hW_5 (by omega)
  refine r_heap (G' := va_up (va_up G (ad 31 0) (some (.inr (9, (mF B ad).set 26 (.int (nI 0)))))) (ad 32 19) (some (.inl (.int, 40, .inl (upd (rg (setA B 26 0 0) 19 0 40) (5 * t + s) (nI q)))))) (by rw [nI_cl (by omega)] <;> rfl) ?_
  refine r_iload dX9_fill_74 0 rfl ?_
  refine r_ireti dX9_fill_76 rfl ?_
  exact ⟨rfl, (setA (setA B 26 0 0) 19 (5 * t + s) q), hW_8, rfl, (scg (s26 (fun f _ => rfl)))⟩
set_option maxRecDepth 100000 in
set_option maxHeartbeats 4000000 in
theorem m_fill_1a {d b0 : Nat} {G : GH} {A B : ST} {ad : AD} (hW : World A B ad G) (hI : Inv B) {x y z : Int32} (hx : inB x (B 18 0) = false) : CT mX9_fill (d + 4) b0 G [.ref (ad 31 0), .int x, .int y, .int z] 0 0 (MPo 0 1 B A ad) (fun _ _ => False) := by
  have hb0 := hI.b0
  have hb2 := hI.b2
  have hb9 := hI.b9
  have hb15 := hI.b15
  have hb18 := hI.b18
  refine CT.intro (by decide +kernel) rfl (Nat.le_of_ble_eq_true rfl) ?_
  show WP mX9_fill _ _ _ _ _ 0 0 0 [(0, .ref (ad 31 0)), (1, .int x), (2, .int y), (3, .int z)] []
  refine r_aload_n dX9_fill_0 rfl 0 rfl ?_
  refine r_iload_n dX9_fill_1 rfl 1 rfl ?_
  refine r_callV (st := []) [.int x] 0 0 dX9_fill_2 kX9_isData nX9_isData lRX9_141 (hW.g 31 0 rfl) rfl (c_X9_isData hW (Nat.le_trans hb18 (by decide)) x) rfl rfl (Nat.le_of_ble_eq_true rfl) (Nat.le_refl _) (Nat.le_refl _) (fun _ _ h => h.elim) ?_
  refine cx_det (st2 := [.int (b2i (inB x (B 18 0)))]) rfl ?_
  refine r_if_eq 29 dX9_fill_5 (by decide) (fun c_1 => ?_) (fun c_1 => absurd (b2i_z hx) c_1)
  refine r_iconst (v := 0) dX9_fill_29 (by decide) ?_
  refine r_istore [(4, .int 0), (0, .ref (ad 31 0)), (1, .int x), (2, .int y), (3, .int z)] dX9_fill_30 (by decide) rfl ?_
  refine r_aload_n dX9_fill_32 rfl 1 rfl ?_
  refine r_iload dX9_fill_33 0 rfl ?_
  refine r_if_eq 42 dX9_fill_35 (by decide) (fun c_2 => ?_) (fun c_2 => absurd (by decide) c_2)
  refine r_iconst (v := 1) dX9_fill_42 (by decide) ?_
  refine r_callV (st := []) [.int 1] 0 0 dX9_fill_43 kX9_goes nX9_goes lRX9_92 (hW.g 31 0 rfl) rfl (c_goes hW 1) rfl rfl (Nat.le_of_ble_eq_true rfl) (Nat.le_refl _) (Nat.le_refl _) (fun _ _ h => h.elim) ?_
  refine cx_det (st2 := [.int 0]) rfl ?_
  have hW_3 : World A (setA B 26 0 1) ad (va_up G (ad 31 0) (some (.inr (9, (mF B ad).set 26 (.int (nI 1)))))) := m_s26 hW 1
  refine r_heap (G' := va_up G (ad 31 0) (some (.inr (9, (mF B ad).set 26 (.int (nI 1)))))) rfl ?_
  refine r_if_ne 51 dX9_fill_46 (by decide) (fun c_4 => absurd (by decide) c_4) (fun c_4 => ?_)
  refine r_iconst (v := 0) dX9_fill_49 (by decide) ?_
  refine r_ireti dX9_fill_50 rfl ?_
  exact ⟨rfl, (setA B 26 0 1), hW_3, rfl, (s26 (fun f _ => rfl))⟩
set_option maxRecDepth 100000 in
set_option maxHeartbeats 4000000 in
theorem m_fill_1b {d b0 : Nat} {G : GH} {A B : ST} {ad : AD} (hW : World A B ad G) (hI : Inv B) {t : Nat} {y z : Int32} (ht : t < B 18 0) (hy : inB y 5 = false) : CT mX9_fill (d + 4) b0 G [.ref (ad 31 0), .int (nI t), .int y, .int z] 0 0 (MPo 0 1 B A ad) (fun _ _ => False) := by
  have hb0 := hI.b0
  have hb2 := hI.b2
  have hb9 := hI.b9
  have hb15 := hI.b15
  have hb18 := hI.b18
  refine CT.intro (by decide +kernel) rfl (Nat.le_of_ble_eq_true rfl) ?_
  show WP mX9_fill _ _ _ _ _ 0 0 0 [(0, .ref (ad 31 0)), (1, .int (nI t)), (2, .int y), (3, .int z)] []
  refine r_aload_n dX9_fill_0 rfl 0 rfl ?_
  refine r_iload_n dX9_fill_1 rfl 1 rfl ?_
  refine r_callV (st := []) [.int (nI t)] 0 0 dX9_fill_2 kX9_isData nX9_isData lRX9_141 (hW.g 31 0 rfl) rfl (c_X9_isData hW (Nat.le_trans hb18 (by decide)) (nI t)) rfl rfl (Nat.le_of_ble_eq_true rfl) (Nat.le_refl _) (Nat.le_refl _) (fun _ _ h => h.elim) ?_
  refine cx_det (st2 := [.int (b2i (inB (nI t) (B 18 0)))]) rfl ?_
  refine r_if_eq 29 dX9_fill_5 (by decide) (fun c_1 => absurd c_1 (b2i_no (inB_k ht (by omega)))) (fun c_1 => ?_)
  refine r_iload_n dX9_fill_8 rfl 2 rfl ?_
  refine r_iconst (v := 0) dX9_fill_9 (by decide) ?_
  refine r_iconst (v := 4) dX9_fill_10 (by decide) ?_
  refine r_callS (st := []) [.int y, .int 0, .int 4] 0 0 dX9_fill_11 kX9_isIn nX9_isIn lRX9_73 (c_in (n := 5) y (by decide) (by decide)) rfl rfl (Nat.le_of_ble_eq_true rfl) (Nat.le_refl _) (Nat.le_refl _) (fun _ _ h => h.elim) ?_
  refine cx_det (st2 := [.int (b2i (inB y 5))]) rfl ?_
  refine r_if_eq 29 dX9_fill_14 (by decide) (fun c_2 => ?_) (fun c_2 => absurd (b2i_z hy) c_2)
  refine r_iconst (v := 0) dX9_fill_29 (by decide) ?_
  refine r_istore [(4, .int 0), (0, .ref (ad 31 0)), (1, .int (nI t)), (2, .int y), (3, .int z)] dX9_fill_30 (by decide) rfl ?_
  refine r_aload_n dX9_fill_32 rfl 1 rfl ?_
  refine r_iload dX9_fill_33 0 rfl ?_
  refine r_if_eq 42 dX9_fill_35 (by decide) (fun c_3 => ?_) (fun c_3 => absurd (by decide) c_3)
  refine r_iconst (v := 1) dX9_fill_42 (by decide) ?_
  refine r_callV (st := []) [.int 1] 0 0 dX9_fill_43 kX9_goes nX9_goes lRX9_92 (hW.g 31 0 rfl) rfl (c_goes hW 1) rfl rfl (Nat.le_of_ble_eq_true rfl) (Nat.le_refl _) (Nat.le_refl _) (fun _ _ h => h.elim) ?_
  refine cx_det (st2 := [.int 0]) rfl ?_
  have hW_4 : World A (setA B 26 0 1) ad (va_up G (ad 31 0) (some (.inr (9, (mF B ad).set 26 (.int (nI 1)))))) := m_s26 hW 1
  refine r_heap (G' := va_up G (ad 31 0) (some (.inr (9, (mF B ad).set 26 (.int (nI 1)))))) rfl ?_
  refine r_if_ne 51 dX9_fill_46 (by decide) (fun c_5 => absurd (by decide) c_5) (fun c_5 => ?_)
  refine r_iconst (v := 0) dX9_fill_49 (by decide) ?_
  refine r_ireti dX9_fill_50 rfl ?_
  exact ⟨rfl, (setA B 26 0 1), hW_4, rfl, (s26 (fun f _ => rfl))⟩
set_option maxRecDepth 100000 in
set_option maxHeartbeats 4000000 in
theorem m_fill_1c {d b0 : Nat} {G : GH} {A B : ST} {ad : AD} (hW : World A B ad G) (hI : Inv B) {t s : Nat} {z : Int32} (ht : t < B 18 0) (hs : s < 5) (hz : inB z (B 2 0) = false) : CT mX9_fill (d + 4) b0 G [.ref (ad 31 0), .int (nI t), .int (nI s), .int z] 0 0 (MPo 0 1 B A ad) (fun _ _ => False) := by
  have hb0 := hI.b0
  have hb2 := hI.b2
  have hb9 := hI.b9
  have hb15 := hI.b15
  have hb18 := hI.b18
  refine CT.intro (by decide +kernel) rfl (Nat.le_of_ble_eq_true rfl) ?_
  show WP mX9_fill _ _ _ _ _ 0 0 0 [(0, .ref (ad 31 0)), (1, .int (nI t)), (2, .int (nI s)), (3, .int z)] []
  refine r_aload_n dX9_fill_0 rfl 0 rfl ?_
  refine r_iload_n dX9_fill_1 rfl 1 rfl ?_
  refine r_callV (st := []) [.int (nI t)] 0 0 dX9_fill_2 kX9_isData nX9_isData lRX9_141 (hW.g 31 0 rfl) rfl (c_X9_isData hW (Nat.le_trans hb18 (by decide)) (nI t)) rfl rfl (Nat.le_of_ble_eq_true rfl) (Nat.le_refl _) (Nat.le_refl _) (fun _ _ h => h.elim) ?_
  refine cx_det (st2 := [.int (b2i (inB (nI t) (B 18 0)))]) rfl ?_
  refine r_if_eq 29 dX9_fill_5 (by decide) (fun c_1 => absurd c_1 (b2i_no (inB_k ht (by omega)))) (fun c_1 => ?_)
  refine r_iload_n dX9_fill_8 rfl 2 rfl ?_
  refine r_iconst (v := 0) dX9_fill_9 (by decide) ?_
  refine r_iconst (v := 4) dX9_fill_10 (by decide) ?_
  refine r_callS (st := []) [.int (nI s), .int 0, .int 4] 0 0 dX9_fill_11 kX9_isIn nX9_isIn lRX9_73 (c_in (n := 5) (nI s) (by decide) (by decide)) rfl rfl (Nat.le_of_ble_eq_true rfl) (Nat.le_refl _) (Nat.le_refl _) (fun _ _ h => h.elim) ?_
  refine cx_det (st2 := [.int (b2i (inB (nI s) 5))]) rfl ?_
  refine r_if_eq 29 dX9_fill_14 (by decide) (fun c_2 => absurd c_2 (b2i_no (inB_k hs (by decide)))) (fun c_2 => ?_)
  refine r_aload_n dX9_fill_17 rfl 0 rfl ?_
  refine r_iload_n dX9_fill_18 rfl 3 rfl ?_
  refine r_callV (st := []) [.int z] 0 0 dX9_fill_19 kX9_isWord nX9_isWord lRX9_111 (hW.g 31 0 rfl) rfl (c_X9_isWord hW hb2 z) rfl rfl (Nat.le_of_ble_eq_true rfl) (Nat.le_refl _) (Nat.le_refl _) (fun _ _ h => h.elim) ?_
  refine cx_det (st2 := [.int (b2i (inB z (B 2 0)))]) rfl ?_
  refine r_if_eq 29 dX9_fill_22 (by decide) (fun c_3 => ?_) (fun c_3 => absurd (b2i_z hz) c_3)
  refine r_iconst (v := 0) dX9_fill_29 (by decide) ?_
  refine r_istore [(4, .int 0), (0, .ref (ad 31 0)), (1, .int (nI t)), (2, .int (nI s)), (3, .int z)] dX9_fill_30 (by decide) rfl ?_
  refine r_aload_n dX9_fill_32 rfl 1 rfl ?_
  refine r_iload dX9_fill_33 0 rfl ?_
  refine r_if_eq 42 dX9_fill_35 (by decide) (fun c_4 => ?_) (fun c_4 => absurd (by decide) c_4)
  refine r_iconst (v := 1) dX9_fill_42 (by decide) ?_
  refine r_callV (st := []) [.int 1] 0 0 dX9_fill_43 kX9_goes nX9_goes lRX9_92 (hW.g 31 0 rfl) rfl (c_goes hW 1) rfl rfl (Nat.le_of_ble_eq_true rfl) (Nat.le_refl _) (Nat.le_refl _) (fun _ _ h => h.elim) ?_
  refine cx_det (st2 := [.int 0]) rfl ?_
  have hW_5 : World A (setA B 26 0 1) ad (va_up G (ad 31 0) (some (.inr (9, (mF B ad).set 26 (.int (nI 1)))))) := m_s26 hW 1
  refine r_heap (G' := va_up G (ad 31 0) (some (.inr (9, (mF B ad).set 26 (.int (nI 1)))))) rfl ?_
  refine r_if_ne 51 dX9_fill_46 (by decide) (fun c_6 => absurd (by decide) c_6) (fun c_6 => ?_)
  refine r_iconst (v := 0) dX9_fill_49 (by decide) ?_
  refine r_ireti dX9_fill_50 rfl ?_
  exact ⟨rfl, (setA B 26 0 1), hW_5, rfl, (s26 (fun f _ => rfl))⟩
set_option maxRecDepth 100000 in
set_option maxHeartbeats 4000000 in
theorem m_relate_0 {d b0 : Nat} {G : GH} {A B : ST} {ad : AD} (hW : World A B ad G) (hI : Inv B) {c o k h : Nat} (hc : c < B 9 0) (ho : o < B 9 0) (hco : c ≠ o) (hk : k < 4) (hh : h < 3) : CT mX9_relate (d + 4) b0 G [.ref (ad 31 0), .int (nI c), .int (nI o), .int (nI k), .int (nI h)] 0 0 (MPo (nI (B 14 (10 * (10 * k + c) + o))) 0 (setA B 14 (10 * (10 * k + c) + o) h) A ad) (fun _ _ => False) := by
  have hb0 := hI.b0
  have hb2 := hI.b2
  have hb9 := hI.b9
  have hb15 := hI.b15
  have hb18 := hI.b18
  refine CT.intro (by decide +kernel) rfl (Nat.le_of_ble_eq_true rfl) ?_
  show WP mX9_relate _ _ _ _ _ 0 0 0 [(0, .ref (ad 31 0)), (1, .int (nI c)), (2, .int (nI o)), (3, .int (nI k)), (4, .int (nI h))] []
  refine r_aload_n dX9_relate_0 rfl 0 rfl ?_
  refine r_iload_n dX9_relate_1 rfl 1 rfl ?_
  refine r_callV (st := []) [.int (nI c)] 0 0 dX9_relate_2 kX9_isClause nX9_isClause lRX9_125 (hW.g 31 0 rfl) rfl (c_X9_isClause hW (Nat.le_trans hb9 (by decide)) (nI c)) rfl rfl (Nat.le_of_ble_eq_true rfl) (Nat.le_refl _) (Nat.le_refl _) (fun _ _ h => h.elim) ?_
  refine cx_det (st2 := [.int (b2i (inB (nI c) (B 9 0)))]) rfl ?_
  refine r_if_eq 20 dX9_relate_5 (by decide) (fun c_1 => absurd c_1 (b2i_no (inB_k hc (by omega)))) (fun c_1 => ?_)
  refine r_aload_n dX9_relate_8 rfl 0 rfl ?_
  refine r_iload_n dX9_relate_9 rfl 2 rfl ?_
  refine r_callV (st := []) [.int (nI o)] 0 0 dX9_relate_10 kX9_isClause nX9_isClause lRX9_125 (hW.g 31 0 rfl) rfl (c_X9_isClause hW (Nat.le_trans hb9 (by decide)) (nI o)) rfl rfl (Nat.le_of_ble_eq_true rfl) (Nat.le_refl _) (Nat.le_refl _) (fun _ _ h => h.elim) ?_
  refine cx_det (st2 := [.int (b2i (inB (nI o) (B 9 0)))]) rfl ?_
  refine r_if_eq 20 dX9_relate_13 (by decide) (fun c_2 => absurd c_2 (b2i_no (inB_k ho (by omega)))) (fun c_2 => ?_)
  refine r_iconst (v := 1) dX9_relate_16 (by decide) ?_
  refine r_goto 21 dX9_relate_17 (by decide) ?_
  refine r_istore [(5, .int 1), (0, .ref (ad 31 0)), (1, .int (nI c)), (2, .int (nI o)), (3, .int (nI k)), (4, .int (nI h))] dX9_relate_21 (by decide) rfl ?_
  refine r_iload_n dX9_relate_23 rfl 2 rfl ?_
  refine r_iload_n dX9_relate_24 rfl 3 rfl ?_
  refine r_icmp_eq 51 dX9_relate_25 (by decide) (fun c_3 => absurd c_3 (fun e => hco (ni_eq (by omega) (by omega) e))) (fun c_3 => ?_)
  refine r_iload_n dX9_relate_28 rfl 4 rfl ?_
  refine r_iconst (v := 0) dX9_relate_29 (by decide) ?_
  refine r_iconst (v := 3) dX9_relate_30 (by decide) ?_
  refine r_callS (st := []) [.int (nI k), .int 0, .int 3] 0 0 dX9_relate_31 kX9_isIn nX9_isIn lRX9_73 (c_in (n := 4) (nI k) (by decide) (by decide)) rfl rfl (Nat.le_of_ble_eq_true rfl) (Nat.le_refl _) (Nat.le_refl _) (fun _ _ h => h.elim) ?_
  refine cx_det (st2 := [.int (b2i (inB (nI k) 4))]) rfl ?_
  refine r_if_eq 51 dX9_relate_34 (by decide) (fun c_4 => absurd c_4 (b2i_no (inB_k hk (by decide)))) (fun c_4 => ?_)
  refine r_iload dX9_relate_37 5 rfl ?_
  refine r_iconst (v := 0) dX9_relate_39 (by decide) ?_
  refine r_iconst (v := 2) dX9_relate_40 (by decide) ?_
  refine r_callS (st := []) [.int (nI h), .int 0, .int 2] 0 0 dX9_relate_41 kX9_isIn nX9_isIn lRX9_73 (c_in (n := 3) (nI h) (by decide) (by decide)) rfl rfl (Nat.le_of_ble_eq_true rfl) (Nat.le_refl _) (Nat.le_refl _) (fun _ _ h => h.elim) ?_
  refine cx_det (st2 := [.int (b2i (inB (nI h) 3))]) rfl ?_
  refine r_if_eq 51 dX9_relate_44 (by decide) (fun c_5 => absurd c_5 (b2i_no (inB_k hh (by decide)))) (fun c_5 => ?_)
  refine r_iconst (v := 1) dX9_relate_47 (by decide) ?_
  refine r_goto 52 dX9_relate_48 (by decide) ?_
  refine r_istore [(6, .int 1), (5, .int 1), (0, .ref (ad 31 0)), (1, .int (nI c)), (2, .int (nI o)), (3, .int (nI k)), (4, .int (nI h))] dX9_relate_52 (by decide) rfl ?_
  refine r_aload_n dX9_relate_54 rfl 2 rfl ?_
  refine r_iload dX9_relate_55 1 rfl ?_
  refine r_if_ne 64 dX9_relate_57 (by decide) (fun c_6 => ?_) (fun c_6 => absurd c_6 (by decide))
  refine r_iload dX9_relate_64 0 rfl ?_
  refine r_if_eq 73 dX9_relate_66 (by decide) (fun c_7 => absurd c_7 (by decide)) (fun c_7 => ?_)
  refine r_iconst (v := 0) dX9_relate_69 (by decide) ?_
  refine r_goto 74 dX9_relate_70 (by decide) ?_
  refine r_callV (st := []) [.int 0] 0 0 dX9_relate_74 kX9_goes nX9_goes lRX9_92 (hW.g 31 0 rfl) rfl (c_goes hW 0) rfl rfl (Nat.le_of_ble_eq_true rfl) (Nat.le_refl _) (Nat.le_refl _) (fun _ _ h => h.elim) ?_
  refine cx_det (st2 := [.int 1]) rfl ?_
  have hW_8 : World A (setA B 26 0 0) ad (va_up G (ad 31 0) (some (.inr (9, (mF B ad).set 26 (.int (nI 0)))))) := m_s26 hW 0
  refine r_heap (G' := va_up G (ad 31 0) (some (.inr (9, (mF B ad).set 26 (.int (nI 0)))))) rfl ?_
  refine r_if_ne 82 dX9_relate_77 (by decide) (fun c_9 => ?_) (fun c_9 => absurd c_9 (by decide))
  refine r_bipush (v := 10) dX9_relate_82 (by decide) ?_
  refine r_bipush (v := 10) dX9_relate_84 (by decide) ?_
  refine r_iload_n dX9_relate_86 rfl 5 rfl ?_
  refine r_imul dX9_relate_87 ?_
  refine r_top (nI (10 * k)) (pk_mul 10 k) ?_
  refine r_iload_n dX9_relate_88 rfl 3 rfl ?_
  refine r_iadd dX9_relate_89 ?_
  refine r_top (nI (10 * k + c)) (nI_add _ _) ?_
  refine r_imul dX9_relate_90 ?_
  refine r_top (nI (10 * (10 * k + c))) (pk_mul 10 _) ?_
  refine r_iload_n dX9_relate_91 rfl 4 rfl ?_
  refine r_iadd dX9_relate_92 ?_
  refine r_top (nI (10 * (10 * k + c) + o)) (nI_add _ _) ?_
  refine r_istore [(7, .int (nI (10 * (10 * k + c) + o))), (6, .int 1), (5, .int 1), (0, .ref (ad 31 0)), (1, .int (nI c)), (2, .int (nI o)), (3, .int (nI k)), (4, .int (nI h))] dX9_relate_93 (by decide) rfl ?_
  refine r_aload_n dX9_relate_95 rfl 3 rfl ?_
  refine r_get 14 dX9_relate_96 fRX9_45 (hW_8.g 31 0 rfl) rfl ?_
  refine r_iload dX9_relate_99 0 rfl ?_
  refine r_iald dX9_relate_101 (hW_8.g 32 14 rfl) (vp_in_nI (by omega) (by decide)) ?_
  refine r_top (nI (B 14 (10 * (10 * k + c) + o))) (by rw [nI_cl (by omega)]; exact rgm (by omega)) ?_
  refine r_istore [(8, .int (nI (B 14 (10 * (10 * k + c) + o)))), (7, .int (nI (10 * (10 * k + c) + o))), (6, .int 1), (5, .int 1), (0, .ref (ad 31 0)), (1, .int (nI c)), (2, .int (nI o)), (3, .int (nI k)), (4, .int (nI h))] dX9_relate_102 (by decide) rfl ?_
  refine r_aload_n dX9_relate_104 rfl 4 rfl ?_
  refine r_get 14 dX9_relate_105 fRX9_45 (hW_8.g 31 0 rfl) rfl ?_
  refine r_iload dX9_relate_108 1 rfl ?_
  refine r_iload dX9_relate_110 8 rfl ?_
  refine r_iast dX9_relate_112 (hW_8.g 32 14 rfl) (vp_in_nI (by omega) (by decide)) ?_
  have hW_12 : World A (setA (setA B 26 0 0) 14 (10 * (10 * k + c) + o) h) ad (va_up (va_up G (ad 31 0) (some (.inr (9, (mF B ad).set 26 (.int (nI 0)))))) (ad 32 14) (some (.inl (.int, 400, .inl (upd (rg (setA B 26 0 0) 14 0 400) (10 * (10 * k + c) + o) (nI h)))))) := m_a14 hW_8 (by omega)
  refine r_heap (G' := va_up (va_up G (ad 31 0) (some (.inr (9, (mF B ad).set 26 (.int (nI 0)))))) (ad 32 14) (some (.inl (.int, 400, .inl (upd (rg (setA B 26 0 0) 14 0 400) (10 * (10 * k + c) + o) (nI h)))))) (by rw [nI_cl (by omega)] <;> rfl) ?_
  refine r_iload dX9_relate_113 0 rfl ?_
  refine r_ireti dX9_relate_115 rfl ?_
  exact ⟨rfl, (setA (setA B 26 0 0) 14 (10 * (10 * k + c) + o) h), hW_12, rfl, (scg (s26 (fun f _ => rfl)))⟩
set_option maxRecDepth 100000 in
set_option maxHeartbeats 4000000 in
theorem m_relate_1a {d b0 : Nat} {G : GH} {A B : ST} {ad : AD} (hW : World A B ad G) (hI : Inv B) {x y z u : Int32} (hx : inB x (B 9 0) = false) : CT mX9_relate (d + 4) b0 G [.ref (ad 31 0), .int x, .int y, .int z, .int u] 0 0 (MPo 0 1 B A ad) (fun _ _ => False) := by
  have hb0 := hI.b0
  have hb2 := hI.b2
  have hb9 := hI.b9
  have hb15 := hI.b15
  have hb18 := hI.b18
  refine CT.intro (by decide +kernel) rfl (Nat.le_of_ble_eq_true rfl) ?_
  show WP mX9_relate _ _ _ _ _ 0 0 0 [(0, .ref (ad 31 0)), (1, .int x), (2, .int y), (3, .int z), (4, .int u)] []
  refine r_aload_n dX9_relate_0 rfl 0 rfl ?_
  refine r_iload_n dX9_relate_1 rfl 1 rfl ?_
  refine r_callV (st := []) [.int x] 0 0 dX9_relate_2 kX9_isClause nX9_isClause lRX9_125 (hW.g 31 0 rfl) rfl (c_X9_isClause hW (Nat.le_trans hb9 (by decide)) x) rfl rfl (Nat.le_of_ble_eq_true rfl) (Nat.le_refl _) (Nat.le_refl _) (fun _ _ h => h.elim) ?_
  refine cx_det (st2 := [.int (b2i (inB x (B 9 0)))]) rfl ?_
  refine r_if_eq 20 dX9_relate_5 (by decide) (fun c_1 => ?_) (fun c_1 => absurd (b2i_z hx) c_1)
  refine r_iconst (v := 0) dX9_relate_20 (by decide) ?_
  refine r_istore [(5, .int 0), (0, .ref (ad 31 0)), (1, .int x), (2, .int y), (3, .int z), (4, .int u)] dX9_relate_21 (by decide) rfl ?_
  refine r_iload_n dX9_relate_23 rfl 2 rfl ?_
  refine r_iload_n dX9_relate_24 rfl 3 rfl ?_
  refine r_icmp_eq 51 dX9_relate_25 (by decide) (fun c_2 => ?_) (fun c_2 => ?_)
  · refine r_iconst (v := 0) dX9_relate_51 (by decide) ?_
    refine r_istore [(6, .int 0), (5, .int 0), (0, .ref (ad 31 0)), (1, .int x), (2, .int y), (3, .int z), (4, .int u)] dX9_relate_52 (by decide) rfl ?_
    refine r_aload_n dX9_relate_54 rfl 2 rfl ?_
    refine r_iload dX9_relate_55 1 rfl ?_
    refine r_if_ne 64 dX9_relate_57 (by decide) (fun c_3 => absurd (by decide) c_3) (fun c_3 => ?_)
    refine r_iconst (v := 1) dX9_relate_60 (by decide) ?_
    refine r_goto 74 dX9_relate_61 (by decide) ?_
    refine r_callV (st := []) [.int 1] 0 0 dX9_relate_74 kX9_goes nX9_goes lRX9_92 (hW.g 31 0 rfl) rfl (c_goes hW 1) rfl rfl (Nat.le_of_ble_eq_true rfl) (Nat.le_refl _) (Nat.le_refl _) (fun _ _ h => h.elim) ?_
    refine cx_det (st2 := [.int 0]) rfl ?_
    have hW_4 : World A (setA B 26 0 1) ad (va_up G (ad 31 0) (some (.inr (9, (mF B ad).set 26 (.int (nI 1)))))) := m_s26 hW 1
    refine r_heap (G' := va_up G (ad 31 0) (some (.inr (9, (mF B ad).set 26 (.int (nI 1)))))) rfl ?_
    refine r_if_ne 82 dX9_relate_77 (by decide) (fun c_5 => absurd (by decide) c_5) (fun c_5 => ?_)
    refine r_iconst (v := 0) dX9_relate_80 (by decide) ?_
    refine r_ireti dX9_relate_81 rfl ?_
    exact ⟨rfl, (setA B 26 0 1), hW_4, rfl, (s26 (fun f _ => rfl))⟩
  · refine r_iload_n dX9_relate_28 rfl 4 rfl ?_
    refine r_iconst (v := 0) dX9_relate_29 (by decide) ?_
    refine r_iconst (v := 3) dX9_relate_30 (by decide) ?_
    refine r_callS (st := []) [.int z, .int 0, .int 3] 0 0 dX9_relate_31 kX9_isIn nX9_isIn lRX9_73 (c_in (n := 4) z (by decide) (by decide)) rfl rfl (Nat.le_of_ble_eq_true rfl) (Nat.le_refl _) (Nat.le_refl _) (fun _ _ h => h.elim) ?_
    refine cx_det (st2 := [.int (b2i (inB z 4))]) rfl ?_
    refine r_if_eq 51 dX9_relate_34 (by decide) (fun c_6 => ?_) (fun c_6 => ?_)
    · refine r_iconst (v := 0) dX9_relate_51 (by decide) ?_
      refine r_istore [(6, .int 0), (5, .int 0), (0, .ref (ad 31 0)), (1, .int x), (2, .int y), (3, .int z), (4, .int u)] dX9_relate_52 (by decide) rfl ?_
      refine r_aload_n dX9_relate_54 rfl 2 rfl ?_
      refine r_iload dX9_relate_55 1 rfl ?_
      refine r_if_ne 64 dX9_relate_57 (by decide) (fun c_7 => absurd (by decide) c_7) (fun c_7 => ?_)
      refine r_iconst (v := 1) dX9_relate_60 (by decide) ?_
      refine r_goto 74 dX9_relate_61 (by decide) ?_
      refine r_callV (st := []) [.int 1] 0 0 dX9_relate_74 kX9_goes nX9_goes lRX9_92 (hW.g 31 0 rfl) rfl (c_goes hW 1) rfl rfl (Nat.le_of_ble_eq_true rfl) (Nat.le_refl _) (Nat.le_refl _) (fun _ _ h => h.elim) ?_
      refine cx_det (st2 := [.int 0]) rfl ?_
      have hW_8 : World A (setA B 26 0 1) ad (va_up G (ad 31 0) (some (.inr (9, (mF B ad).set 26 (.int (nI 1)))))) := m_s26 hW 1
      refine r_heap (G' := va_up G (ad 31 0) (some (.inr (9, (mF B ad).set 26 (.int (nI 1)))))) rfl ?_
      refine r_if_ne 82 dX9_relate_77 (by decide) (fun c_9 => absurd (by decide) c_9) (fun c_9 => ?_)
      refine r_iconst (v := 0) dX9_relate_80 (by decide) ?_
      refine r_ireti dX9_relate_81 rfl ?_
      exact ⟨rfl, (setA B 26 0 1), hW_8, rfl, (s26 (fun f _ => rfl))⟩
    · refine r_iload dX9_relate_37 5 rfl ?_
      refine r_iconst (v := 0) dX9_relate_39 (by decide) ?_
      refine r_iconst (v := 2) dX9_relate_40 (by decide) ?_
      refine r_callS (st := []) [.int u, .int 0, .int 2] 0 0 dX9_relate_41 kX9_isIn nX9_isIn lRX9_73 (c_in (n := 3) u (by decide) (by decide)) rfl rfl (Nat.le_of_ble_eq_true rfl) (Nat.le_refl _) (Nat.le_refl _) (fun _ _ h => h.elim) ?_
      refine cx_det (st2 := [.int (b2i (inB u 3))]) rfl ?_
      refine r_if_eq 51 dX9_relate_44 (by decide) (fun c_10 => ?_) (fun c_10 => ?_)
      · refine r_iconst (v := 0) dX9_relate_51 (by decide) ?_
        refine r_istore [(6, .int 0), (5, .int 0), (0, .ref (ad 31 0)), (1, .int x), (2, .int y), (3, .int z), (4, .int u)] dX9_relate_52 (by decide) rfl ?_
        refine r_aload_n dX9_relate_54 rfl 2 rfl ?_
        refine r_iload dX9_relate_55 1 rfl ?_
        refine r_if_ne 64 dX9_relate_57 (by decide) (fun c_11 => absurd (by decide) c_11) (fun c_11 => ?_)
        refine r_iconst (v := 1) dX9_relate_60 (by decide) ?_
        refine r_goto 74 dX9_relate_61 (by decide) ?_
        refine r_callV (st := []) [.int 1] 0 0 dX9_relate_74 kX9_goes nX9_goes lRX9_92 (hW.g 31 0 rfl) rfl (c_goes hW 1) rfl rfl (Nat.le_of_ble_eq_true rfl) (Nat.le_refl _) (Nat.le_refl _) (fun _ _ h => h.elim) ?_
        refine cx_det (st2 := [.int 0]) rfl ?_
        have hW_12 : World A (setA B 26 0 1) ad (va_up G (ad 31 0) (some (.inr (9, (mF B ad).set 26 (.int (nI 1)))))) := m_s26 hW 1
        refine r_heap (G' := va_up G (ad 31 0) (some (.inr (9, (mF B ad).set 26 (.int (nI 1)))))) rfl ?_
        refine r_if_ne 82 dX9_relate_77 (by decide) (fun c_13 => absurd (by decide) c_13) (fun c_13 => ?_)
        refine r_iconst (v := 0) dX9_relate_80 (by decide) ?_
        refine r_ireti dX9_relate_81 rfl ?_
        exact ⟨rfl, (setA B 26 0 1), hW_12, rfl, (s26 (fun f _ => rfl))⟩
      · refine r_iconst (v := 1) dX9_relate_47 (by decide) ?_
        refine r_goto 52 dX9_relate_48 (by decide) ?_
        refine r_istore [(6, .int 1), (5, .int 0), (0, .ref (ad 31 0)), (1, .int x), (2, .int y), (3, .int z), (4, .int u)] dX9_relate_52 (by decide) rfl ?_
        refine r_aload_n dX9_relate_54 rfl 2 rfl ?_
        refine r_iload dX9_relate_55 1 rfl ?_
        refine r_if_ne 64 dX9_relate_57 (by decide) (fun c_14 => absurd (by decide) c_14) (fun c_14 => ?_)
        refine r_iconst (v := 1) dX9_relate_60 (by decide) ?_
        refine r_goto 74 dX9_relate_61 (by decide) ?_
        refine r_callV (st := []) [.int 1] 0 0 dX9_relate_74 kX9_goes nX9_goes lRX9_92 (hW.g 31 0 rfl) rfl (c_goes hW 1) rfl rfl (Nat.le_of_ble_eq_true rfl) (Nat.le_refl _) (Nat.le_refl _) (fun _ _ h => h.elim) ?_
        refine cx_det (st2 := [.int 0]) rfl ?_
        have hW_15 : World A (setA B 26 0 1) ad (va_up G (ad 31 0) (some (.inr (9, (mF B ad).set 26 (.int (nI 1)))))) := m_s26 hW 1
        refine r_heap (G' := va_up G (ad 31 0) (some (.inr (9, (mF B ad).set 26 (.int (nI 1)))))) rfl ?_
        refine r_if_ne 82 dX9_relate_77 (by decide) (fun c_16 => absurd (by decide) c_16) (fun c_16 => ?_)
        refine r_iconst (v := 0) dX9_relate_80 (by decide) ?_
        refine r_ireti dX9_relate_81 rfl ?_
        exact ⟨rfl, (setA B 26 0 1), hW_15, rfl, (s26 (fun f _ => rfl))⟩
set_option maxRecDepth 100000 in
set_option maxHeartbeats 4000000 in
theorem m_relate_1b {d b0 : Nat} {G : GH} {A B : ST} {ad : AD} (hW : World A B ad G) (hI : Inv B) {c : Nat} {y z u : Int32} (hc : c < B 9 0) (hy : inB y (B 9 0) = false) : CT mX9_relate (d + 4) b0 G [.ref (ad 31 0), .int (nI c), .int y, .int z, .int u] 0 0 (MPo 0 1 B A ad) (fun _ _ => False) := by
  have hb0 := hI.b0
  have hb2 := hI.b2
  have hb9 := hI.b9
  have hb15 := hI.b15
  have hb18 := hI.b18
  refine CT.intro (by decide +kernel) rfl (Nat.le_of_ble_eq_true rfl) ?_
  show WP mX9_relate _ _ _ _ _ 0 0 0 [(0, .ref (ad 31 0)), (1, .int (nI c)), (2, .int y), (3, .int z), (4, .int u)] []
  refine r_aload_n dX9_relate_0 rfl 0 rfl ?_
  refine r_iload_n dX9_relate_1 rfl 1 rfl ?_
  refine r_callV (st := []) [.int (nI c)] 0 0 dX9_relate_2 kX9_isClause nX9_isClause lRX9_125 (hW.g 31 0 rfl) rfl (c_X9_isClause hW (Nat.le_trans hb9 (by decide)) (nI c)) rfl rfl (Nat.le_of_ble_eq_true rfl) (Nat.le_refl _) (Nat.le_refl _) (fun _ _ h => h.elim) ?_
  refine cx_det (st2 := [.int (b2i (inB (nI c) (B 9 0)))]) rfl ?_
  refine r_if_eq 20 dX9_relate_5 (by decide) (fun c_1 => absurd c_1 (b2i_no (inB_k hc (by omega)))) (fun c_1 => ?_)
  refine r_aload_n dX9_relate_8 rfl 0 rfl ?_
  refine r_iload_n dX9_relate_9 rfl 2 rfl ?_
  refine r_callV (st := []) [.int y] 0 0 dX9_relate_10 kX9_isClause nX9_isClause lRX9_125 (hW.g 31 0 rfl) rfl (c_X9_isClause hW (Nat.le_trans hb9 (by decide)) y) rfl rfl (Nat.le_of_ble_eq_true rfl) (Nat.le_refl _) (Nat.le_refl _) (fun _ _ h => h.elim) ?_
  refine cx_det (st2 := [.int (b2i (inB y (B 9 0)))]) rfl ?_
  refine r_if_eq 20 dX9_relate_13 (by decide) (fun c_2 => ?_) (fun c_2 => absurd (b2i_z hy) c_2)
  refine r_iconst (v := 0) dX9_relate_20 (by decide) ?_
  refine r_istore [(5, .int 0), (0, .ref (ad 31 0)), (1, .int (nI c)), (2, .int y), (3, .int z), (4, .int u)] dX9_relate_21 (by decide) rfl ?_
  refine r_iload_n dX9_relate_23 rfl 2 rfl ?_
  refine r_iload_n dX9_relate_24 rfl 3 rfl ?_
  refine r_icmp_eq 51 dX9_relate_25 (by decide) (fun c_3 => ?_) (fun c_3 => ?_)
  · refine r_iconst (v := 0) dX9_relate_51 (by decide) ?_
    refine r_istore [(6, .int 0), (5, .int 0), (0, .ref (ad 31 0)), (1, .int (nI c)), (2, .int y), (3, .int z), (4, .int u)] dX9_relate_52 (by decide) rfl ?_
    refine r_aload_n dX9_relate_54 rfl 2 rfl ?_
    refine r_iload dX9_relate_55 1 rfl ?_
    refine r_if_ne 64 dX9_relate_57 (by decide) (fun c_4 => absurd (by decide) c_4) (fun c_4 => ?_)
    refine r_iconst (v := 1) dX9_relate_60 (by decide) ?_
    refine r_goto 74 dX9_relate_61 (by decide) ?_
    refine r_callV (st := []) [.int 1] 0 0 dX9_relate_74 kX9_goes nX9_goes lRX9_92 (hW.g 31 0 rfl) rfl (c_goes hW 1) rfl rfl (Nat.le_of_ble_eq_true rfl) (Nat.le_refl _) (Nat.le_refl _) (fun _ _ h => h.elim) ?_
    refine cx_det (st2 := [.int 0]) rfl ?_
    have hW_5 : World A (setA B 26 0 1) ad (va_up G (ad 31 0) (some (.inr (9, (mF B ad).set 26 (.int (nI 1)))))) := m_s26 hW 1
    refine r_heap (G' := va_up G (ad 31 0) (some (.inr (9, (mF B ad).set 26 (.int (nI 1)))))) rfl ?_
    refine r_if_ne 82 dX9_relate_77 (by decide) (fun c_6 => absurd (by decide) c_6) (fun c_6 => ?_)
    refine r_iconst (v := 0) dX9_relate_80 (by decide) ?_
    refine r_ireti dX9_relate_81 rfl ?_
    exact ⟨rfl, (setA B 26 0 1), hW_5, rfl, (s26 (fun f _ => rfl))⟩
  · refine r_iload_n dX9_relate_28 rfl 4 rfl ?_
    refine r_iconst (v := 0) dX9_relate_29 (by decide) ?_
    refine r_iconst (v := 3) dX9_relate_30 (by decide) ?_
    refine r_callS (st := []) [.int z, .int 0, .int 3] 0 0 dX9_relate_31 kX9_isIn nX9_isIn lRX9_73 (c_in (n := 4) z (by decide) (by decide)) rfl rfl (Nat.le_of_ble_eq_true rfl) (Nat.le_refl _) (Nat.le_refl _) (fun _ _ h => h.elim) ?_
    refine cx_det (st2 := [.int (b2i (inB z 4))]) rfl ?_
    refine r_if_eq 51 dX9_relate_34 (by decide) (fun c_7 => ?_) (fun c_7 => ?_)
    · refine r_iconst (v := 0) dX9_relate_51 (by decide) ?_
      refine r_istore [(6, .int 0), (5, .int 0), (0, .ref (ad 31 0)), (1, .int (nI c)), (2, .int y), (3, .int z), (4, .int u)] dX9_relate_52 (by decide) rfl ?_
      refine r_aload_n dX9_relate_54 rfl 2 rfl ?_
      refine r_iload dX9_relate_55 1 rfl ?_
      refine r_if_ne 64 dX9_relate_57 (by decide) (fun c_8 => absurd (by decide) c_8) (fun c_8 => ?_)
      refine r_iconst (v := 1) dX9_relate_60 (by decide) ?_
      refine r_goto 74 dX9_relate_61 (by decide) ?_
      refine r_callV (st := []) [.int 1] 0 0 dX9_relate_74 kX9_goes nX9_goes lRX9_92 (hW.g 31 0 rfl) rfl (c_goes hW 1) rfl rfl (Nat.le_of_ble_eq_true rfl) (Nat.le_refl _) (Nat.le_refl _) (fun _ _ h => h.elim) ?_
      refine cx_det (st2 := [.int 0]) rfl ?_
      have hW_9 : World A (setA B 26 0 1) ad (va_up G (ad 31 0) (some (.inr (9, (mF B ad).set 26 (.int (nI 1)))))) := m_s26 hW 1
      refine r_heap (G' := va_up G (ad 31 0) (some (.inr (9, (mF B ad).set 26 (.int (nI 1)))))) rfl ?_
      refine r_if_ne 82 dX9_relate_77 (by decide) (fun c_10 => absurd (by decide) c_10) (fun c_10 => ?_)
      refine r_iconst (v := 0) dX9_relate_80 (by decide) ?_
      refine r_ireti dX9_relate_81 rfl ?_
      exact ⟨rfl, (setA B 26 0 1), hW_9, rfl, (s26 (fun f _ => rfl))⟩
    · refine r_iload dX9_relate_37 5 rfl ?_
      refine r_iconst (v := 0) dX9_relate_39 (by decide) ?_
      refine r_iconst (v := 2) dX9_relate_40 (by decide) ?_
      refine r_callS (st := []) [.int u, .int 0, .int 2] 0 0 dX9_relate_41 kX9_isIn nX9_isIn lRX9_73 (c_in (n := 3) u (by decide) (by decide)) rfl rfl (Nat.le_of_ble_eq_true rfl) (Nat.le_refl _) (Nat.le_refl _) (fun _ _ h => h.elim) ?_
      refine cx_det (st2 := [.int (b2i (inB u 3))]) rfl ?_
      refine r_if_eq 51 dX9_relate_44 (by decide) (fun c_11 => ?_) (fun c_11 => ?_)
      · refine r_iconst (v := 0) dX9_relate_51 (by decide) ?_
        refine r_istore [(6, .int 0), (5, .int 0), (0, .ref (ad 31 0)), (1, .int (nI c)), (2, .int y), (3, .int z), (4, .int u)] dX9_relate_52 (by decide) rfl ?_
        refine r_aload_n dX9_relate_54 rfl 2 rfl ?_
        refine r_iload dX9_relate_55 1 rfl ?_
        refine r_if_ne 64 dX9_relate_57 (by decide) (fun c_12 => absurd (by decide) c_12) (fun c_12 => ?_)
        refine r_iconst (v := 1) dX9_relate_60 (by decide) ?_
        refine r_goto 74 dX9_relate_61 (by decide) ?_
        refine r_callV (st := []) [.int 1] 0 0 dX9_relate_74 kX9_goes nX9_goes lRX9_92 (hW.g 31 0 rfl) rfl (c_goes hW 1) rfl rfl (Nat.le_of_ble_eq_true rfl) (Nat.le_refl _) (Nat.le_refl _) (fun _ _ h => h.elim) ?_
        refine cx_det (st2 := [.int 0]) rfl ?_
        have hW_13 : World A (setA B 26 0 1) ad (va_up G (ad 31 0) (some (.inr (9, (mF B ad).set 26 (.int (nI 1)))))) := m_s26 hW 1
        refine r_heap (G' := va_up G (ad 31 0) (some (.inr (9, (mF B ad).set 26 (.int (nI 1)))))) rfl ?_
        refine r_if_ne 82 dX9_relate_77 (by decide) (fun c_14 => absurd (by decide) c_14) (fun c_14 => ?_)
        refine r_iconst (v := 0) dX9_relate_80 (by decide) ?_
        refine r_ireti dX9_relate_81 rfl ?_
        exact ⟨rfl, (setA B 26 0 1), hW_13, rfl, (s26 (fun f _ => rfl))⟩
      · refine r_iconst (v := 1) dX9_relate_47 (by decide) ?_
        refine r_goto 52 dX9_relate_48 (by decide) ?_
        refine r_istore [(6, .int 1), (5, .int 0), (0, .ref (ad 31 0)), (1, .int (nI c)), (2, .int y), (3, .int z), (4, .int u)] dX9_relate_52 (by decide) rfl ?_
        refine r_aload_n dX9_relate_54 rfl 2 rfl ?_
        refine r_iload dX9_relate_55 1 rfl ?_
        refine r_if_ne 64 dX9_relate_57 (by decide) (fun c_15 => absurd (by decide) c_15) (fun c_15 => ?_)
        refine r_iconst (v := 1) dX9_relate_60 (by decide) ?_
        refine r_goto 74 dX9_relate_61 (by decide) ?_
        refine r_callV (st := []) [.int 1] 0 0 dX9_relate_74 kX9_goes nX9_goes lRX9_92 (hW.g 31 0 rfl) rfl (c_goes hW 1) rfl rfl (Nat.le_of_ble_eq_true rfl) (Nat.le_refl _) (Nat.le_refl _) (fun _ _ h => h.elim) ?_
        refine cx_det (st2 := [.int 0]) rfl ?_
        have hW_16 : World A (setA B 26 0 1) ad (va_up G (ad 31 0) (some (.inr (9, (mF B ad).set 26 (.int (nI 1)))))) := m_s26 hW 1
        refine r_heap (G' := va_up G (ad 31 0) (some (.inr (9, (mF B ad).set 26 (.int (nI 1)))))) rfl ?_
        refine r_if_ne 82 dX9_relate_77 (by decide) (fun c_17 => absurd (by decide) c_17) (fun c_17 => ?_)
        refine r_iconst (v := 0) dX9_relate_80 (by decide) ?_
        refine r_ireti dX9_relate_81 rfl ?_
        exact ⟨rfl, (setA B 26 0 1), hW_16, rfl, (s26 (fun f _ => rfl))⟩
set_option maxRecDepth 100000 in
set_option maxHeartbeats 4000000 in
theorem m_relate_2a {d b0 : Nat} {G : GH} {A B : ST} {ad : AD} (hW : World A B ad G) (hI : Inv B) {c : Nat} {z u : Int32} (hc : c < B 9 0) : CT mX9_relate (d + 4) b0 G [.ref (ad 31 0), .int (nI c), .int (nI c), .int z, .int u] 0 0 (MPo 0 2 B A ad) (fun _ _ => False) := by
  have hb0 := hI.b0
  have hb2 := hI.b2
  have hb9 := hI.b9
  have hb15 := hI.b15
  have hb18 := hI.b18
  refine CT.intro (by decide +kernel) rfl (Nat.le_of_ble_eq_true rfl) ?_
  show WP mX9_relate _ _ _ _ _ 0 0 0 [(0, .ref (ad 31 0)), (1, .int (nI c)), (2, .int (nI c)), (3, .int z), (4, .int u)] []
  refine r_aload_n dX9_relate_0 rfl 0 rfl ?_
  refine r_iload_n dX9_relate_1 rfl 1 rfl ?_
  refine r_callV (st := []) [.int (nI c)] 0 0 dX9_relate_2 kX9_isClause nX9_isClause lRX9_125 (hW.g 31 0 rfl) rfl (c_X9_isClause hW (Nat.le_trans hb9 (by decide)) (nI c)) rfl rfl (Nat.le_of_ble_eq_true rfl) (Nat.le_refl _) (Nat.le_refl _) (fun _ _ h => h.elim) ?_
  refine cx_det (st2 := [.int (b2i (inB (nI c) (B 9 0)))]) rfl ?_
  refine r_if_eq 20 dX9_relate_5 (by decide) (fun c_1 => absurd c_1 (b2i_no (inB_k hc (by omega)))) (fun c_1 => ?_)
  refine r_aload_n dX9_relate_8 rfl 0 rfl ?_
  refine r_iload_n dX9_relate_9 rfl 2 rfl ?_
  refine r_callV (st := []) [.int (nI c)] 0 0 dX9_relate_10 kX9_isClause nX9_isClause lRX9_125 (hW.g 31 0 rfl) rfl (c_X9_isClause hW (Nat.le_trans hb9 (by decide)) (nI c)) rfl rfl (Nat.le_of_ble_eq_true rfl) (Nat.le_refl _) (Nat.le_refl _) (fun _ _ h => h.elim) ?_
  refine cx_det (st2 := [.int (b2i (inB (nI c) (B 9 0)))]) rfl ?_
  refine r_if_eq 20 dX9_relate_13 (by decide) (fun c_2 => absurd c_2 (b2i_no (inB_k hc (by omega)))) (fun c_2 => ?_)
  refine r_iconst (v := 1) dX9_relate_16 (by decide) ?_
  refine r_goto 21 dX9_relate_17 (by decide) ?_
  refine r_istore [(5, .int 1), (0, .ref (ad 31 0)), (1, .int (nI c)), (2, .int (nI c)), (3, .int z), (4, .int u)] dX9_relate_21 (by decide) rfl ?_
  refine r_iload_n dX9_relate_23 rfl 2 rfl ?_
  refine r_iload_n dX9_relate_24 rfl 3 rfl ?_
  refine r_icmp_eq 51 dX9_relate_25 (by decide) (fun c_3 => ?_) (fun c_3 => absurd rfl c_3)
  refine r_iconst (v := 0) dX9_relate_51 (by decide) ?_
  refine r_istore [(6, .int 0), (5, .int 1), (0, .ref (ad 31 0)), (1, .int (nI c)), (2, .int (nI c)), (3, .int z), (4, .int u)] dX9_relate_52 (by decide) rfl ?_
  refine r_aload_n dX9_relate_54 rfl 2 rfl ?_
  refine r_iload dX9_relate_55 1 rfl ?_
  refine r_if_ne 64 dX9_relate_57 (by decide) (fun c_4 => ?_) (fun c_4 => absurd c_4 (by decide))
  refine r_iload dX9_relate_64 0 rfl ?_
  refine r_if_eq 73 dX9_relate_66 (by decide) (fun c_5 => ?_) (fun c_5 => absurd (by decide) c_5)
  refine r_iconst (v := 2) dX9_relate_73 (by decide) ?_
  refine r_callV (st := []) [.int 2] 0 0 dX9_relate_74 kX9_goes nX9_goes lRX9_92 (hW.g 31 0 rfl) rfl (c_goes hW 2) rfl rfl (Nat.le_of_ble_eq_true rfl) (Nat.le_refl _) (Nat.le_refl _) (fun _ _ h => h.elim) ?_
  refine cx_det (st2 := [.int 0]) rfl ?_
  have hW_6 : World A (setA B 26 0 2) ad (va_up G (ad 31 0) (some (.inr (9, (mF B ad).set 26 (.int (nI 2)))))) := m_s26 hW 2
  refine r_heap (G' := va_up G (ad 31 0) (some (.inr (9, (mF B ad).set 26 (.int (nI 2)))))) rfl ?_
  refine r_if_ne 82 dX9_relate_77 (by decide) (fun c_7 => absurd (by decide) c_7) (fun c_7 => ?_)
  refine r_iconst (v := 0) dX9_relate_80 (by decide) ?_
  refine r_ireti dX9_relate_81 rfl ?_
  exact ⟨rfl, (setA B 26 0 2), hW_6, rfl, (s26 (fun f _ => rfl))⟩
set_option maxRecDepth 100000 in
set_option maxHeartbeats 4000000 in
theorem m_relate_2b {d b0 : Nat} {G : GH} {A B : ST} {ad : AD} (hW : World A B ad G) (hI : Inv B) {c o : Nat} (hc : c < B 9 0) (ho : o < B 9 0) (hco : c ≠ o) {z u : Int32} (hz : inB z 4 = false) : CT mX9_relate (d + 4) b0 G [.ref (ad 31 0), .int (nI c), .int (nI o), .int z, .int u] 0 0 (MPo 0 2 B A ad) (fun _ _ => False) := by
  have hb0 := hI.b0
  have hb2 := hI.b2
  have hb9 := hI.b9
  have hb15 := hI.b15
  have hb18 := hI.b18
  refine CT.intro (by decide +kernel) rfl (Nat.le_of_ble_eq_true rfl) ?_
  show WP mX9_relate _ _ _ _ _ 0 0 0 [(0, .ref (ad 31 0)), (1, .int (nI c)), (2, .int (nI o)), (3, .int z), (4, .int u)] []
  refine r_aload_n dX9_relate_0 rfl 0 rfl ?_
  refine r_iload_n dX9_relate_1 rfl 1 rfl ?_
  refine r_callV (st := []) [.int (nI c)] 0 0 dX9_relate_2 kX9_isClause nX9_isClause lRX9_125 (hW.g 31 0 rfl) rfl (c_X9_isClause hW (Nat.le_trans hb9 (by decide)) (nI c)) rfl rfl (Nat.le_of_ble_eq_true rfl) (Nat.le_refl _) (Nat.le_refl _) (fun _ _ h => h.elim) ?_
  refine cx_det (st2 := [.int (b2i (inB (nI c) (B 9 0)))]) rfl ?_
  refine r_if_eq 20 dX9_relate_5 (by decide) (fun c_1 => absurd c_1 (b2i_no (inB_k hc (by omega)))) (fun c_1 => ?_)
  refine r_aload_n dX9_relate_8 rfl 0 rfl ?_
  refine r_iload_n dX9_relate_9 rfl 2 rfl ?_
  refine r_callV (st := []) [.int (nI o)] 0 0 dX9_relate_10 kX9_isClause nX9_isClause lRX9_125 (hW.g 31 0 rfl) rfl (c_X9_isClause hW (Nat.le_trans hb9 (by decide)) (nI o)) rfl rfl (Nat.le_of_ble_eq_true rfl) (Nat.le_refl _) (Nat.le_refl _) (fun _ _ h => h.elim) ?_
  refine cx_det (st2 := [.int (b2i (inB (nI o) (B 9 0)))]) rfl ?_
  refine r_if_eq 20 dX9_relate_13 (by decide) (fun c_2 => absurd c_2 (b2i_no (inB_k ho (by omega)))) (fun c_2 => ?_)
  refine r_iconst (v := 1) dX9_relate_16 (by decide) ?_
  refine r_goto 21 dX9_relate_17 (by decide) ?_
  refine r_istore [(5, .int 1), (0, .ref (ad 31 0)), (1, .int (nI c)), (2, .int (nI o)), (3, .int z), (4, .int u)] dX9_relate_21 (by decide) rfl ?_
  refine r_iload_n dX9_relate_23 rfl 2 rfl ?_
  refine r_iload_n dX9_relate_24 rfl 3 rfl ?_
  refine r_icmp_eq 51 dX9_relate_25 (by decide) (fun c_3 => absurd c_3 (fun e => hco (ni_eq (by omega) (by omega) e))) (fun c_3 => ?_)
  refine r_iload_n dX9_relate_28 rfl 4 rfl ?_
  refine r_iconst (v := 0) dX9_relate_29 (by decide) ?_
  refine r_iconst (v := 3) dX9_relate_30 (by decide) ?_
  refine r_callS (st := []) [.int z, .int 0, .int 3] 0 0 dX9_relate_31 kX9_isIn nX9_isIn lRX9_73 (c_in (n := 4) z (by decide) (by decide)) rfl rfl (Nat.le_of_ble_eq_true rfl) (Nat.le_refl _) (Nat.le_refl _) (fun _ _ h => h.elim) ?_
  refine cx_det (st2 := [.int (b2i (inB z 4))]) rfl ?_
  refine r_if_eq 51 dX9_relate_34 (by decide) (fun c_4 => ?_) (fun c_4 => absurd (b2i_z hz) c_4)
  refine r_iconst (v := 0) dX9_relate_51 (by decide) ?_
  refine r_istore [(6, .int 0), (5, .int 1), (0, .ref (ad 31 0)), (1, .int (nI c)), (2, .int (nI o)), (3, .int z), (4, .int u)] dX9_relate_52 (by decide) rfl ?_
  refine r_aload_n dX9_relate_54 rfl 2 rfl ?_
  refine r_iload dX9_relate_55 1 rfl ?_
  refine r_if_ne 64 dX9_relate_57 (by decide) (fun c_5 => ?_) (fun c_5 => absurd c_5 (by decide))
  refine r_iload dX9_relate_64 0 rfl ?_
  refine r_if_eq 73 dX9_relate_66 (by decide) (fun c_6 => ?_) (fun c_6 => absurd (by decide) c_6)
  refine r_iconst (v := 2) dX9_relate_73 (by decide) ?_
  refine r_callV (st := []) [.int 2] 0 0 dX9_relate_74 kX9_goes nX9_goes lRX9_92 (hW.g 31 0 rfl) rfl (c_goes hW 2) rfl rfl (Nat.le_of_ble_eq_true rfl) (Nat.le_refl _) (Nat.le_refl _) (fun _ _ h => h.elim) ?_
  refine cx_det (st2 := [.int 0]) rfl ?_
  have hW_7 : World A (setA B 26 0 2) ad (va_up G (ad 31 0) (some (.inr (9, (mF B ad).set 26 (.int (nI 2)))))) := m_s26 hW 2
  refine r_heap (G' := va_up G (ad 31 0) (some (.inr (9, (mF B ad).set 26 (.int (nI 2)))))) rfl ?_
  refine r_if_ne 82 dX9_relate_77 (by decide) (fun c_8 => absurd (by decide) c_8) (fun c_8 => ?_)
  refine r_iconst (v := 0) dX9_relate_80 (by decide) ?_
  refine r_ireti dX9_relate_81 rfl ?_
  exact ⟨rfl, (setA B 26 0 2), hW_7, rfl, (s26 (fun f _ => rfl))⟩
set_option maxRecDepth 100000 in
set_option maxHeartbeats 4000000 in
theorem m_relate_2c {d b0 : Nat} {G : GH} {A B : ST} {ad : AD} (hW : World A B ad G) (hI : Inv B) {c o : Nat} (hc : c < B 9 0) (ho : o < B 9 0) (hco : c ≠ o) {k : Nat} {u : Int32} (hk : k < 4) (hu : inB u 3 = false) : CT mX9_relate (d + 4) b0 G [.ref (ad 31 0), .int (nI c), .int (nI o), .int (nI k), .int u] 0 0 (MPo 0 2 B A ad) (fun _ _ => False) := by
  have hb0 := hI.b0
  have hb2 := hI.b2
  have hb9 := hI.b9
  have hb15 := hI.b15
  have hb18 := hI.b18
  refine CT.intro (by decide +kernel) rfl (Nat.le_of_ble_eq_true rfl) ?_
  show WP mX9_relate _ _ _ _ _ 0 0 0 [(0, .ref (ad 31 0)), (1, .int (nI c)), (2, .int (nI o)), (3, .int (nI k)), (4, .int u)] []
  refine r_aload_n dX9_relate_0 rfl 0 rfl ?_
  refine r_iload_n dX9_relate_1 rfl 1 rfl ?_
  refine r_callV (st := []) [.int (nI c)] 0 0 dX9_relate_2 kX9_isClause nX9_isClause lRX9_125 (hW.g 31 0 rfl) rfl (c_X9_isClause hW (Nat.le_trans hb9 (by decide)) (nI c)) rfl rfl (Nat.le_of_ble_eq_true rfl) (Nat.le_refl _) (Nat.le_refl _) (fun _ _ h => h.elim) ?_
  refine cx_det (st2 := [.int (b2i (inB (nI c) (B 9 0)))]) rfl ?_
  refine r_if_eq 20 dX9_relate_5 (by decide) (fun c_1 => absurd c_1 (b2i_no (inB_k hc (by omega)))) (fun c_1 => ?_)
  refine r_aload_n dX9_relate_8 rfl 0 rfl ?_
  refine r_iload_n dX9_relate_9 rfl 2 rfl ?_
  refine r_callV (st := []) [.int (nI o)] 0 0 dX9_relate_10 kX9_isClause nX9_isClause lRX9_125 (hW.g 31 0 rfl) rfl (c_X9_isClause hW (Nat.le_trans hb9 (by decide)) (nI o)) rfl rfl (Nat.le_of_ble_eq_true rfl) (Nat.le_refl _) (Nat.le_refl _) (fun _ _ h => h.elim) ?_
  refine cx_det (st2 := [.int (b2i (inB (nI o) (B 9 0)))]) rfl ?_
  refine r_if_eq 20 dX9_relate_13 (by decide) (fun c_2 => absurd c_2 (b2i_no (inB_k ho (by omega)))) (fun c_2 => ?_)
  refine r_iconst (v := 1) dX9_relate_16 (by decide) ?_
  refine r_goto 21 dX9_relate_17 (by decide) ?_
  refine r_istore [(5, .int 1), (0, .ref (ad 31 0)), (1, .int (nI c)), (2, .int (nI o)), (3, .int (nI k)), (4, .int u)] dX9_relate_21 (by decide) rfl ?_
  refine r_iload_n dX9_relate_23 rfl 2 rfl ?_
  refine r_iload_n dX9_relate_24 rfl 3 rfl ?_
  refine r_icmp_eq 51 dX9_relate_25 (by decide) (fun c_3 => absurd c_3 (fun e => hco (ni_eq (by omega) (by omega) e))) (fun c_3 => ?_)
  refine r_iload_n dX9_relate_28 rfl 4 rfl ?_
  refine r_iconst (v := 0) dX9_relate_29 (by decide) ?_
  refine r_iconst (v := 3) dX9_relate_30 (by decide) ?_
  refine r_callS (st := []) [.int (nI k), .int 0, .int 3] 0 0 dX9_relate_31 kX9_isIn nX9_isIn lRX9_73 (c_in (n := 4) (nI k) (by decide) (by decide)) rfl rfl (Nat.le_of_ble_eq_true rfl) (Nat.le_refl _) (Nat.le_refl _) (fun _ _ h => h.elim) ?_
  refine cx_det (st2 := [.int (b2i (inB (nI k) 4))]) rfl ?_
  refine r_if_eq 51 dX9_relate_34 (by decide) (fun c_4 => absurd c_4 (b2i_no (inB_k hk (by decide)))) (fun c_4 => ?_)
  refine r_iload dX9_relate_37 5 rfl ?_
  refine r_iconst (v := 0) dX9_relate_39 (by decide) ?_
  refine r_iconst (v := 2) dX9_relate_40 (by decide) ?_
  refine r_callS (st := []) [.int u, .int 0, .int 2] 0 0 dX9_relate_41 kX9_isIn nX9_isIn lRX9_73 (c_in (n := 3) u (by decide) (by decide)) rfl rfl (Nat.le_of_ble_eq_true rfl) (Nat.le_refl _) (Nat.le_refl _) (fun _ _ h => h.elim) ?_
  refine cx_det (st2 := [.int (b2i (inB u 3))]) rfl ?_
  refine r_if_eq 51 dX9_relate_44 (by decide) (fun c_5 => ?_) (fun c_5 => absurd (b2i_z hu) c_5)
  refine r_iconst (v := 0) dX9_relate_51 (by decide) ?_
  refine r_istore [(6, .int 0), (5, .int 1), (0, .ref (ad 31 0)), (1, .int (nI c)), (2, .int (nI o)), (3, .int (nI k)), (4, .int u)] dX9_relate_52 (by decide) rfl ?_
  refine r_aload_n dX9_relate_54 rfl 2 rfl ?_
  refine r_iload dX9_relate_55 1 rfl ?_
  refine r_if_ne 64 dX9_relate_57 (by decide) (fun c_6 => ?_) (fun c_6 => absurd c_6 (by decide))
  refine r_iload dX9_relate_64 0 rfl ?_
  refine r_if_eq 73 dX9_relate_66 (by decide) (fun c_7 => ?_) (fun c_7 => absurd (by decide) c_7)
  refine r_iconst (v := 2) dX9_relate_73 (by decide) ?_
  refine r_callV (st := []) [.int 2] 0 0 dX9_relate_74 kX9_goes nX9_goes lRX9_92 (hW.g 31 0 rfl) rfl (c_goes hW 2) rfl rfl (Nat.le_of_ble_eq_true rfl) (Nat.le_refl _) (Nat.le_refl _) (fun _ _ h => h.elim) ?_
  refine cx_det (st2 := [.int 0]) rfl ?_
  have hW_8 : World A (setA B 26 0 2) ad (va_up G (ad 31 0) (some (.inr (9, (mF B ad).set 26 (.int (nI 2)))))) := m_s26 hW 2
  refine r_heap (G' := va_up G (ad 31 0) (some (.inr (9, (mF B ad).set 26 (.int (nI 2)))))) rfl ?_
  refine r_if_ne 82 dX9_relate_77 (by decide) (fun c_9 => absurd (by decide) c_9) (fun c_9 => ?_)
  refine r_iconst (v := 0) dX9_relate_80 (by decide) ?_
  refine r_ireti dX9_relate_81 rfl ?_
  exact ⟨rfl, (setA B 26 0 2), hW_8, rfl, (s26 (fun f _ => rfl))⟩
set_option maxRecDepth 100000 in
set_option maxHeartbeats 4000000 in
theorem m_approve_0 {d b0 : Nat} {G : GH} {A B : ST} {ad : AD} (hW : World A B ad G) (hI : Inv B) {c l : Nat} (hc : c < B 9 0) (hl : l < 3) (hth : 0 < B 12 (3 * c + l)) (hth2 : B 12 (3 * c + l) ≤ 60) (ha : B 13 (3 * c + l) = 0) : CT mX9_approve (d + 4) b0 G [.ref (ad 31 0), .int (nI c), .int (nI l)] 0 0 (MPo 1 0 (setA B 13 (3 * c + l) 1) A ad) (fun _ _ => False) := by
  have hb0 := hI.b0
  have hb2 := hI.b2
  have hb9 := hI.b9
  have hb15 := hI.b15
  have hb18 := hI.b18
  have ht : 3 * c + l < 30 := by omega
  refine CT.intro (by decide +kernel) rfl (Nat.le_of_ble_eq_true rfl) ?_
  show WP mX9_approve _ _ _ _ _ 0 0 0 [(0, .ref (ad 31 0)), (1, .int (nI c)), (2, .int (nI l))] []
  refine r_aload_n dX9_approve_0 rfl 0 rfl ?_
  refine r_iload_n dX9_approve_1 rfl 1 rfl ?_
  refine r_callV (st := []) [.int (nI c)] 0 0 dX9_approve_2 kX9_isClause nX9_isClause lRX9_125 (hW.g 31 0 rfl) rfl (c_X9_isClause hW (Nat.le_trans hb9 (by decide)) (nI c)) rfl rfl (Nat.le_of_ble_eq_true rfl) (Nat.le_refl _) (Nat.le_refl _) (fun _ _ h => h.elim) ?_
  refine cx_det (st2 := [.int (b2i (inB (nI c) (B 9 0)))]) rfl ?_
  refine r_if_eq 19 dX9_approve_5 (by decide) (fun c_1 => absurd c_1 (b2i_no (inB_k hc (by omega)))) (fun c_1 => ?_)
  refine r_iload_n dX9_approve_8 rfl 2 rfl ?_
  refine r_callS (st := []) [.int (nI l)] 0 0 dX9_approve_9 kX9_isLanguage nX9_isLanguage lRX9_108 (c_mLang (nI l)) rfl rfl (Nat.le_of_ble_eq_true rfl) (Nat.le_refl _) (Nat.le_refl _) (fun _ _ h => h.elim) ?_
  refine cx_det (st2 := [.int (b2i (inB (nI l) 3))]) rfl ?_
  refine r_if_eq 19 dX9_approve_12 (by decide) (fun c_2 => absurd c_2 (b2i_no (inB_k hl (by decide)))) (fun c_2 => ?_)
  refine r_iconst (v := 1) dX9_approve_15 (by decide) ?_
  refine r_goto 20 dX9_approve_16 (by decide) ?_
  refine r_istore_n [(3, .int 1), (0, .ref (ad 31 0)), (1, .int (nI c)), (2, .int (nI l))] dX9_approve_20 rfl (by decide) rfl ?_
  refine r_aload_n dX9_approve_21 rfl 1 rfl ?_
  refine r_iload_n dX9_approve_22 rfl 0 rfl ?_
  refine r_if_ne 30 dX9_approve_23 (by decide) (fun c_3 => ?_) (fun c_3 => absurd c_3 (by decide))
  refine r_aload_n dX9_approve_30 rfl 1 rfl ?_
  refine r_get 12 dX9_approve_31 fRX9_38 (hW.g 31 0 rfl) rfl ?_
  refine r_iload_n dX9_approve_34 rfl 2 rfl ?_
  refine r_iload_n dX9_approve_35 rfl 3 rfl ?_
  refine r_callS (st := [.ref (ad 32 12), .ref (ad 31 0)]) [.int (nI c), .int (nI l)] 0 0 dX9_approve_36 kX9_at nX9_at lRX9_128 (c_mat c l) rfl rfl (Nat.le_of_ble_eq_true rfl) (Nat.le_refl _) (Nat.le_refl _) (fun _ _ h => h.elim) ?_
  refine cx_det (st2 := [.int (nI (3 * c + l)), .ref (ad 32 12), .ref (ad 31 0)]) rfl ?_
  refine r_iald dX9_approve_39 (hW.g 32 12 rfl) (vp_in_nI (by omega) (by decide)) ?_
  refine r_top (nI (B 12 (3 * c + l))) (by rw [nI_cl (by omega)]; exact rgm (by omega)) ?_
  refine r_if_ne 47 dX9_approve_40 (by decide) (fun c_4 => ?_) (fun c_4 => absurd c_4 (fun q => absurd (ni_eq (b := 0) (by omega) (by decide) q) (by omega)))
  refine r_iconst (v := 0) dX9_approve_47 (by decide) ?_
  refine r_callV (st := []) [.int 0] 0 0 dX9_approve_48 kX9_goes nX9_goes lRX9_92 (hW.g 31 0 rfl) rfl (c_goes hW 0) rfl rfl (Nat.le_of_ble_eq_true rfl) (Nat.le_refl _) (Nat.le_refl _) (fun _ _ h => h.elim) ?_
  refine cx_det (st2 := [.int 1]) rfl ?_
  have hW_5 : World A (setA B 26 0 0) ad (va_up G (ad 31 0) (some (.inr (9, (mF B ad).set 26 (.int (nI 0)))))) := m_s26 hW 0
  refine r_heap (G' := va_up G (ad 31 0) (some (.inr (9, (mF B ad).set 26 (.int (nI 0)))))) rfl ?_
  refine r_if_ne 56 dX9_approve_51 (by decide) (fun c_6 => ?_) (fun c_6 => absurd c_6 (by decide))
  refine r_aload_n dX9_approve_56 rfl 1 rfl ?_
  refine r_get 13 dX9_approve_57 fRX9_41 (hW_5.g 31 0 rfl) rfl ?_
  refine r_iload_n dX9_approve_60 rfl 2 rfl ?_
  refine r_iload_n dX9_approve_61 rfl 3 rfl ?_
  refine r_callS (st := [.ref (ad 32 13)]) [.int (nI c), .int (nI l)] 0 0 dX9_approve_62 kX9_at nX9_at lRX9_128 (c_mat c l) rfl rfl (Nat.le_of_ble_eq_true rfl) (Nat.le_refl _) (Nat.le_refl _) (fun _ _ h => h.elim) ?_
  refine cx_det (st2 := [.int (nI (3 * c + l)), .ref (ad 32 13)]) rfl ?_
  refine r_zald dX9_approve_65 (hW_5.g 32 13 rfl) (vp_in_nI (by omega) (by decide)) ?_
  refine r_top (nI (B 13 (3 * c + l))) (by rw [nI_cl (by omega)]; exact rgm (by omega)) ?_
  refine r_istore [(4, .int (nI (B 13 (3 * c + l)))), (3, .int 1), (0, .ref (ad 31 0)), (1, .int (nI c)), (2, .int (nI l))] dX9_approve_66 (by decide) rfl ?_
  refine r_aload_n dX9_approve_68 rfl 2 rfl ?_
  refine r_get 13 dX9_approve_69 fRX9_41 (hW_5.g 31 0 rfl) rfl ?_
  refine r_iload_n dX9_approve_72 rfl 3 rfl ?_
  refine r_iload_n dX9_approve_73 rfl 4 rfl ?_
  refine r_callS (st := [.ref (ad 32 13)]) [.int (nI c), .int (nI l)] 0 0 dX9_approve_74 kX9_at nX9_at lRX9_128 (c_mat c l) rfl rfl (Nat.le_of_ble_eq_true rfl) (Nat.le_refl _) (Nat.le_refl _) (fun _ _ h => h.elim) ?_
  refine cx_det (st2 := [.int (nI (3 * c + l)), .ref (ad 32 13)]) rfl ?_
  refine r_iconst (v := 1) dX9_approve_77 (by decide) ?_
  refine r_zast dX9_approve_78 (hW_5.g 32 13 rfl) (vp_in_nI (by omega) (by decide)) rfl ?_
  have hW_8 : World A (setA (setA B 26 0 0) 13 (3 * c + l) 1) ad (va_up (va_up G (ad 31 0) (some (.inr (9, (mF B ad).set 26 (.int (nI 0)))))) (ad 32 13) (some (.inl (.boolean, 30, .inl (upd (rg (setA B 26 0 0) 13 0 30) (3 * c + l) (nI 1)))))) := m_a13 hW_5 (by omega)
  refine r_heap (G' := va_up (va_up G (ad 31 0) (some (.inr (9, (mF B ad).set 26 (.int (nI 0)))))) (ad 32 13) (some (.inl (.boolean, 30, .inl (upd (rg (setA B 26 0 0) 13 0 30) (3 * c + l) (nI 1)))))) (by rw [nI_cl (by omega)] <;> rfl) ?_
  refine r_iload dX9_approve_79 0 rfl ?_
  refine r_if_ne 88 dX9_approve_81 (by decide) (fun c_9 => absurd (show nI (B 13 (3 * c + l)) = 0 by rw [ha]; rfl) c_9) (fun c_9 => ?_)
  refine r_iconst (v := 1) dX9_approve_84 (by decide) ?_
  refine r_goto 89 dX9_approve_85 (by decide) ?_
  refine r_ret .boolean dX9_approve_89 rfl rfl ?_
  exact ⟨rfl, (setA (setA B 26 0 0) 13 (3 * c + l) 1), hW_8, rfl, (scg (s26 (fun f _ => rfl)))⟩
set_option maxRecDepth 100000 in
set_option maxHeartbeats 4000000 in
theorem m_approve_0b {d b0 : Nat} {G : GH} {A B : ST} {ad : AD} (hW : World A B ad G) (hI : Inv B) {c l : Nat} (hc : c < B 9 0) (hl : l < 3) (hth : 0 < B 12 (3 * c + l)) (hth2 : B 12 (3 * c + l) ≤ 60) (ha : B 13 (3 * c + l) = 1) : CT mX9_approve (d + 4) b0 G [.ref (ad 31 0), .int (nI c), .int (nI l)] 0 0 (MPo 0 0 (setA B 13 (3 * c + l) 1) A ad) (fun _ _ => False) := by
  have hb0 := hI.b0
  have hb2 := hI.b2
  have hb9 := hI.b9
  have hb15 := hI.b15
  have hb18 := hI.b18
  have ht : 3 * c + l < 30 := by omega
  refine CT.intro (by decide +kernel) rfl (Nat.le_of_ble_eq_true rfl) ?_
  show WP mX9_approve _ _ _ _ _ 0 0 0 [(0, .ref (ad 31 0)), (1, .int (nI c)), (2, .int (nI l))] []
  refine r_aload_n dX9_approve_0 rfl 0 rfl ?_
  refine r_iload_n dX9_approve_1 rfl 1 rfl ?_
  refine r_callV (st := []) [.int (nI c)] 0 0 dX9_approve_2 kX9_isClause nX9_isClause lRX9_125 (hW.g 31 0 rfl) rfl (c_X9_isClause hW (Nat.le_trans hb9 (by decide)) (nI c)) rfl rfl (Nat.le_of_ble_eq_true rfl) (Nat.le_refl _) (Nat.le_refl _) (fun _ _ h => h.elim) ?_
  refine cx_det (st2 := [.int (b2i (inB (nI c) (B 9 0)))]) rfl ?_
  refine r_if_eq 19 dX9_approve_5 (by decide) (fun c_1 => absurd c_1 (b2i_no (inB_k hc (by omega)))) (fun c_1 => ?_)
  refine r_iload_n dX9_approve_8 rfl 2 rfl ?_
  refine r_callS (st := []) [.int (nI l)] 0 0 dX9_approve_9 kX9_isLanguage nX9_isLanguage lRX9_108 (c_mLang (nI l)) rfl rfl (Nat.le_of_ble_eq_true rfl) (Nat.le_refl _) (Nat.le_refl _) (fun _ _ h => h.elim) ?_
  refine cx_det (st2 := [.int (b2i (inB (nI l) 3))]) rfl ?_
  refine r_if_eq 19 dX9_approve_12 (by decide) (fun c_2 => absurd c_2 (b2i_no (inB_k hl (by decide)))) (fun c_2 => ?_)
  refine r_iconst (v := 1) dX9_approve_15 (by decide) ?_
  refine r_goto 20 dX9_approve_16 (by decide) ?_
  refine r_istore_n [(3, .int 1), (0, .ref (ad 31 0)), (1, .int (nI c)), (2, .int (nI l))] dX9_approve_20 rfl (by decide) rfl ?_
  refine r_aload_n dX9_approve_21 rfl 1 rfl ?_
  refine r_iload_n dX9_approve_22 rfl 0 rfl ?_
  refine r_if_ne 30 dX9_approve_23 (by decide) (fun c_3 => ?_) (fun c_3 => absurd c_3 (by decide))
  refine r_aload_n dX9_approve_30 rfl 1 rfl ?_
  refine r_get 12 dX9_approve_31 fRX9_38 (hW.g 31 0 rfl) rfl ?_
  refine r_iload_n dX9_approve_34 rfl 2 rfl ?_
  refine r_iload_n dX9_approve_35 rfl 3 rfl ?_
  refine r_callS (st := [.ref (ad 32 12), .ref (ad 31 0)]) [.int (nI c), .int (nI l)] 0 0 dX9_approve_36 kX9_at nX9_at lRX9_128 (c_mat c l) rfl rfl (Nat.le_of_ble_eq_true rfl) (Nat.le_refl _) (Nat.le_refl _) (fun _ _ h => h.elim) ?_
  refine cx_det (st2 := [.int (nI (3 * c + l)), .ref (ad 32 12), .ref (ad 31 0)]) rfl ?_
  refine r_iald dX9_approve_39 (hW.g 32 12 rfl) (vp_in_nI (by omega) (by decide)) ?_
  refine r_top (nI (B 12 (3 * c + l))) (by rw [nI_cl (by omega)]; exact rgm (by omega)) ?_
  refine r_if_ne 47 dX9_approve_40 (by decide) (fun c_4 => ?_) (fun c_4 => absurd c_4 (fun q => absurd (ni_eq (b := 0) (by omega) (by decide) q) (by omega)))
  refine r_iconst (v := 0) dX9_approve_47 (by decide) ?_
  refine r_callV (st := []) [.int 0] 0 0 dX9_approve_48 kX9_goes nX9_goes lRX9_92 (hW.g 31 0 rfl) rfl (c_goes hW 0) rfl rfl (Nat.le_of_ble_eq_true rfl) (Nat.le_refl _) (Nat.le_refl _) (fun _ _ h => h.elim) ?_
  refine cx_det (st2 := [.int 1]) rfl ?_
  have hW_5 : World A (setA B 26 0 0) ad (va_up G (ad 31 0) (some (.inr (9, (mF B ad).set 26 (.int (nI 0)))))) := m_s26 hW 0
  refine r_heap (G' := va_up G (ad 31 0) (some (.inr (9, (mF B ad).set 26 (.int (nI 0)))))) rfl ?_
  refine r_if_ne 56 dX9_approve_51 (by decide) (fun c_6 => ?_) (fun c_6 => absurd c_6 (by decide))
  refine r_aload_n dX9_approve_56 rfl 1 rfl ?_
  refine r_get 13 dX9_approve_57 fRX9_41 (hW_5.g 31 0 rfl) rfl ?_
  refine r_iload_n dX9_approve_60 rfl 2 rfl ?_
  refine r_iload_n dX9_approve_61 rfl 3 rfl ?_
  refine r_callS (st := [.ref (ad 32 13)]) [.int (nI c), .int (nI l)] 0 0 dX9_approve_62 kX9_at nX9_at lRX9_128 (c_mat c l) rfl rfl (Nat.le_of_ble_eq_true rfl) (Nat.le_refl _) (Nat.le_refl _) (fun _ _ h => h.elim) ?_
  refine cx_det (st2 := [.int (nI (3 * c + l)), .ref (ad 32 13)]) rfl ?_
  refine r_zald dX9_approve_65 (hW_5.g 32 13 rfl) (vp_in_nI (by omega) (by decide)) ?_
  refine r_top (nI (B 13 (3 * c + l))) (by rw [nI_cl (by omega)]; exact rgm (by omega)) ?_
  refine r_istore [(4, .int (nI (B 13 (3 * c + l)))), (3, .int 1), (0, .ref (ad 31 0)), (1, .int (nI c)), (2, .int (nI l))] dX9_approve_66 (by decide) rfl ?_
  refine r_aload_n dX9_approve_68 rfl 2 rfl ?_
  refine r_get 13 dX9_approve_69 fRX9_41 (hW_5.g 31 0 rfl) rfl ?_
  refine r_iload_n dX9_approve_72 rfl 3 rfl ?_
  refine r_iload_n dX9_approve_73 rfl 4 rfl ?_
  refine r_callS (st := [.ref (ad 32 13)]) [.int (nI c), .int (nI l)] 0 0 dX9_approve_74 kX9_at nX9_at lRX9_128 (c_mat c l) rfl rfl (Nat.le_of_ble_eq_true rfl) (Nat.le_refl _) (Nat.le_refl _) (fun _ _ h => h.elim) ?_
  refine cx_det (st2 := [.int (nI (3 * c + l)), .ref (ad 32 13)]) rfl ?_
  refine r_iconst (v := 1) dX9_approve_77 (by decide) ?_
  refine r_zast dX9_approve_78 (hW_5.g 32 13 rfl) (vp_in_nI (by omega) (by decide)) rfl ?_
  have hW_8 : World A (setA (setA B 26 0 0) 13 (3 * c + l) 1) ad (va_up (va_up G (ad 31 0) (some (.inr (9, (mF B ad).set 26 (.int (nI 0)))))) (ad 32 13) (some (.inl (.boolean, 30, .inl (upd (rg (setA B 26 0 0) 13 0 30) (3 * c + l) (nI 1)))))) := m_a13 hW_5 (by omega)
  refine r_heap (G' := va_up (va_up G (ad 31 0) (some (.inr (9, (mF B ad).set 26 (.int (nI 0)))))) (ad 32 13) (some (.inl (.boolean, 30, .inl (upd (rg (setA B 26 0 0) 13 0 30) (3 * c + l) (nI 1)))))) (by rw [nI_cl (by omega)] <;> rfl) ?_
  refine r_iload dX9_approve_79 0 rfl ?_
  refine r_if_ne 88 dX9_approve_81 (by decide) (fun c_9 => ?_) (fun c_9 => absurd c_9 (show ¬ nI (B 13 (3 * c + l)) = 0 by rw [ha]; decide))
  refine r_iconst (v := 0) dX9_approve_88 (by decide) ?_
  refine r_ret .boolean dX9_approve_89 rfl rfl ?_
  exact ⟨rfl, (setA (setA B 26 0 0) 13 (3 * c + l) 1), hW_8, rfl, (scg (s26 (fun f _ => rfl)))⟩
set_option maxRecDepth 100000 in
set_option maxHeartbeats 4000000 in
theorem m_approve_1a {d b0 : Nat} {G : GH} {A B : ST} {ad : AD} (hW : World A B ad G) (hI : Inv B) {x y : Int32} (hx : inB x (B 9 0) = false) : CT mX9_approve (d + 4) b0 G [.ref (ad 31 0), .int x, .int y] 0 0 (MPo 0 1 B A ad) (fun _ _ => False) := by
  have hb0 := hI.b0
  have hb2 := hI.b2
  have hb9 := hI.b9
  have hb15 := hI.b15
  have hb18 := hI.b18
  refine CT.intro (by decide +kernel) rfl (Nat.le_of_ble_eq_true rfl) ?_
  show WP mX9_approve _ _ _ _ _ 0 0 0 [(0, .ref (ad 31 0)), (1, .int x), (2, .int y)] []
  refine r_aload_n dX9_approve_0 rfl 0 rfl ?_
  refine r_iload_n dX9_approve_1 rfl 1 rfl ?_
  refine r_callV (st := []) [.int x] 0 0 dX9_approve_2 kX9_isClause nX9_isClause lRX9_125 (hW.g 31 0 rfl) rfl (c_X9_isClause hW (Nat.le_trans hb9 (by decide)) x) rfl rfl (Nat.le_of_ble_eq_true rfl) (Nat.le_refl _) (Nat.le_refl _) (fun _ _ h => h.elim) ?_
  refine cx_det (st2 := [.int (b2i (inB x (B 9 0)))]) rfl ?_
  refine r_if_eq 19 dX9_approve_5 (by decide) (fun c_1 => ?_) (fun c_1 => absurd (b2i_z hx) c_1)
  refine r_iconst (v := 0) dX9_approve_19 (by decide) ?_
  refine r_istore_n [(3, .int 0), (0, .ref (ad 31 0)), (1, .int x), (2, .int y)] dX9_approve_20 rfl (by decide) rfl ?_
  refine r_aload_n dX9_approve_21 rfl 1 rfl ?_
  refine r_iload_n dX9_approve_22 rfl 0 rfl ?_
  refine r_if_ne 30 dX9_approve_23 (by decide) (fun c_2 => absurd (by decide) c_2) (fun c_2 => ?_)
  refine r_iconst (v := 1) dX9_approve_26 (by decide) ?_
  refine r_goto 48 dX9_approve_27 (by decide) ?_
  refine r_callV (st := []) [.int 1] 0 0 dX9_approve_48 kX9_goes nX9_goes lRX9_92 (hW.g 31 0 rfl) rfl (c_goes hW 1) rfl rfl (Nat.le_of_ble_eq_true rfl) (Nat.le_refl _) (Nat.le_refl _) (fun _ _ h => h.elim) ?_
  refine cx_det (st2 := [.int 0]) rfl ?_
  have hW_3 : World A (setA B 26 0 1) ad (va_up G (ad 31 0) (some (.inr (9, (mF B ad).set 26 (.int (nI 1)))))) := m_s26 hW 1
  refine r_heap (G' := va_up G (ad 31 0) (some (.inr (9, (mF B ad).set 26 (.int (nI 1)))))) rfl ?_
  refine r_if_ne 56 dX9_approve_51 (by decide) (fun c_4 => absurd (by decide) c_4) (fun c_4 => ?_)
  refine r_iconst (v := 0) dX9_approve_54 (by decide) ?_
  refine r_ret .boolean dX9_approve_55 rfl rfl ?_
  exact ⟨rfl, (setA B 26 0 1), hW_3, rfl, (s26 (fun f _ => rfl))⟩
set_option maxRecDepth 100000 in
set_option maxHeartbeats 4000000 in
theorem m_approve_1b {d b0 : Nat} {G : GH} {A B : ST} {ad : AD} (hW : World A B ad G) (hI : Inv B) {c : Nat} {y : Int32} (hc : c < B 9 0) (hy : inB y 3 = false) : CT mX9_approve (d + 4) b0 G [.ref (ad 31 0), .int (nI c), .int y] 0 0 (MPo 0 1 B A ad) (fun _ _ => False) := by
  have hb0 := hI.b0
  have hb2 := hI.b2
  have hb9 := hI.b9
  have hb15 := hI.b15
  have hb18 := hI.b18
  refine CT.intro (by decide +kernel) rfl (Nat.le_of_ble_eq_true rfl) ?_
  show WP mX9_approve _ _ _ _ _ 0 0 0 [(0, .ref (ad 31 0)), (1, .int (nI c)), (2, .int y)] []
  refine r_aload_n dX9_approve_0 rfl 0 rfl ?_
  refine r_iload_n dX9_approve_1 rfl 1 rfl ?_
  refine r_callV (st := []) [.int (nI c)] 0 0 dX9_approve_2 kX9_isClause nX9_isClause lRX9_125 (hW.g 31 0 rfl) rfl (c_X9_isClause hW (Nat.le_trans hb9 (by decide)) (nI c)) rfl rfl (Nat.le_of_ble_eq_true rfl) (Nat.le_refl _) (Nat.le_refl _) (fun _ _ h => h.elim) ?_
  refine cx_det (st2 := [.int (b2i (inB (nI c) (B 9 0)))]) rfl ?_
  refine r_if_eq 19 dX9_approve_5 (by decide) (fun c_1 => absurd c_1 (b2i_no (inB_k hc (by omega)))) (fun c_1 => ?_)
  refine r_iload_n dX9_approve_8 rfl 2 rfl ?_
  refine r_callS (st := []) [.int y] 0 0 dX9_approve_9 kX9_isLanguage nX9_isLanguage lRX9_108 (c_mLang y) rfl rfl (Nat.le_of_ble_eq_true rfl) (Nat.le_refl _) (Nat.le_refl _) (fun _ _ h => h.elim) ?_
  refine cx_det (st2 := [.int (b2i (inB y 3))]) rfl ?_
  refine r_if_eq 19 dX9_approve_12 (by decide) (fun c_2 => ?_) (fun c_2 => absurd (b2i_z hy) c_2)
  refine r_iconst (v := 0) dX9_approve_19 (by decide) ?_
  refine r_istore_n [(3, .int 0), (0, .ref (ad 31 0)), (1, .int (nI c)), (2, .int y)] dX9_approve_20 rfl (by decide) rfl ?_
  refine r_aload_n dX9_approve_21 rfl 1 rfl ?_
  refine r_iload_n dX9_approve_22 rfl 0 rfl ?_
  refine r_if_ne 30 dX9_approve_23 (by decide) (fun c_3 => absurd (by decide) c_3) (fun c_3 => ?_)
  refine r_iconst (v := 1) dX9_approve_26 (by decide) ?_
  refine r_goto 48 dX9_approve_27 (by decide) ?_
  refine r_callV (st := []) [.int 1] 0 0 dX9_approve_48 kX9_goes nX9_goes lRX9_92 (hW.g 31 0 rfl) rfl (c_goes hW 1) rfl rfl (Nat.le_of_ble_eq_true rfl) (Nat.le_refl _) (Nat.le_refl _) (fun _ _ h => h.elim) ?_
  refine cx_det (st2 := [.int 0]) rfl ?_
  have hW_4 : World A (setA B 26 0 1) ad (va_up G (ad 31 0) (some (.inr (9, (mF B ad).set 26 (.int (nI 1)))))) := m_s26 hW 1
  refine r_heap (G' := va_up G (ad 31 0) (some (.inr (9, (mF B ad).set 26 (.int (nI 1)))))) rfl ?_
  refine r_if_ne 56 dX9_approve_51 (by decide) (fun c_5 => absurd (by decide) c_5) (fun c_5 => ?_)
  refine r_iconst (v := 0) dX9_approve_54 (by decide) ?_
  refine r_ret .boolean dX9_approve_55 rfl rfl ?_
  exact ⟨rfl, (setA B 26 0 1), hW_4, rfl, (s26 (fun f _ => rfl))⟩
set_option maxRecDepth 100000 in
set_option maxHeartbeats 4000000 in
theorem m_approve_2 {d b0 : Nat} {G : GH} {A B : ST} {ad : AD} (hW : World A B ad G) (hI : Inv B) {c l : Nat} (hc : c < B 9 0) (hl : l < 3) (hth : B 12 (3 * c + l) = 0) : CT mX9_approve (d + 4) b0 G [.ref (ad 31 0), .int (nI c), .int (nI l)] 0 0 (MPo 0 2 B A ad) (fun _ _ => False) := by
  have hb0 := hI.b0
  have hb2 := hI.b2
  have hb9 := hI.b9
  have hb15 := hI.b15
  have hb18 := hI.b18
  have ht : 3 * c + l < 30 := by omega
  refine CT.intro (by decide +kernel) rfl (Nat.le_of_ble_eq_true rfl) ?_
  show WP mX9_approve _ _ _ _ _ 0 0 0 [(0, .ref (ad 31 0)), (1, .int (nI c)), (2, .int (nI l))] []
  refine r_aload_n dX9_approve_0 rfl 0 rfl ?_
  refine r_iload_n dX9_approve_1 rfl 1 rfl ?_
  refine r_callV (st := []) [.int (nI c)] 0 0 dX9_approve_2 kX9_isClause nX9_isClause lRX9_125 (hW.g 31 0 rfl) rfl (c_X9_isClause hW (Nat.le_trans hb9 (by decide)) (nI c)) rfl rfl (Nat.le_of_ble_eq_true rfl) (Nat.le_refl _) (Nat.le_refl _) (fun _ _ h => h.elim) ?_
  refine cx_det (st2 := [.int (b2i (inB (nI c) (B 9 0)))]) rfl ?_
  refine r_if_eq 19 dX9_approve_5 (by decide) (fun c_1 => absurd c_1 (b2i_no (inB_k hc (by omega)))) (fun c_1 => ?_)
  refine r_iload_n dX9_approve_8 rfl 2 rfl ?_
  refine r_callS (st := []) [.int (nI l)] 0 0 dX9_approve_9 kX9_isLanguage nX9_isLanguage lRX9_108 (c_mLang (nI l)) rfl rfl (Nat.le_of_ble_eq_true rfl) (Nat.le_refl _) (Nat.le_refl _) (fun _ _ h => h.elim) ?_
  refine cx_det (st2 := [.int (b2i (inB (nI l) 3))]) rfl ?_
  refine r_if_eq 19 dX9_approve_12 (by decide) (fun c_2 => absurd c_2 (b2i_no (inB_k hl (by decide)))) (fun c_2 => ?_)
  refine r_iconst (v := 1) dX9_approve_15 (by decide) ?_
  refine r_goto 20 dX9_approve_16 (by decide) ?_
  refine r_istore_n [(3, .int 1), (0, .ref (ad 31 0)), (1, .int (nI c)), (2, .int (nI l))] dX9_approve_20 rfl (by decide) rfl ?_
  refine r_aload_n dX9_approve_21 rfl 1 rfl ?_
  refine r_iload_n dX9_approve_22 rfl 0 rfl ?_
  refine r_if_ne 30 dX9_approve_23 (by decide) (fun c_3 => ?_) (fun c_3 => absurd c_3 (by decide))
  refine r_aload_n dX9_approve_30 rfl 1 rfl ?_
  refine r_get 12 dX9_approve_31 fRX9_38 (hW.g 31 0 rfl) rfl ?_
  refine r_iload_n dX9_approve_34 rfl 2 rfl ?_
  refine r_iload_n dX9_approve_35 rfl 3 rfl ?_
  refine r_callS (st := [.ref (ad 32 12), .ref (ad 31 0)]) [.int (nI c), .int (nI l)] 0 0 dX9_approve_36 kX9_at nX9_at lRX9_128 (c_mat c l) rfl rfl (Nat.le_of_ble_eq_true rfl) (Nat.le_refl _) (Nat.le_refl _) (fun _ _ h => h.elim) ?_
  refine cx_det (st2 := [.int (nI (3 * c + l)), .ref (ad 32 12), .ref (ad 31 0)]) rfl ?_
  refine r_iald dX9_approve_39 (hW.g 32 12 rfl) (vp_in_nI (by omega) (by decide)) ?_
  refine r_top (nI (B 12 (3 * c + l))) (by rw [nI_cl (by omega)]; exact rgm (by omega)) ?_
  refine r_if_ne 47 dX9_approve_40 (by decide) (fun c_4 => absurd (show nI (B 12 (3 * c + l)) = 0 by rw [hth]; rfl) c_4) (fun c_4 => ?_)
  refine r_iconst (v := 2) dX9_approve_43 (by decide) ?_
  refine r_goto 48 dX9_approve_44 (by decide) ?_
  refine r_callV (st := []) [.int 2] 0 0 dX9_approve_48 kX9_goes nX9_goes lRX9_92 (hW.g 31 0 rfl) rfl (c_goes hW 2) rfl rfl (Nat.le_of_ble_eq_true rfl) (Nat.le_refl _) (Nat.le_refl _) (fun _ _ h => h.elim) ?_
  refine cx_det (st2 := [.int 0]) rfl ?_
  have hW_5 : World A (setA B 26 0 2) ad (va_up G (ad 31 0) (some (.inr (9, (mF B ad).set 26 (.int (nI 2)))))) := m_s26 hW 2
  refine r_heap (G' := va_up G (ad 31 0) (some (.inr (9, (mF B ad).set 26 (.int (nI 2)))))) rfl ?_
  refine r_if_ne 56 dX9_approve_51 (by decide) (fun c_6 => absurd (by decide) c_6) (fun c_6 => ?_)
  refine r_iconst (v := 0) dX9_approve_54 (by decide) ?_
  refine r_ret .boolean dX9_approve_55 rfl rfl ?_
  exact ⟨rfl, (setA B 26 0 2), hW_5, rfl, (s26 (fun f _ => rfl))⟩
