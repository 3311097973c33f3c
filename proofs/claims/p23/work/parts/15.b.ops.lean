/-- what a public method answers and leaves: the value v, the numbers st -/
def OPo (v : Int32) (st B : ST) (ad : AD) (A : ST) : Option Value → GH → Prop := fun r G' => r = some (.int v) ∧ ∃ (A' : ST) (ad' : AD), World A' B ad' G' ∧ (∀ k i, lvw A k i → ad' k i = ad k i) ∧ Pag A' ∧ (∀ f, f < 22 → A' f = st f)
theorem b2i_no {b : Bool} (h : b = true) : ¬ b2i b = 0 := by rw [h]; decide
theorem b2i_z {b : Bool} (h : b = false) : b2i b = 0 := by rw [h]; rfl
theorem b2i_dt {p : Prop} [Decidable p] (h : p) : ¬ b2i (decide p) = 0 := b2i_no (decide_eq_true h)
theorem b2i_df {p : Prop} [Decidable p] (h : ¬ p) : b2i (decide p) = 0 := b2i_z (decide_eq_false h)
theorem c_isB {d b0 : Nat} {G : GH} (x : Int32) (n : Nat) : CTd mX8_isBelow d b0 G [.int x, .int (nI n)] 0 0 (some (.int (b2i (inB x n)))) G := by
  rw [← inB_s]
  exact c_X8_isBelow x (nI n)
theorem c_isL {d b0 : Nat} {G : GH} (x : Int32) : CTd mX8_isLanguage (d + 1) b0 G [.int x] 0 0 (some (.int (b2i (inB x 3)))) G := by
  rw [← inB_s]
  exact c_X8_isLanguage x
theorem c_isW {d b0 : Nat} {G : GH} {A B : ST} {ad : AD} (hW : World A B ad G) (hI : Inv A) (x : Int32) : CTd mX8_isWord (d + 1) b0 G [.ref (ad 0 0), .int x] 0 0 (some (.int (b2i (inB x (A 2 0))))) G := by
  rw [← inB_s]
  exact c_X8_isWord hW hI x
theorem inB_k {k n : Nat} (h : k < n) (hn : n < 2 ^ 31) : inB (nI k) n = true := by
  rw [inB_nI (by omega) hn, decide_eq_true h]
theorem inB_no {x : Int32} {n : Nat} (h : inB x n = false) : x < 0 ∨ (¬ x < 0 ∧ nI n ≤ x) := by
  have h1 := inB_f h
  unfold s_X8_isBelow at h1
  by_cases h2 : x < 0
  · exact Or.inl h2
  · by_cases h3 : nI n ≤ x
    · exact Or.inr ⟨h2, h3⟩
    · rw [if_neg h2, if_neg h3] at h1; exact absurd h1 (by decide)
theorem nI_nle1 {x : Int32} {n : Nat} (hn : n + 1 < 2 ^ 31) (h : nI (n + 1) ≤ x) : ¬ x ≤ nI n := fun q => by
  have h1 : nI (n + 1) ≤ nI n := Int32.le_trans h q
  have h2 := ni_le (a := n + 1) (b := n) hn (by omega) h1
  omega
theorem nI_m1 (k : Nat) : nI (k + 1) - 1 = nI k := pk_sub (Nat.le_add_left 1 k)
theorem sgb {A B : ST} {ad : AD} {G : GH} (hW : World A B ad G) (h : A 0 0 ≤ 60) : SG G (ad 1 0) (ad 2 0) 60 (A 0 0) (rg A 1 0 60) := ⟨hW.g 1 0 rfl, hW.g 2 0 rfl, h, by decide⟩
set_option maxRecDepth 100000 in
set_option maxHeartbeats 4000000 in
theorem c_type_0 {d b0 : Nat} {G : GH} {A B : ST} {ad : AD} (hW : World A B ad G) (hI : Inv A) (hP : Pag A) {c : Nat} (hc : c < 65536) (hlt : A 0 0 < 60) : CT mX8_type (d + 8) b0 G [.ref (ad 0 0), .int (nI c)] 20 400 (OPo (nI (A 0 0 + 1)) (setA (setA A 1 (A 0 0) c) 0 0 (A 0 0 + 1)) B ad A) (fun _ _ => False) := by
  have hb0 := hI.b0
  have hb2 := hI.b2
  have hb9 := hI.b9
  have hb15 := hI.b15
  have hb18 := hI.b18
  refine CT.intro (by decide +kernel) rfl (Nat.le_of_ble_eq_true rfl) ?_
  show WP mX8_type _ _ _ _ _ 20 400 0 [(0, .ref (ad 0 0)), (1, .int (nI c))] []
  refine r_aload_n dX8_type_0 rfl 0 rfl ?_
  refine r_get 0 dX8_type_1 fRX8_14 (hW.g 0 0 rfl) rfl ?_
  refine r_iload_n dX8_type_4 rfl 1 rfl ?_
  refine r_callV (st := []) [.int (nI c)] 20 400 dX8_type_5 kX5_append nX5_append lRX8_61 (hW.g 1 0 rfl) rfl (c_X5_append_t (sg1 hW hI) hlt (isC_nI hc)) rfl rfl (Nat.le_of_ble_eq_true rfl) (Nat.le_refl _) (Nat.le_refl _) (fun _ _ h => h.elim) ?_
  refine cx_det (st2 := [.int 1]) rfl ?_
  have hWa := w_b1 (c := c) hW hlt
  have hW_1 : World (setA (setA A 1 (A 0 0) c) 0 0 (A 0 0 + 1)) B ad (va_up (va_up G (ad 2 0) (some (chA 60 (upd (rg A 1 0 60) (A 0 0) (nI c))))) (ad 1 0) (some (sgC (ad 2 0) (A 0 0 + 1)))) := w_b0 hWa (A 0 0 + 1)
  refine r_heap (G' := va_up (va_up G (ad 2 0) (some (chA 60 (upd (rg A 1 0 60) (A 0 0) (nI c))))) (ad 1 0) (some (sgC (ad 2 0) (A 0 0 + 1)))) rfl ?_
  refine r_if_ne 21 dX8_type_8 (by decide) (fun c_2 => ?_) (fun c_2 => absurd c_2 (by decide))
  refine r_aload_n dX8_type_21 rfl 0 rfl ?_
  refine r_get 0 dX8_type_22 fRX8_14 (hW_1.g 0 0 rfl) rfl ?_
  refine r_callV (st := []) [] 20 400 dX8_type_25 kX5_length nX5_length lRX8_72 (hW_1.g 1 0 rfl) rfl (c_X5_length (sgb hW_1 (show A 0 0 + 1 ≤ 60 by omega))) rfl rfl (Nat.le_of_ble_eq_true rfl) (Nat.le_refl _) (Nat.le_refl _) (fun _ _ h => h.elim) ?_
  refine cx_det (st2 := [.int (nI (A 0 0 + 1))]) rfl ?_
  refine r_ireti dX8_type_28 rfl ?_
  exact ⟨rfl, (setA (setA A 1 (A 0 0) c) 0 0 (A 0 0 + 1)), ad, hW_1, fun _ _ _ => rfl, hP, fun f hf => rfl⟩
set_option maxRecDepth 100000 in
set_option maxHeartbeats 4000000 in
theorem c_type_1 {d b0 : Nat} {G : GH} {A B : ST} {ad : AD} (hW : World A B ad G) (hI : Inv A) {c : Nat} (hge : ¬ A 0 0 < 60) : CT mX8_type (d + 8) b0 G [.ref (ad 0 0), .int (nI c)] 20 400 (fun _ _ => False) (fun E G' => E = "java/lang/IllegalStateException" ∧ G' = G) := by
  have hb0 := hI.b0
  have hb2 := hI.b2
  have hb9 := hI.b9
  have hb15 := hI.b15
  have hb18 := hI.b18
  refine CT.intro (by decide +kernel) rfl (Nat.le_of_ble_eq_true rfl) ?_
  show WP mX8_type _ _ _ _ _ 20 400 0 [(0, .ref (ad 0 0)), (1, .int (nI c))] []
  refine r_aload_n dX8_type_0 rfl 0 rfl ?_
  refine r_get 0 dX8_type_1 fRX8_14 (hW.g 0 0 rfl) rfl ?_
  refine r_iload_n dX8_type_4 rfl 1 rfl ?_
  refine r_callV (st := []) [.int (nI c)] 20 400 dX8_type_5 kX5_append nX5_append lRX8_61 (hW.g 1 0 rfl) rfl (c_X5_append_f (sg1 hW hI) hge (nI c)) rfl rfl (Nat.le_of_ble_eq_true rfl) (Nat.le_refl _) (Nat.le_refl _) (fun _ _ h => h.elim) ?_
  refine cx_det (st2 := [.int 0]) rfl ?_
  refine r_if_ne 21 dX8_type_8 (by decide) (fun c_1 => absurd (by decide) c_1) (fun c_1 => ?_)
  refine r_throw "java/lang/IllegalStateException" "the buffer is full" dX8_type_11 dX8_type_14 dX8_type_15 dX8_type_17 dX8_type_20 rfl (by decide +kernel) t_212 t_31 (by decide +kernel) exS_at exS_ng (by decide +kernel) (by omega) (by decide) (by decide) (Nat.le_of_ble_eq_true rfl) ?_
  exact ⟨rfl, rfl⟩
set_option maxRecDepth 100000 in
set_option maxHeartbeats 4000000 in
theorem c_clear_0 {d b0 : Nat} {G : GH} {A B : ST} {ad : AD} (hW : World A B ad G) (hI : Inv A) (hP : Pag A)  : CT mX8_clear (d + 8) b0 G [.ref (ad 0 0)] 20 400 (OPo (nI (A 0 0)) (setA A 0 0 0) B ad A) (fun _ _ => False) := by
  have hb0 := hI.b0
  have hb2 := hI.b2
  have hb9 := hI.b9
  have hb15 := hI.b15
  have hb18 := hI.b18
  refine CT.intro (by decide +kernel) rfl (Nat.le_of_ble_eq_true rfl) ?_
  show WP mX8_clear _ _ _ _ _ 20 400 0 [(0, .ref (ad 0 0))] []
  refine r_aload_n dX8_clear_0 rfl 0 rfl ?_
  refine r_get 0 dX8_clear_1 fRX8_14 (hW.g 0 0 rfl) rfl ?_
  refine r_callV (st := []) [] 20 400 dX8_clear_4 kX5_length nX5_length lRX8_72 (hW.g 1 0 rfl) rfl (c_X5_length (sgb hW hb0)) rfl rfl (Nat.le_of_ble_eq_true rfl) (Nat.le_refl _) (Nat.le_refl _) (fun _ _ h => h.elim) ?_
  refine cx_det (st2 := [.int (nI (A 0 0))]) rfl ?_
  refine r_istore_n [(1, .int (nI (A 0 0))), (0, .ref (ad 0 0))] dX8_clear_7 rfl (by decide) rfl ?_
  refine r_aload_n dX8_clear_8 rfl 1 rfl ?_
  refine r_get 0 dX8_clear_9 fRX8_14 (hW.g 0 0 rfl) rfl ?_
  refine r_callV (st := []) [] 20 400 dX8_clear_12 kX5_empty nX5_empty lRX8_76 (hW.g 1 0 rfl) rfl (c_X5_empty (sgb hW hb0)) rfl rfl (Nat.le_of_ble_eq_true rfl) (Nat.le_refl _) (Nat.le_refl _) (fun _ _ h => h.elim) ?_
  refine cx_det (st2 := []) rfl ?_
  have hW_2 : World (setA A 0 0 0) B ad (va_up G (ad 1 0) (some (sgC (ad 2 0) 0))) := w_b0 hW 0
  refine r_heap (G' := va_up G (ad 1 0) (some (sgC (ad 2 0) 0))) rfl ?_
  refine r_iload_n dX8_clear_15 rfl 0 rfl ?_
  refine r_ireti dX8_clear_16 rfl ?_
  exact ⟨rfl, (setA A 0 0 0), ad, hW_2, fun _ _ _ => rfl, hP, fun f hf => rfl⟩
set_option maxRecDepth 100000 in
set_option maxHeartbeats 4000000 in
theorem c_price_0 {d b0 : Nat} {G : GH} {A B : ST} {ad : AD} (hW : World A B ad G) (hI : Inv A) (hP : Pag A) {l v : Nat} (hl : l < 3) (hv : v < 1001) : CT mX8_price (d + 8) b0 G [.ref (ad 0 0), .int (nI l), .int (nI v)] 20 400 (OPo (nI (A 21 l)) (setA A 21 l v) B ad A) (fun _ _ => False) := by
  have hb0 := hI.b0
  have hb2 := hI.b2
  have hb9 := hI.b9
  have hb15 := hI.b15
  have hb18 := hI.b18
  refine CT.intro (by decide +kernel) rfl (Nat.le_of_ble_eq_true rfl) ?_
  show WP mX8_price _ _ _ _ _ 20 400 0 [(0, .ref (ad 0 0)), (1, .int (nI l)), (2, .int (nI v))] []
  refine r_iload_n dX8_price_0 rfl 1 rfl ?_
  refine r_aload_n dX8_price_1 rfl 0 rfl ?_
  refine r_get 5 dX8_price_2 fRX8_43 (hW.g 0 0 rfl) rfl ?_
  refine r_alen (v := nI 3) dX8_price_5 (hW.g 10 0 rfl) rfl ?_
  refine r_callS (st := []) [.int (nI l), .int (nI 3)] 20 400 dX8_price_6 kX8_isBelow nX8_isBelow lRX8_104 (c_isB (nI l) 3) rfl rfl (Nat.le_of_ble_eq_true rfl) (Nat.le_refl _) (Nat.le_refl _) (fun _ _ h => h.elim) ?_
  refine cx_det (st2 := [.int (b2i (inB (nI l) 3))]) rfl ?_
  refine r_if_ne 22 dX8_price_9 (by decide) (fun c_1 => ?_) (fun c_1 => absurd c_1 (b2i_no (inB_k hl (by decide))))
  refine r_iload_n dX8_price_22 rfl 2 rfl ?_
  refine r_if_lt 33 dX8_price_23 (by decide) (fun c_2 => absurd c_2 (nI_pos (by omega))) (fun c_2 => ?_)
  refine r_iload_n dX8_price_26 rfl 2 rfl ?_
  refine r_sipush (v := 1000) dX8_price_27 (by decide) ?_
  refine r_icmp_le 43 dX8_price_30 (by decide) (fun c_3 => ?_) (fun c_3 => absurd ((nI_leI (by omega) (by decide)).mpr (show v ≤ 1000 by omega)) c_3)
  refine r_aload_n dX8_price_43 rfl 0 rfl ?_
  refine r_get 5 dX8_price_44 fRX8_43 (hW.g 0 0 rfl) rfl ?_
  refine r_iload_n dX8_price_47 rfl 1 rfl ?_
  refine r_iald dX8_price_48 (hW.g 10 0 rfl) (vp_in_nI hl (by decide)) ?_
  refine r_top (nI (A 21 l)) (by rw [nI_cl (by omega)]; dsimp only [rg]; rw [if_pos hl, Nat.zero_add]) ?_
  refine r_istore_n [(3, .int (nI (A 21 l))), (0, .ref (ad 0 0)), (1, .int (nI l)), (2, .int (nI v))] dX8_price_49 rfl (by decide) rfl ?_
  refine r_aload_n dX8_price_50 rfl 1 rfl ?_
  refine r_get 5 dX8_price_51 fRX8_43 (hW.g 0 0 rfl) rfl ?_
  refine r_iload_n dX8_price_54 rfl 2 rfl ?_
  refine r_iload_n dX8_price_55 rfl 3 rfl ?_
  refine r_iast dX8_price_56 (hW.g 10 0 rfl) (vp_in_nI hl (by decide)) ?_
  have hW_5 : World (setA A 21 l v) B ad (va_up G (ad 10 0) (some (inA 3 (upd (rg A 21 0 3) l (nI v))))) := w_pr hW hl
  refine r_heap (G' := va_up G (ad 10 0) (some (inA 3 (upd (rg A 21 0 3) l (nI v))))) (by rw [nI_cl (by omega)]) ?_
  refine r_heap (G' := (va_up G (ad 10 0) (some (inA 3 (upd (rg A 21 0 3) l (nI v)))))) rfl ?_
  refine r_iload_n dX8_price_57 rfl 0 rfl ?_
  refine r_ireti dX8_price_58 rfl ?_
  exact ⟨rfl, (setA A 21 l v), ad, hW_5, fun _ _ _ => rfl, hP, fun f hf => rfl⟩
set_option maxRecDepth 100000 in
set_option maxHeartbeats 4000000 in
theorem c_price_1 {d b0 : Nat} {G : GH} {A B : ST} {ad : AD} (hW : World A B ad G) (hI : Inv A) {x y : Int32} (hx : inB x 3 = false) : CT mX8_price (d + 8) b0 G [.ref (ad 0 0), .int x, .int y] 20 400 (fun _ _ => False) (fun E G' => E = "java/lang/IndexOutOfBoundsException" ∧ G' = G) := by
  have hb0 := hI.b0
  have hb2 := hI.b2
  have hb9 := hI.b9
  have hb15 := hI.b15
  have hb18 := hI.b18
  refine CT.intro (by decide +kernel) rfl (Nat.le_of_ble_eq_true rfl) ?_
  show WP mX8_price _ _ _ _ _ 20 400 0 [(0, .ref (ad 0 0)), (1, .int x), (2, .int y)] []
  refine r_iload_n dX8_price_0 rfl 1 rfl ?_
  refine r_aload_n dX8_price_1 rfl 0 rfl ?_
  refine r_get 5 dX8_price_2 fRX8_43 (hW.g 0 0 rfl) rfl ?_
  refine r_alen (v := nI 3) dX8_price_5 (hW.g 10 0 rfl) rfl ?_
  refine r_callS (st := []) [.int x, .int (nI 3)] 20 400 dX8_price_6 kX8_isBelow nX8_isBelow lRX8_104 (c_isB x 3) rfl rfl (Nat.le_of_ble_eq_true rfl) (Nat.le_refl _) (Nat.le_refl _) (fun _ _ h => h.elim) ?_
  refine cx_det (st2 := [.int (b2i (inB x 3))]) rfl ?_
  refine r_if_ne 22 dX8_price_9 (by decide) (fun c_1 => absurd (b2i_z hx) c_1) (fun c_1 => ?_)
  refine r_throw "java/lang/IndexOutOfBoundsException" "no such language" dX8_price_12 dX8_price_15 dX8_price_16 dX8_price_18 dX8_price_21 rfl (by decide +kernel) t_321 t_32 (by decide +kernel) exB_at exB_ng (by decide +kernel) (by omega) (by decide) (by decide) (Nat.le_of_ble_eq_true rfl) ?_
  exact ⟨rfl, rfl⟩
set_option maxRecDepth 100000 in
set_option maxHeartbeats 4000000 in
theorem c_price_2a {d b0 : Nat} {G : GH} {A B : ST} {ad : AD} (hW : World A B ad G) (hI : Inv A) {l : Nat} {y : Int32} (hl : l < 3) (hy : y < 0) : CT mX8_price (d + 8) b0 G [.ref (ad 0 0), .int (nI l), .int y] 20 400 (fun _ _ => False) (fun E G' => E = "java/lang/IllegalArgumentException" ∧ G' = G) := by
  have hb0 := hI.b0
  have hb2 := hI.b2
  have hb9 := hI.b9
  have hb15 := hI.b15
  have hb18 := hI.b18
  refine CT.intro (by decide +kernel) rfl (Nat.le_of_ble_eq_true rfl) ?_
  show WP mX8_price _ _ _ _ _ 20 400 0 [(0, .ref (ad 0 0)), (1, .int (nI l)), (2, .int y)] []
  refine r_iload_n dX8_price_0 rfl 1 rfl ?_
  refine r_aload_n dX8_price_1 rfl 0 rfl ?_
  refine r_get 5 dX8_price_2 fRX8_43 (hW.g 0 0 rfl) rfl ?_
  refine r_alen (v := nI 3) dX8_price_5 (hW.g 10 0 rfl) rfl ?_
  refine r_callS (st := []) [.int (nI l), .int (nI 3)] 20 400 dX8_price_6 kX8_isBelow nX8_isBelow lRX8_104 (c_isB (nI l) 3) rfl rfl (Nat.le_of_ble_eq_true rfl) (Nat.le_refl _) (Nat.le_refl _) (fun _ _ h => h.elim) ?_
  refine cx_det (st2 := [.int (b2i (inB (nI l) 3))]) rfl ?_
  refine r_if_ne 22 dX8_price_9 (by decide) (fun c_1 => ?_) (fun c_1 => absurd c_1 (b2i_no (inB_k hl (by decide))))
  refine r_iload_n dX8_price_22 rfl 2 rfl ?_
  refine r_if_lt 33 dX8_price_23 (by decide) (fun c_2 => ?_) (fun c_2 => absurd hy c_2)
  refine r_throw "java/lang/IllegalArgumentException" "price out of range" dX8_price_33 dX8_price_36 dX8_price_37 dX8_price_39 dX8_price_42 rfl (by decide +kernel) t_337 t_33 (by decide +kernel) exA_at exA_ng (by decide +kernel) (by omega) (by decide) (by decide) (Nat.le_of_ble_eq_true rfl) ?_
  exact ⟨rfl, rfl⟩
set_option maxRecDepth 100000 in
set_option maxHeartbeats 4000000 in
theorem c_price_2b {d b0 : Nat} {G : GH} {A B : ST} {ad : AD} (hW : World A B ad G) (hI : Inv A) {l : Nat} {y : Int32} (hl : l < 3) (hy : ¬ y < 0) (hy2 : ¬ y ≤ 1000) : CT mX8_price (d + 8) b0 G [.ref (ad 0 0), .int (nI l), .int y] 20 400 (fun _ _ => False) (fun E G' => E = "java/lang/IllegalArgumentException" ∧ G' = G) := by
  have hb0 := hI.b0
  have hb2 := hI.b2
  have hb9 := hI.b9
  have hb15 := hI.b15
  have hb18 := hI.b18
  refine CT.intro (by decide +kernel) rfl (Nat.le_of_ble_eq_true rfl) ?_
  show WP mX8_price _ _ _ _ _ 20 400 0 [(0, .ref (ad 0 0)), (1, .int (nI l)), (2, .int y)] []
  refine r_iload_n dX8_price_0 rfl 1 rfl ?_
  refine r_aload_n dX8_price_1 rfl 0 rfl ?_
  refine r_get 5 dX8_price_2 fRX8_43 (hW.g 0 0 rfl) rfl ?_
  refine r_alen (v := nI 3) dX8_price_5 (hW.g 10 0 rfl) rfl ?_
  refine r_callS (st := []) [.int (nI l), .int (nI 3)] 20 400 dX8_price_6 kX8_isBelow nX8_isBelow lRX8_104 (c_isB (nI l) 3) rfl rfl (Nat.le_of_ble_eq_true rfl) (Nat.le_refl _) (Nat.le_refl _) (fun _ _ h => h.elim) ?_
  refine cx_det (st2 := [.int (b2i (inB (nI l) 3))]) rfl ?_
  refine r_if_ne 22 dX8_price_9 (by decide) (fun c_1 => ?_) (fun c_1 => absurd c_1 (b2i_no (inB_k hl (by decide))))
  refine r_iload_n dX8_price_22 rfl 2 rfl ?_
  refine r_if_lt 33 dX8_price_23 (by decide) (fun c_2 => absurd c_2 hy) (fun c_2 => ?_)
  refine r_iload_n dX8_price_26 rfl 2 rfl ?_
  refine r_sipush (v := 1000) dX8_price_27 (by decide) ?_
  refine r_icmp_le 43 dX8_price_30 (by decide) (fun c_3 => absurd c_3 hy2) (fun c_3 => ?_)
  refine r_throw "java/lang/IllegalArgumentException" "price out of range" dX8_price_33 dX8_price_36 dX8_price_37 dX8_price_39 dX8_price_42 rfl (by decide +kernel) t_337 t_33 (by decide +kernel) exA_at exA_ng (by decide +kernel) (by omega) (by decide) (by decide) (Nat.le_of_ble_eq_true rfl) ?_
  exact ⟨rfl, rfl⟩
set_option maxRecDepth 100000 in
set_option maxHeartbeats 4000000 in
theorem c_fill_0 {d b0 : Nat} {G : GH} {A B : ST} {ad : AD} (hW : World A B ad G) (hI : Inv A) (hP : Pag A) {t s q : Nat} (ht : t < A 18 0) (hs : s < 5) (hq : q < A 2 0) : CT mX8_fill (d + 8) b0 G [.ref (ad 0 0), .int (nI t), .int (nI s), .int (nI q)] 20 400 (OPo (rg A 19 (5 * t) 5 s) (setA A 19 (5 * t + s) q) B ad A) (fun _ _ => False) := by
  have hb0 := hI.b0
  have hb2 := hI.b2
  have hb9 := hI.b9
  have hb15 := hI.b15
  have hb18 := hI.b18
  refine CT.intro (by decide +kernel) rfl (Nat.le_of_ble_eq_true rfl) ?_
  show WP mX8_fill _ _ _ _ _ 20 400 0 [(0, .ref (ad 0 0)), (1, .int (nI t)), (2, .int (nI s)), (3, .int (nI q))] []
  refine r_aload_n dX8_fill_0 rfl 0 rfl ?_
  refine r_iload_n dX8_fill_1 rfl 1 rfl ?_
  refine r_callV (st := []) [.int (nI t)] 20 400 dX8_fill_2 kX8_dataAt nX8_dataAt lRX8_214 (hW.g 0 0 rfl) rfl (c_X8_dataAt_t hW hI ht) rfl rfl (Nat.le_of_ble_eq_true rfl) (Nat.le_refl _) (Nat.le_refl _) (fun _ _ h => h.elim) ?_
  refine cx_det (st2 := [.ref (ad 29 t)]) rfl ?_
  refine r_astore [(4, .ref (ad 29 t)), (0, .ref (ad 0 0)), (1, .int (nI t)), (2, .int (nI s)), (3, .int (nI q))] dX8_fill_5 (by decide) rfl ?_
  refine r_aload dX8_fill_7 0 rfl ?_
  refine r_ifnullR dX8_fill_9 ?_
  refine r_iload_n dX8_fill_12 rfl 3 rfl ?_
  refine r_iconst (v := 5) dX8_fill_13 (by decide) ?_
  refine r_callS (st := []) [.int (nI s), .int 5] 20 400 dX8_fill_14 kX8_isBelow nX8_isBelow lRX8_104 (c_isB (nI s) 5) rfl rfl (Nat.le_of_ble_eq_true rfl) (Nat.le_refl _) (Nat.le_refl _) (fun _ _ h => h.elim) ?_
  refine cx_det (st2 := [.int (b2i (inB (nI s) 5))]) rfl ?_
  refine r_if_eq 28 dX8_fill_17 (by decide) (fun c_1 => absurd c_1 (b2i_no (inB_k hs (by decide)))) (fun c_1 => ?_)
  refine r_aload_n dX8_fill_20 rfl 1 rfl ?_
  refine r_iload_n dX8_fill_21 rfl 4 rfl ?_
  refine r_callV (st := []) [.int (nI q)] 20 400 dX8_fill_22 kX8_isWord nX8_isWord lRX8_96 (hW.g 0 0 rfl) rfl (c_isW hW hI (nI q)) rfl rfl (Nat.le_of_ble_eq_true rfl) (Nat.le_refl _) (Nat.le_refl _) (fun _ _ h => h.elim) ?_
  refine cx_det (st2 := [.int (b2i (inB (nI q) (A 2 0)))]) rfl ?_
  refine r_if_ne 38 dX8_fill_25 (by decide) (fun c_2 => ?_) (fun c_2 => absurd c_2 (b2i_no (inB_k hq (by omega))))
  refine r_aload dX8_fill_38 0 rfl ?_
  refine r_iload_n dX8_fill_40 rfl 3 rfl ?_
  refine r_callV (st := []) [.int (nI s)] 20 400 dX8_fill_41 kX1_wordOf nX1_wordOf lRX8_220 (hW.g 29 t ht) rfl (c_X1_wordOf (dt29 hW ht) hs) rfl rfl (Nat.le_of_ble_eq_true rfl) (Nat.le_refl _) (Nat.le_refl _) (fun _ _ h => h.elim) ?_
  refine cx_det (st2 := [.int (rg A 19 (5 * t) 5 s)]) rfl ?_
  refine r_istore [(5, .int (rg A 19 (5 * t) 5 s)), (4, .ref (ad 29 t)), (0, .ref (ad 0 0)), (1, .int (nI t)), (2, .int (nI s)), (3, .int (nI q))] dX8_fill_44 (by decide) rfl ?_
  refine r_aload dX8_fill_46 1 rfl ?_
  refine r_iload_n dX8_fill_48 rfl 4 rfl ?_
  refine r_iload_n dX8_fill_49 rfl 5 rfl ?_
  refine r_callV (st := []) [.int (nI s), .int (nI q)] 20 400 dX8_fill_50 kX1_setWord nX1_setWord lRX8_224 (hW.g 29 t ht) rfl (c_X1_setWord (dt29 hW ht) hs (nI q)) rfl rfl (Nat.le_of_ble_eq_true rfl) (Nat.le_refl _) (Nat.le_refl _) (fun _ _ h => h.elim) ?_
  refine cx_det (st2 := []) rfl ?_
  have hW_4 : World (setA A 19 (5 * t + s) q) B ad (va_up G (ad 30 t) (some (inA 5 (upd (rg A 19 (5 * t) 5) s (nI q))))) := w_fi hW ht hs
  refine r_heap (G' := va_up G (ad 30 t) (some (inA 5 (upd (rg A 19 (5 * t) 5) s (nI q))))) rfl ?_
  refine r_iload dX8_fill_53 0 rfl ?_
  refine r_ireti dX8_fill_55 rfl ?_
  exact ⟨rfl, (setA A 19 (5 * t + s) q), ad, hW_4, fun _ _ _ => rfl, hP, fun f hf => rfl⟩
set_option maxRecDepth 100000 in
set_option maxHeartbeats 4000000 in
theorem c_fill_1a {d b0 : Nat} {G : GH} {A B : ST} {ad : AD} (hW : World A B ad G) (hI : Inv A) {x y z : Int32} (hx : inB x (A 18 0) = false) : CT mX8_fill (d + 8) b0 G [.ref (ad 0 0), .int x, .int y, .int z] 20 400 (fun _ _ => False) (fun E G' => E = "java/lang/IndexOutOfBoundsException" ∧ G' = G) := by
  have hb0 := hI.b0
  have hb2 := hI.b2
  have hb9 := hI.b9
  have hb15 := hI.b15
  have hb18 := hI.b18
  refine CT.intro (by decide +kernel) rfl (Nat.le_of_ble_eq_true rfl) ?_
  show WP mX8_fill _ _ _ _ _ 20 400 0 [(0, .ref (ad 0 0)), (1, .int x), (2, .int y), (3, .int z)] []
  refine r_aload_n dX8_fill_0 rfl 0 rfl ?_
  refine r_iload_n dX8_fill_1 rfl 1 rfl ?_
  refine r_callV (st := []) [.int x] 20 400 dX8_fill_2 kX8_dataAt nX8_dataAt lRX8_214 (hW.g 0 0 rfl) rfl (c_X8_dataAt_f hW hI hx) rfl rfl (Nat.le_of_ble_eq_true rfl) (Nat.le_refl _) (Nat.le_refl _) (fun _ _ h => h.elim) ?_
  refine cx_det (st2 := [.null]) rfl ?_
  refine r_astoreN [(4, .null), (0, .ref (ad 0 0)), (1, .int x), (2, .int y), (3, .int z)] dX8_fill_5 (by decide) rfl ?_
  refine r_aloadN dX8_fill_7 0 rfl ?_
  refine r_ifnullN 28 dX8_fill_9 (by decide) ?_
  refine r_throw "java/lang/IndexOutOfBoundsException" "no such data, slot or word" dX8_fill_28 dX8_fill_31 dX8_fill_32 dX8_fill_34 dX8_fill_37 rfl (by decide +kernel) t_321 t_32 (by decide +kernel) exB_at exB_ng (by decide +kernel) (by omega) (by decide) (by decide) (Nat.le_of_ble_eq_true rfl) ?_
  exact ⟨rfl, rfl⟩
set_option maxRecDepth 100000 in
set_option maxHeartbeats 4000000 in
theorem c_fill_1b {d b0 : Nat} {G : GH} {A B : ST} {ad : AD} (hW : World A B ad G) (hI : Inv A) {t : Nat} {y z : Int32} (ht : t < A 18 0) (hy : inB y 5 = false) : CT mX8_fill (d + 8) b0 G [.ref (ad 0 0), .int (nI t), .int y, .int z] 20 400 (fun _ _ => False) (fun E G' => E = "java/lang/IndexOutOfBoundsException" ∧ G' = G) := by
  have hb0 := hI.b0
  have hb2 := hI.b2
  have hb9 := hI.b9
  have hb15 := hI.b15
  have hb18 := hI.b18
  refine CT.intro (by decide +kernel) rfl (Nat.le_of_ble_eq_true rfl) ?_
  show WP mX8_fill _ _ _ _ _ 20 400 0 [(0, .ref (ad 0 0)), (1, .int (nI t)), (2, .int y), (3, .int z)] []
  refine r_aload_n dX8_fill_0 rfl 0 rfl ?_
  refine r_iload_n dX8_fill_1 rfl 1 rfl ?_
  refine r_callV (st := []) [.int (nI t)] 20 400 dX8_fill_2 kX8_dataAt nX8_dataAt lRX8_214 (hW.g 0 0 rfl) rfl (c_X8_dataAt_t hW hI ht) rfl rfl (Nat.le_of_ble_eq_true rfl) (Nat.le_refl _) (Nat.le_refl _) (fun _ _ h => h.elim) ?_
  refine cx_det (st2 := [.ref (ad 29 t)]) rfl ?_
  refine r_astore [(4, .ref (ad 29 t)), (0, .ref (ad 0 0)), (1, .int (nI t)), (2, .int y), (3, .int z)] dX8_fill_5 (by decide) rfl ?_
  refine r_aload dX8_fill_7 0 rfl ?_
  refine r_ifnullR dX8_fill_9 ?_
  refine r_iload_n dX8_fill_12 rfl 3 rfl ?_
  refine r_iconst (v := 5) dX8_fill_13 (by decide) ?_
  refine r_callS (st := []) [.int y, .int 5] 20 400 dX8_fill_14 kX8_isBelow nX8_isBelow lRX8_104 (c_isB y 5) rfl rfl (Nat.le_of_ble_eq_true rfl) (Nat.le_refl _) (Nat.le_refl _) (fun _ _ h => h.elim) ?_
  refine cx_det (st2 := [.int (b2i (inB y 5))]) rfl ?_
  refine r_if_eq 28 dX8_fill_17 (by decide) (fun c_1 => ?_) (fun c_1 => absurd (b2i_z hy) c_1)
  refine r_throw "java/lang/IndexOutOfBoundsException" "no such data, slot or word" dX8_fill_28 dX8_fill_31 dX8_fill_32 dX8_fill_34 dX8_fill_37 rfl (by decide +kernel) t_321 t_32 (by decide +kernel) exB_at exB_ng (by decide +kernel) (by omega) (by decide) (by decide) (Nat.le_of_ble_eq_true rfl) ?_
  exact ⟨rfl, rfl⟩
set_option maxRecDepth 100000 in
set_option maxHeartbeats 4000000 in
theorem c_fill_1c {d b0 : Nat} {G : GH} {A B : ST} {ad : AD} (hW : World A B ad G) (hI : Inv A) {t s : Nat} {z : Int32} (ht : t < A 18 0) (hs : s < 5) (hz : inB z (A 2 0) = false) : CT mX8_fill (d + 8) b0 G [.ref (ad 0 0), .int (nI t), .int (nI s), .int z] 20 400 (fun _ _ => False) (fun E G' => E = "java/lang/IndexOutOfBoundsException" ∧ G' = G) := by
  have hb0 := hI.b0
  have hb2 := hI.b2
  have hb9 := hI.b9
  have hb15 := hI.b15
  have hb18 := hI.b18
  refine CT.intro (by decide +kernel) rfl (Nat.le_of_ble_eq_true rfl) ?_
  show WP mX8_fill _ _ _ _ _ 20 400 0 [(0, .ref (ad 0 0)), (1, .int (nI t)), (2, .int (nI s)), (3, .int z)] []
  refine r_aload_n dX8_fill_0 rfl 0 rfl ?_
  refine r_iload_n dX8_fill_1 rfl 1 rfl ?_
  refine r_callV (st := []) [.int (nI t)] 20 400 dX8_fill_2 kX8_dataAt nX8_dataAt lRX8_214 (hW.g 0 0 rfl) rfl (c_X8_dataAt_t hW hI ht) rfl rfl (Nat.le_of_ble_eq_true rfl) (Nat.le_refl _) (Nat.le_refl _) (fun _ _ h => h.elim) ?_
  refine cx_det (st2 := [.ref (ad 29 t)]) rfl ?_
  refine r_astore [(4, .ref (ad 29 t)), (0, .ref (ad 0 0)), (1, .int (nI t)), (2, .int (nI s)), (3, .int z)] dX8_fill_5 (by decide) rfl ?_
  refine r_aload dX8_fill_7 0 rfl ?_
  refine r_ifnullR dX8_fill_9 ?_
  refine r_iload_n dX8_fill_12 rfl 3 rfl ?_
  refine r_iconst (v := 5) dX8_fill_13 (by decide) ?_
  refine r_callS (st := []) [.int (nI s), .int 5] 20 400 dX8_fill_14 kX8_isBelow nX8_isBelow lRX8_104 (c_isB (nI s) 5) rfl rfl (Nat.le_of_ble_eq_true rfl) (Nat.le_refl _) (Nat.le_refl _) (fun _ _ h => h.elim) ?_
  refine cx_det (st2 := [.int (b2i (inB (nI s) 5))]) rfl ?_
  refine r_if_eq 28 dX8_fill_17 (by decide) (fun c_1 => absurd c_1 (b2i_no (inB_k hs (by decide)))) (fun c_1 => ?_)
  refine r_aload_n dX8_fill_20 rfl 1 rfl ?_
  refine r_iload_n dX8_fill_21 rfl 4 rfl ?_
  refine r_callV (st := []) [.int z] 20 400 dX8_fill_22 kX8_isWord nX8_isWord lRX8_96 (hW.g 0 0 rfl) rfl (c_isW hW hI z) rfl rfl (Nat.le_of_ble_eq_true rfl) (Nat.le_refl _) (Nat.le_refl _) (fun _ _ h => h.elim) ?_
  refine cx_det (st2 := [.int (b2i (inB z (A 2 0)))]) rfl ?_
  refine r_if_ne 38 dX8_fill_25 (by decide) (fun c_2 => absurd (b2i_z hz) c_2) (fun c_2 => ?_)
  refine r_throw "java/lang/IndexOutOfBoundsException" "no such data, slot or word" dX8_fill_28 dX8_fill_31 dX8_fill_32 dX8_fill_34 dX8_fill_37 rfl (by decide +kernel) t_321 t_32 (by decide +kernel) exB_at exB_ng (by decide +kernel) (by omega) (by decide) (by decide) (Nat.le_of_ble_eq_true rfl) ?_
  exact ⟨rfl, rfl⟩
set_option maxRecDepth 100000 in
set_option maxHeartbeats 4000000 in
theorem c_put_0 {d b0 : Nat} {G : GH} {A B : ST} {ad : AD} (hW : World A B ad G) (hI : Inv A) (hP : Pag A) {l c : Nat} (hl : l < A 15 0) (hc : c < A 9 0) (hh : hsB (rg A 16 (6 * l) 6) (A 17 l) (nI c) = false) (hrm : A 17 l < 6) : CT mX8_put (d + 8) b0 G [.ref (ad 0 0), .int (nI l), .int (nI c)] 20 400 (OPo (nI (A 17 l + 1)) (setA (setA A 16 (6 * l + A 17 l) c) 17 l (A 17 l + 1)) B ad A) (fun _ _ => False) := by
  have hb0 := hI.b0
  have hb2 := hI.b2
  have hb9 := hI.b9
  have hb15 := hI.b15
  have hb18 := hI.b18
  refine CT.intro (by decide +kernel) rfl (Nat.le_of_ble_eq_true rfl) ?_
  show WP mX8_put _ _ _ _ _ 20 400 0 [(0, .ref (ad 0 0)), (1, .int (nI l)), (2, .int (nI c))] []
  refine r_aload_n dX8_put_0 rfl 0 rfl ?_
  refine r_iload_n dX8_put_1 rfl 1 rfl ?_
  refine r_callV (st := []) [.int (nI l)] 20 400 dX8_put_2 kX8_letterAt nX8_letterAt lRX8_188 (hW.g 0 0 rfl) rfl (c_X8_letterAt_t hW hI hl) rfl rfl (Nat.le_of_ble_eq_true rfl) (Nat.le_refl _) (Nat.le_refl _) (fun _ _ h => h.elim) ?_
  refine cx_det (st2 := [.ref (ad 27 l)]) rfl ?_
  refine r_astore_n [(3, .ref (ad 27 l)), (0, .ref (ad 0 0)), (1, .int (nI l)), (2, .int (nI c))] dX8_put_5 rfl (by decide) rfl ?_
  refine r_aload_n dX8_put_6 rfl 0 rfl ?_
  refine r_ifnullR dX8_put_7 ?_
  refine r_aload_n dX8_put_10 rfl 1 rfl ?_
  refine r_iload_n dX8_put_11 rfl 3 rfl ?_
  refine r_callV (st := []) [.int (nI c)] 20 400 dX8_put_12 kX8_clauseAt nX8_clauseAt lRX8_163 (hW.g 0 0 rfl) rfl (c_X8_clauseAt_t hW hI hc) rfl rfl (Nat.le_of_ble_eq_true rfl) (Nat.le_refl _) (Nat.le_refl _) (fun _ _ h => h.elim) ?_
  refine cx_det (st2 := [.ref (ad 21 c)]) rfl ?_
  refine r_ifnonnullR 28 dX8_put_15 (by decide) ?_
  refine r_aload_n dX8_put_28 rfl 0 rfl ?_
  refine r_iload_n dX8_put_29 rfl 3 rfl ?_
  refine r_callV (st := []) [.int (nI c)] 20 400 dX8_put_30 kX2_has nX2_has lRX8_194 (hW.g 27 l hl) rfl (c_X2_has (lt27 hW hI hl) (nI c)) rfl rfl (Nat.le_of_ble_eq_true rfl) (Nat.le_refl _) (Nat.le_refl _) (fun _ _ h => h.elim) ?_
  refine cx_det (st2 := [.int (b2i (hsB (rg A 16 (6 * l) 6) (A 17 l) (nI c)))]) rfl ?_
  refine r_if_ne 44 dX8_put_33 (by decide) (fun c_1 => absurd (b2i_z hh) c_1) (fun c_1 => ?_)
  refine r_aload_n dX8_put_36 rfl 0 rfl ?_
  refine r_iload_n dX8_put_37 rfl 3 rfl ?_
  refine r_callV (st := []) [.int (nI c)] 20 400 dX8_put_38 kX2_append nX2_append lRX8_197 (hW.g 27 l hl) rfl (c_X2_append_t (lt27 hW hI hl) hrm (nI c)) rfl rfl (Nat.le_of_ble_eq_true rfl) (Nat.le_refl _) (Nat.le_refl _) (fun _ _ h => h.elim) ?_
  refine cx_det (st2 := [.int 1]) rfl ?_
  have hWa := w_ro1 (v := c) hW hl hrm
  have hW_2 : World (setA (setA A 16 (6 * l + A 17 l) c) 17 l (A 17 l + 1)) B ad (va_up (va_up G (ad 28 l) (some (inA 6 (upd (rg A 16 (6 * l) 6) (A 17 l) (nI c))))) (ad 27 l) (some (ltC (ad 28 l) (A 17 l + 1)))) := w_ro0 hWa hl
  refine r_heap (G' := va_up (va_up G (ad 28 l) (some (inA 6 (upd (rg A 16 (6 * l) 6) (A 17 l) (nI c))))) (ad 27 l) (some (ltC (ad 28 l) (A 17 l + 1)))) rfl ?_
  refine r_if_ne 54 dX8_put_41 (by decide) (fun c_3 => ?_) (fun c_3 => absurd c_3 (by decide))
  refine r_aload_n dX8_put_54 rfl 0 rfl ?_
  refine r_callV (st := []) [] 20 400 dX8_put_55 kX2_count nX2_count lRX8_201 (hW_2.g 27 l hl) rfl (c_X2_count (show LT _ _ _ _ _ from ⟨hW_2.g 27 l hl, hW_2.g 28 l hl, (by show setA _ 17 l _ 17 l ≤ 6; rw [setA_s]; omega)⟩)) rfl rfl (Nat.le_of_ble_eq_true rfl) (Nat.le_refl _) (Nat.le_refl _) (fun _ _ h => h.elim) ?_
  refine cx_det (st2 := [.int (nI (setA (setA A 16 (6 * l + A 17 l) c) 17 l (A 17 l + 1) 17 l))]) rfl ?_
  refine r_ireti dX8_put_58 rfl ?_
  exact ⟨by rw [setA_s], (setA (setA A 16 (6 * l + A 17 l) c) 17 l (A 17 l + 1)), ad, hW_2, fun _ _ _ => rfl, hP, fun f hf => rfl⟩
set_option maxRecDepth 100000 in
set_option maxHeartbeats 4000000 in
theorem c_put_1a {d b0 : Nat} {G : GH} {A B : ST} {ad : AD} (hW : World A B ad G) (hI : Inv A) {x y : Int32} (hx : inB x (A 15 0) = false) : CT mX8_put (d + 8) b0 G [.ref (ad 0 0), .int x, .int y] 20 400 (fun _ _ => False) (fun E G' => E = "java/lang/IndexOutOfBoundsException" ∧ G' = G) := by
  have hb0 := hI.b0
  have hb2 := hI.b2
  have hb9 := hI.b9
  have hb15 := hI.b15
  have hb18 := hI.b18
  refine CT.intro (by decide +kernel) rfl (Nat.le_of_ble_eq_true rfl) ?_
  show WP mX8_put _ _ _ _ _ 20 400 0 [(0, .ref (ad 0 0)), (1, .int x), (2, .int y)] []
  refine r_aload_n dX8_put_0 rfl 0 rfl ?_
  refine r_iload_n dX8_put_1 rfl 1 rfl ?_
  refine r_callV (st := []) [.int x] 20 400 dX8_put_2 kX8_letterAt nX8_letterAt lRX8_188 (hW.g 0 0 rfl) rfl (c_X8_letterAt_f hW hI hx) rfl rfl (Nat.le_of_ble_eq_true rfl) (Nat.le_refl _) (Nat.le_refl _) (fun _ _ h => h.elim) ?_
  refine cx_det (st2 := [.null]) rfl ?_
  refine r_astore_nN [(3, .null), (0, .ref (ad 0 0)), (1, .int x), (2, .int y)] dX8_put_5 rfl (by decide) rfl ?_
  refine r_aload_nN dX8_put_6 rfl 0 rfl ?_
  refine r_ifnullN 18 dX8_put_7 (by decide) ?_
  refine r_throw "java/lang/IndexOutOfBoundsException" "no such letter or clause" dX8_put_18 dX8_put_21 dX8_put_22 dX8_put_24 dX8_put_27 rfl (by decide +kernel) t_321 t_32 (by decide +kernel) exB_at exB_ng (by decide +kernel) (by omega) (by decide) (by decide) (Nat.le_of_ble_eq_true rfl) ?_
  exact ⟨rfl, rfl⟩
set_option maxRecDepth 100000 in
set_option maxHeartbeats 4000000 in
theorem c_put_1b {d b0 : Nat} {G : GH} {A B : ST} {ad : AD} (hW : World A B ad G) (hI : Inv A) {l : Nat} {y : Int32} (hl : l < A 15 0) (hy : inB y (A 9 0) = false) : CT mX8_put (d + 8) b0 G [.ref (ad 0 0), .int (nI l), .int y] 20 400 (fun _ _ => False) (fun E G' => E = "java/lang/IndexOutOfBoundsException" ∧ G' = G) := by
  have hb0 := hI.b0
  have hb2 := hI.b2
  have hb9 := hI.b9
  have hb15 := hI.b15
  have hb18 := hI.b18
  refine CT.intro (by decide +kernel) rfl (Nat.le_of_ble_eq_true rfl) ?_
  show WP mX8_put _ _ _ _ _ 20 400 0 [(0, .ref (ad 0 0)), (1, .int (nI l)), (2, .int y)] []
  refine r_aload_n dX8_put_0 rfl 0 rfl ?_
  refine r_iload_n dX8_put_1 rfl 1 rfl ?_
  refine r_callV (st := []) [.int (nI l)] 20 400 dX8_put_2 kX8_letterAt nX8_letterAt lRX8_188 (hW.g 0 0 rfl) rfl (c_X8_letterAt_t hW hI hl) rfl rfl (Nat.le_of_ble_eq_true rfl) (Nat.le_refl _) (Nat.le_refl _) (fun _ _ h => h.elim) ?_
  refine cx_det (st2 := [.ref (ad 27 l)]) rfl ?_
  refine r_astore_n [(3, .ref (ad 27 l)), (0, .ref (ad 0 0)), (1, .int (nI l)), (2, .int y)] dX8_put_5 rfl (by decide) rfl ?_
  refine r_aload_n dX8_put_6 rfl 0 rfl ?_
  refine r_ifnullR dX8_put_7 ?_
  refine r_aload_n dX8_put_10 rfl 1 rfl ?_
  refine r_iload_n dX8_put_11 rfl 3 rfl ?_
  refine r_callV (st := []) [.int y] 20 400 dX8_put_12 kX8_clauseAt nX8_clauseAt lRX8_163 (hW.g 0 0 rfl) rfl (c_X8_clauseAt_f hW hI hy) rfl rfl (Nat.le_of_ble_eq_true rfl) (Nat.le_refl _) (Nat.le_refl _) (fun _ _ h => h.elim) ?_
  refine cx_det (st2 := [.null]) rfl ?_
  refine r_ifnonnullN dX8_put_15 ?_
  refine r_throw "java/lang/IndexOutOfBoundsException" "no such letter or clause" dX8_put_18 dX8_put_21 dX8_put_22 dX8_put_24 dX8_put_27 rfl (by decide +kernel) t_321 t_32 (by decide +kernel) exB_at exB_ng (by decide +kernel) (by omega) (by decide) (by decide) (Nat.le_of_ble_eq_true rfl) ?_
  exact ⟨rfl, rfl⟩
set_option maxRecDepth 100000 in
set_option maxHeartbeats 4000000 in
theorem c_put_2a {d b0 : Nat} {G : GH} {A B : ST} {ad : AD} (hW : World A B ad G) (hI : Inv A) {l c : Nat} (hl : l < A 15 0) (hc : c < A 9 0) (hh : hsB (rg A 16 (6 * l) 6) (A 17 l) (nI c) = true) : CT mX8_put (d + 8) b0 G [.ref (ad 0 0), .int (nI l), .int (nI c)] 20 400 (fun _ _ => False) (fun E G' => E = "java/lang/IllegalStateException" ∧ G' = G) := by
  have hb0 := hI.b0
  have hb2 := hI.b2
  have hb9 := hI.b9
  have hb15 := hI.b15
  have hb18 := hI.b18
  refine CT.intro (by decide +kernel) rfl (Nat.le_of_ble_eq_true rfl) ?_
  show WP mX8_put _ _ _ _ _ 20 400 0 [(0, .ref (ad 0 0)), (1, .int (nI l)), (2, .int (nI c))] []
  refine r_aload_n dX8_put_0 rfl 0 rfl ?_
  refine r_iload_n dX8_put_1 rfl 1 rfl ?_
  refine r_callV (st := []) [.int (nI l)] 20 400 dX8_put_2 kX8_letterAt nX8_letterAt lRX8_188 (hW.g 0 0 rfl) rfl (c_X8_letterAt_t hW hI hl) rfl rfl (Nat.le_of_ble_eq_true rfl) (Nat.le_refl _) (Nat.le_refl _) (fun _ _ h => h.elim) ?_
  refine cx_det (st2 := [.ref (ad 27 l)]) rfl ?_
  refine r_astore_n [(3, .ref (ad 27 l)), (0, .ref (ad 0 0)), (1, .int (nI l)), (2, .int (nI c))] dX8_put_5 rfl (by decide) rfl ?_
  refine r_aload_n dX8_put_6 rfl 0 rfl ?_
  refine r_ifnullR dX8_put_7 ?_
  refine r_aload_n dX8_put_10 rfl 1 rfl ?_
  refine r_iload_n dX8_put_11 rfl 3 rfl ?_
  refine r_callV (st := []) [.int (nI c)] 20 400 dX8_put_12 kX8_clauseAt nX8_clauseAt lRX8_163 (hW.g 0 0 rfl) rfl (c_X8_clauseAt_t hW hI hc) rfl rfl (Nat.le_of_ble_eq_true rfl) (Nat.le_refl _) (Nat.le_refl _) (fun _ _ h => h.elim) ?_
  refine cx_det (st2 := [.ref (ad 21 c)]) rfl ?_
  refine r_ifnonnullR 28 dX8_put_15 (by decide) ?_
  refine r_aload_n dX8_put_28 rfl 0 rfl ?_
  refine r_iload_n dX8_put_29 rfl 3 rfl ?_
  refine r_callV (st := []) [.int (nI c)] 20 400 dX8_put_30 kX2_has nX2_has lRX8_194 (hW.g 27 l hl) rfl (c_X2_has (lt27 hW hI hl) (nI c)) rfl rfl (Nat.le_of_ble_eq_true rfl) (Nat.le_refl _) (Nat.le_refl _) (fun _ _ h => h.elim) ?_
  refine cx_det (st2 := [.int (b2i (hsB (rg A 16 (6 * l) 6) (A 17 l) (nI c)))]) rfl ?_
  refine r_if_ne 44 dX8_put_33 (by decide) (fun c_1 => ?_) (fun c_1 => absurd c_1 (b2i_no hh))
  refine r_throw "java/lang/IllegalStateException" "the letter has the clause, or is full" dX8_put_44 dX8_put_47 dX8_put_48 dX8_put_50 dX8_put_53 rfl (by decide +kernel) t_212 t_31 (by decide +kernel) exS_at exS_ng (by decide +kernel) (by omega) (by decide) (by decide) (Nat.le_of_ble_eq_true rfl) ?_
  exact ⟨rfl, rfl⟩
set_option maxRecDepth 100000 in
set_option maxHeartbeats 4000000 in
theorem c_put_2b {d b0 : Nat} {G : GH} {A B : ST} {ad : AD} (hW : World A B ad G) (hI : Inv A) {l c : Nat} (hl : l < A 15 0) (hc : c < A 9 0) (hh : hsB (rg A 16 (6 * l) 6) (A 17 l) (nI c) = false) (hrm : ¬ A 17 l < 6) : CT mX8_put (d + 8) b0 G [.ref (ad 0 0), .int (nI l), .int (nI c)] 20 400 (fun _ _ => False) (fun E G' => E = "java/lang/IllegalStateException" ∧ G' = G) := by
  have hb0 := hI.b0
  have hb2 := hI.b2
  have hb9 := hI.b9
  have hb15 := hI.b15
  have hb18 := hI.b18
  refine CT.intro (by decide +kernel) rfl (Nat.le_of_ble_eq_true rfl) ?_
  show WP mX8_put _ _ _ _ _ 20 400 0 [(0, .ref (ad 0 0)), (1, .int (nI l)), (2, .int (nI c))] []
  refine r_aload_n dX8_put_0 rfl 0 rfl ?_
  refine r_iload_n dX8_put_1 rfl 1 rfl ?_
  refine r_callV (st := []) [.int (nI l)] 20 400 dX8_put_2 kX8_letterAt nX8_letterAt lRX8_188 (hW.g 0 0 rfl) rfl (c_X8_letterAt_t hW hI hl) rfl rfl (Nat.le_of_ble_eq_true rfl) (Nat.le_refl _) (Nat.le_refl _) (fun _ _ h => h.elim) ?_
  refine cx_det (st2 := [.ref (ad 27 l)]) rfl ?_
  refine r_astore_n [(3, .ref (ad 27 l)), (0, .ref (ad 0 0)), (1, .int (nI l)), (2, .int (nI c))] dX8_put_5 rfl (by decide) rfl ?_
  refine r_aload_n dX8_put_6 rfl 0 rfl ?_
  refine r_ifnullR dX8_put_7 ?_
  refine r_aload_n dX8_put_10 rfl 1 rfl ?_
  refine r_iload_n dX8_put_11 rfl 3 rfl ?_
  refine r_callV (st := []) [.int (nI c)] 20 400 dX8_put_12 kX8_clauseAt nX8_clauseAt lRX8_163 (hW.g 0 0 rfl) rfl (c_X8_clauseAt_t hW hI hc) rfl rfl (Nat.le_of_ble_eq_true rfl) (Nat.le_refl _) (Nat.le_refl _) (fun _ _ h => h.elim) ?_
  refine cx_det (st2 := [.ref (ad 21 c)]) rfl ?_
  refine r_ifnonnullR 28 dX8_put_15 (by decide) ?_
  refine r_aload_n dX8_put_28 rfl 0 rfl ?_
  refine r_iload_n dX8_put_29 rfl 3 rfl ?_
  refine r_callV (st := []) [.int (nI c)] 20 400 dX8_put_30 kX2_has nX2_has lRX8_194 (hW.g 27 l hl) rfl (c_X2_has (lt27 hW hI hl) (nI c)) rfl rfl (Nat.le_of_ble_eq_true rfl) (Nat.le_refl _) (Nat.le_refl _) (fun _ _ h => h.elim) ?_
  refine cx_det (st2 := [.int (b2i (hsB (rg A 16 (6 * l) 6) (A 17 l) (nI c)))]) rfl ?_
  refine r_if_ne 44 dX8_put_33 (by decide) (fun c_1 => absurd (b2i_z hh) c_1) (fun c_1 => ?_)
  refine r_aload_n dX8_put_36 rfl 0 rfl ?_
  refine r_iload_n dX8_put_37 rfl 3 rfl ?_
  refine r_callV (st := []) [.int (nI c)] 20 400 dX8_put_38 kX2_append nX2_append lRX8_197 (hW.g 27 l hl) rfl (c_X2_append_f (lt27 hW hI hl) hrm (nI c)) rfl rfl (Nat.le_of_ble_eq_true rfl) (Nat.le_refl _) (Nat.le_refl _) (fun _ _ h => h.elim) ?_
  refine cx_det (st2 := [.int 0]) rfl ?_
  refine r_if_ne 54 dX8_put_41 (by decide) (fun c_2 => absurd (by decide) c_2) (fun c_2 => ?_)
  refine r_throw "java/lang/IllegalStateException" "the letter has the clause, or is full" dX8_put_44 dX8_put_47 dX8_put_48 dX8_put_50 dX8_put_53 rfl (by decide +kernel) t_212 t_31 (by decide +kernel) exS_at exS_ng (by decide +kernel) (by omega) (by decide) (by decide) (Nat.le_of_ble_eq_true rfl) ?_
  exact ⟨rfl, rfl⟩
set_option maxRecDepth 100000 in
set_option maxHeartbeats 4000000 in
theorem c_approve_0 {d b0 : Nat} {G : GH} {A B : ST} {ad : AD} (hW : World A B ad G) (hI : Inv A) (hP : Pag A) {c l : Nat} (hc : c < A 9 0) (hl : l < 3) (hth : 0 < A 12 (3 * c + l)) (ha : A 13 (3 * c + l) = 0) : CT mX8_approve (d + 8) b0 G [.ref (ad 0 0), .int (nI c), .int (nI l)] 20 400 (OPo 1 (setA A 13 (3 * c + l) 1) B ad A) (fun _ _ => False) := by
  have hb0 := hI.b0
  have hb2 := hI.b2
  have hb9 := hI.b9
  have hb15 := hI.b15
  have hb18 := hI.b18
  have ht : 3 * c + l < 3 * A 9 0 := by omega
  have hz1 : isZ (nI (A 13 (3 * c + l))) := by rw [ha]; rfl
  refine CT.intro (by decide +kernel) rfl (Nat.le_of_ble_eq_true rfl) ?_
  show WP mX8_approve _ _ _ _ _ 20 400 0 [(0, .ref (ad 0 0)), (1, .int (nI c)), (2, .int (nI l))] []
  refine r_aload_n dX8_approve_0 rfl 0 rfl ?_
  refine r_iload_n dX8_approve_1 rfl 1 rfl ?_
  refine r_iload_n dX8_approve_2 rfl 2 rfl ?_
  refine r_callV (st := []) [.int (nI c), .int (nI l)] 20 400 dX8_approve_3 kX8_templateAt nX8_templateAt lRX8_131 (hW.g 0 0 rfl) rfl (c_X8_templateAt_t hW hI hc hl) rfl rfl (Nat.le_of_ble_eq_true rfl) (Nat.le_refl _) (Nat.le_refl _) (fun _ _ h => h.elim) ?_
  refine cx_det (st2 := [.ref (ad 24 (3 * c + l))]) rfl ?_
  refine r_astore_n [(3, .ref (ad 24 (3 * c + l))), (0, .ref (ad 0 0)), (1, .int (nI c)), (2, .int (nI l))] dX8_approve_6 rfl (by decide) rfl ?_
  refine r_aload_n dX8_approve_7 rfl 0 rfl ?_
  refine r_ifnonnullR 21 dX8_approve_8 (by decide) ?_
  refine r_aload_n dX8_approve_21 rfl 0 rfl ?_
  refine r_callV (st := []) [] 20 400 dX8_approve_22 kX6_isThere nX6_isThere lRX8_151 (hW.g 24 (3 * c + l) ht) rfl (c_X6_isThere (tp24 hW hI ht)) rfl rfl (Nat.le_of_ble_eq_true rfl) (Nat.le_refl _) (Nat.le_refl _) (fun _ _ h => h.elim) ?_
  refine cx_det (st2 := [.int (b2i (decide (0 < A 12 (3 * c + l))))]) rfl ?_
  refine r_if_ne 38 dX8_approve_25 (by decide) (fun c_1 => ?_) (fun c_1 => absurd c_1 (b2i_no (decide_eq_true hth)))
  refine r_aload_n dX8_approve_38 rfl 0 rfl ?_
  refine r_callV (st := []) [] 20 400 dX8_approve_39 kX6_isApproved nX6_isApproved lRX8_157 (hW.g 24 (3 * c + l) ht) rfl (c_X6_isApproved (tp24 hW hI ht) hz1) rfl rfl (Nat.le_of_ble_eq_true rfl) (Nat.le_refl _) (Nat.le_refl _) (fun _ _ h => h.elim) ?_
  refine cx_det (st2 := [.int (nI (A 13 (3 * c + l)))]) rfl ?_
  refine r_if_ne 49 dX8_approve_42 (by decide) (fun c_2 => absurd (by rw [ha, nI_0]) c_2) (fun c_2 => ?_)
  refine r_iconst (v := 1) dX8_approve_45 (by decide) ?_
  refine r_goto 50 dX8_approve_46 (by decide) ?_
  refine r_istore [(4, .int 1), (3, .ref (ad 24 (3 * c + l))), (0, .ref (ad 0 0)), (1, .int (nI c)), (2, .int (nI l))] dX8_approve_50 (by decide) rfl ?_
  refine r_aload_n dX8_approve_52 rfl 1 rfl ?_
  refine r_callV (st := []) [] 20 400 dX8_approve_53 kX6_setApproved nX6_setApproved lRX8_160 (hW.g 24 (3 * c + l) ht) rfl (c_X6_setApproved (tp24 hW hI ht)) rfl rfl (Nat.le_of_ble_eq_true rfl) (Nat.le_refl _) (Nat.le_refl _) (fun _ _ h => h.elim) ?_
  refine cx_det (st2 := []) rfl ?_
  have hW_3 : World (setA A 13 (3 * c + l) 1) B ad (va_up G (ad 24 (3 * c + l)) (some (tpC (ad 25 (3 * c + l)) (nI 1)))) := w_ap hW ht
  refine r_heap (G' := va_up G (ad 24 (3 * c + l)) (some (tpC (ad 25 (3 * c + l)) (nI 1)))) rfl ?_
  refine r_iload dX8_approve_56 0 rfl ?_
  refine r_ret .boolean dX8_approve_58 rfl rfl ?_
  exact ⟨rfl, (setA A 13 (3 * c + l) 1), ad, hW_3, fun _ _ _ => rfl, hP, fun f hf => rfl⟩
set_option maxRecDepth 100000 in
set_option maxHeartbeats 4000000 in
theorem c_approve_0b {d b0 : Nat} {G : GH} {A B : ST} {ad : AD} (hW : World A B ad G) (hI : Inv A) (hP : Pag A) {c l : Nat} (hc : c < A 9 0) (hl : l < 3) (hth : 0 < A 12 (3 * c + l)) (ha : A 13 (3 * c + l) = 1) : CT mX8_approve (d + 8) b0 G [.ref (ad 0 0), .int (nI c), .int (nI l)] 20 400 (OPo 0 (setA A 13 (3 * c + l) 1) B ad A) (fun _ _ => False) := by
  have hb0 := hI.b0
  have hb2 := hI.b2
  have hb9 := hI.b9
  have hb15 := hI.b15
  have hb18 := hI.b18
  have ht : 3 * c + l < 3 * A 9 0 := by omega
  have hz1 : isZ (nI (A 13 (3 * c + l))) := by rw [ha]; rfl
  refine CT.intro (by decide +kernel) rfl (Nat.le_of_ble_eq_true rfl) ?_
  show WP mX8_approve _ _ _ _ _ 20 400 0 [(0, .ref (ad 0 0)), (1, .int (nI c)), (2, .int (nI l))] []
  refine r_aload_n dX8_approve_0 rfl 0 rfl ?_
  refine r_iload_n dX8_approve_1 rfl 1 rfl ?_
  refine r_iload_n dX8_approve_2 rfl 2 rfl ?_
  refine r_callV (st := []) [.int (nI c), .int (nI l)] 20 400 dX8_approve_3 kX8_templateAt nX8_templateAt lRX8_131 (hW.g 0 0 rfl) rfl (c_X8_templateAt_t hW hI hc hl) rfl rfl (Nat.le_of_ble_eq_true rfl) (Nat.le_refl _) (Nat.le_refl _) (fun _ _ h => h.elim) ?_
  refine cx_det (st2 := [.ref (ad 24 (3 * c + l))]) rfl ?_
  refine r_astore_n [(3, .ref (ad 24 (3 * c + l))), (0, .ref (ad 0 0)), (1, .int (nI c)), (2, .int (nI l))] dX8_approve_6 rfl (by decide) rfl ?_
  refine r_aload_n dX8_approve_7 rfl 0 rfl ?_
  refine r_ifnonnullR 21 dX8_approve_8 (by decide) ?_
  refine r_aload_n dX8_approve_21 rfl 0 rfl ?_
  refine r_callV (st := []) [] 20 400 dX8_approve_22 kX6_isThere nX6_isThere lRX8_151 (hW.g 24 (3 * c + l) ht) rfl (c_X6_isThere (tp24 hW hI ht)) rfl rfl (Nat.le_of_ble_eq_true rfl) (Nat.le_refl _) (Nat.le_refl _) (fun _ _ h => h.elim) ?_
  refine cx_det (st2 := [.int (b2i (decide (0 < A 12 (3 * c + l))))]) rfl ?_
  refine r_if_ne 38 dX8_approve_25 (by decide) (fun c_1 => ?_) (fun c_1 => absurd c_1 (b2i_no (decide_eq_true hth)))
  refine r_aload_n dX8_approve_38 rfl 0 rfl ?_
  refine r_callV (st := []) [] 20 400 dX8_approve_39 kX6_isApproved nX6_isApproved lRX8_157 (hW.g 24 (3 * c + l) ht) rfl (c_X6_isApproved (tp24 hW hI ht) hz1) rfl rfl (Nat.le_of_ble_eq_true rfl) (Nat.le_refl _) (Nat.le_refl _) (fun _ _ h => h.elim) ?_
  refine cx_det (st2 := [.int (nI (A 13 (3 * c + l)))]) rfl ?_
  refine r_if_ne 49 dX8_approve_42 (by decide) (fun c_2 => ?_) (fun c_2 => absurd c_2 (by rw [ha]; decide))
  refine r_iconst (v := 0) dX8_approve_49 (by decide) ?_
  refine r_istore [(4, .int 0), (3, .ref (ad 24 (3 * c + l))), (0, .ref (ad 0 0)), (1, .int (nI c)), (2, .int (nI l))] dX8_approve_50 (by decide) rfl ?_
  refine r_aload_n dX8_approve_52 rfl 1 rfl ?_
  refine r_callV (st := []) [] 20 400 dX8_approve_53 kX6_setApproved nX6_setApproved lRX8_160 (hW.g 24 (3 * c + l) ht) rfl (c_X6_setApproved (tp24 hW hI ht)) rfl rfl (Nat.le_of_ble_eq_true rfl) (Nat.le_refl _) (Nat.le_refl _) (fun _ _ h => h.elim) ?_
  refine cx_det (st2 := []) rfl ?_
  have hW_3 : World (setA A 13 (3 * c + l) 1) B ad (va_up G (ad 24 (3 * c + l)) (some (tpC (ad 25 (3 * c + l)) (nI 1)))) := w_ap hW ht
  refine r_heap (G' := va_up G (ad 24 (3 * c + l)) (some (tpC (ad 25 (3 * c + l)) (nI 1)))) rfl ?_
  refine r_iload dX8_approve_56 0 rfl ?_
  refine r_ret .boolean dX8_approve_58 rfl rfl ?_
  exact ⟨rfl, (setA A 13 (3 * c + l) 1), ad, hW_3, fun _ _ _ => rfl, hP, fun f hf => rfl⟩
set_option maxRecDepth 100000 in
set_option maxHeartbeats 4000000 in
theorem c_approve_1 {d b0 : Nat} {G : GH} {A B : ST} {ad : AD} (hW : World A B ad G) (hI : Inv A) {x y : Int32} (hx : (inB x (A 9 0) && inB y 3) = false) : CT mX8_approve (d + 8) b0 G [.ref (ad 0 0), .int x, .int y] 20 400 (fun _ _ => False) (fun E G' => E = "java/lang/IndexOutOfBoundsException" ∧ G' = G) := by
  have hb0 := hI.b0
  have hb2 := hI.b2
  have hb9 := hI.b9
  have hb15 := hI.b15
  have hb18 := hI.b18
  refine CT.intro (by decide +kernel) rfl (Nat.le_of_ble_eq_true rfl) ?_
  show WP mX8_approve _ _ _ _ _ 20 400 0 [(0, .ref (ad 0 0)), (1, .int x), (2, .int y)] []
  refine r_aload_n dX8_approve_0 rfl 0 rfl ?_
  refine r_iload_n dX8_approve_1 rfl 1 rfl ?_
  refine r_iload_n dX8_approve_2 rfl 2 rfl ?_
  refine r_callV (st := []) [.int x, .int y] 20 400 dX8_approve_3 kX8_templateAt nX8_templateAt lRX8_131 (hW.g 0 0 rfl) rfl (c_X8_templateAt_f hW hI hx) rfl rfl (Nat.le_of_ble_eq_true rfl) (Nat.le_refl _) (Nat.le_refl _) (fun _ _ h => h.elim) ?_
  refine cx_det (st2 := [.null]) rfl ?_
  refine r_astore_nN [(3, .null), (0, .ref (ad 0 0)), (1, .int x), (2, .int y)] dX8_approve_6 rfl (by decide) rfl ?_
  refine r_aload_nN dX8_approve_7 rfl 0 rfl ?_
  refine r_ifnonnullN dX8_approve_8 ?_
  refine r_throw "java/lang/IndexOutOfBoundsException" "no such clause or language" dX8_approve_11 dX8_approve_14 dX8_approve_15 dX8_approve_17 dX8_approve_20 rfl (by decide +kernel) t_321 t_32 (by decide +kernel) exB_at exB_ng (by decide +kernel) (by omega) (by decide) (by decide) (Nat.le_of_ble_eq_true rfl) ?_
  exact ⟨rfl, rfl⟩
set_option maxRecDepth 100000 in
set_option maxHeartbeats 4000000 in
theorem c_approve_2 {d b0 : Nat} {G : GH} {A B : ST} {ad : AD} (hW : World A B ad G) (hI : Inv A) {c l : Nat} (hc : c < A 9 0) (hl : l < 3) (hth : ¬ 0 < A 12 (3 * c + l)) : CT mX8_approve (d + 8) b0 G [.ref (ad 0 0), .int (nI c), .int (nI l)] 20 400 (fun _ _ => False) (fun E G' => E = "java/lang/IllegalStateException" ∧ G' = G) := by
  have hb0 := hI.b0
  have hb2 := hI.b2
  have hb9 := hI.b9
  have hb15 := hI.b15
  have hb18 := hI.b18
  have ht : 3 * c + l < 3 * A 9 0 := by omega
  refine CT.intro (by decide +kernel) rfl (Nat.le_of_ble_eq_true rfl) ?_
  show WP mX8_approve _ _ _ _ _ 20 400 0 [(0, .ref (ad 0 0)), (1, .int (nI c)), (2, .int (nI l))] []
  refine r_aload_n dX8_approve_0 rfl 0 rfl ?_
  refine r_iload_n dX8_approve_1 rfl 1 rfl ?_
  refine r_iload_n dX8_approve_2 rfl 2 rfl ?_
  refine r_callV (st := []) [.int (nI c), .int (nI l)] 20 400 dX8_approve_3 kX8_templateAt nX8_templateAt lRX8_131 (hW.g 0 0 rfl) rfl (c_X8_templateAt_t hW hI hc hl) rfl rfl (Nat.le_of_ble_eq_true rfl) (Nat.le_refl _) (Nat.le_refl _) (fun _ _ h => h.elim) ?_
  refine cx_det (st2 := [.ref (ad 24 (3 * c + l))]) rfl ?_
  refine r_astore_n [(3, .ref (ad 24 (3 * c + l))), (0, .ref (ad 0 0)), (1, .int (nI c)), (2, .int (nI l))] dX8_approve_6 rfl (by decide) rfl ?_
  refine r_aload_n dX8_approve_7 rfl 0 rfl ?_
  refine r_ifnonnullR 21 dX8_approve_8 (by decide) ?_
  refine r_aload_n dX8_approve_21 rfl 0 rfl ?_
  refine r_callV (st := []) [] 20 400 dX8_approve_22 kX6_isThere nX6_isThere lRX8_151 (hW.g 24 (3 * c + l) ht) rfl (c_X6_isThere (tp24 hW hI ht)) rfl rfl (Nat.le_of_ble_eq_true rfl) (Nat.le_refl _) (Nat.le_refl _) (fun _ _ h => h.elim) ?_
  refine cx_det (st2 := [.int (b2i (decide (0 < A 12 (3 * c + l))))]) rfl ?_
  refine r_if_ne 38 dX8_approve_25 (by decide) (fun c_1 => absurd (b2i_z (decide_eq_false hth)) c_1) (fun c_1 => ?_)
  refine r_throw "java/lang/IllegalStateException" "no text there" dX8_approve_28 dX8_approve_31 dX8_approve_32 dX8_approve_34 dX8_approve_37 rfl (by decide +kernel) t_212 t_31 (by decide +kernel) exS_at exS_ng (by decide +kernel) (by omega) (by decide) (by decide) (Nat.le_of_ble_eq_true rfl) ?_
  exact ⟨rfl, rfl⟩
