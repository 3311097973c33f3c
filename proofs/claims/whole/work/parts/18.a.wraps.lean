def n32 (x : Int32) : Nat := x.toBitVec.toNat
theorem n32_s (x : Int32) : nI (n32 x) = x := Int32.toBitVec.inj (by show BitVec.ofNat 32 x.toBitVec.toNat = x.toBitVec; simp)
/-- what a wrapper leaves: 0, the answer in the row, the class's numbers -/
def LPo (v : Int32) (st B : ST) (ad : AD) (A : ST) : Option Value → GH → Prop := fun r G' => r = some (.int 0) ∧ ∃ (A' : ST) (ad' : AD), World A' (setA B 40 0 (n32 v)) ad' G' ∧ (∀ k i, lvw A k i → ad' k i = ad k i) ∧ Pag A' ∧ (∀ f, f < 22 → A' f = st f)
set_option maxRecDepth 100000 in
set_option maxHeartbeats 4000000 in
theorem w_type_0 {d b0 : Nat} {G : GH} {A B : ST} {ad : AD} (hW : World A B ad G) {st : ST} {v : Int32} {x1 : Int32} (hC : CT mX8_type d b0 G [.ref (ad 0 0), .int x1] 20 400 (OPo (v) st B ad A) (fun _ _ => False)) : CT mL_type (d + 1) b0 G [.ref (ad 0 0), .int x1, .ref (ad 33 0)] 20 400 (LPo (v) st B ad A) (fun _ _ => False) := by
  refine CT.introW (by decide +kernel) (List.cons_ne_nil _ _) (Nat.le_of_ble_eq_true rfl) ?_
  show WP mL_type _ _ _ _ _ 20 400 0 [(0, .ref (ad 0 0)), (1, .int x1), (2, .ref (ad 33 0))] []
  refine r_aload_n dL_type_0 rfl 2 rfl ?_
  refine r_iconst (v := 0) dL_type_1 (by decide) ?_
  refine r_aload_n dL_type_2 rfl 0 rfl ?_
  refine r_iload_n dL_type_3 rfl 1 rfl ?_
  refine r_callV (st := [.int 0, .ref (ad 33 0)]) [.int x1] 0 0 dL_type_4 kX8_type nX8_type lRL_7 (hW.g 0 0 rfl) rfl hC rfl rfl (Nat.le_of_ble_eq_true rfl) (Nat.le_of_ble_eq_true rfl) (Nat.le_of_ble_eq_true rfl) (fun _ _ h => h.elim) ?_
  intro r G9 hr
  obtain ⟨rfl, A9, ad9, hW9, hk9, hP9, hf9⟩ := hr
  have h33 : G9 (ad 33 0) = some (.inl (.long, 1, .inr (.inl (fun j => if j = 0 then (nI (B 40 0)).toInt64 else 0)))) := by rw [← hk9 33 0 rfl]; exact hW9.g 33 0 rfl
  show WP mL_type _ _ _ _ _ _ _ 7 [(0, .ref (ad 0 0)), (1, .int x1), (2, .ref (ad 33 0))] [.int v, .int 0, .ref (ad 33 0)]
  refine r_i2l dL_type_7 ?_
  have hw9 := w_out hW9 (n32 v)
  rw [n32_s, hk9 33 0 rfl] at hw9
  refine r_last dL_type_8 h33 (show vp_in (nI 0) 1 from vp_in_nI (by decide) (by decide)) ?_
  refine r_heap (G' := va_up G9 (ad 33 0) (some (.inl (.long, 1, .inr (.inl (vp_updL (fun j => if j = 0 then (nI (B 40 0)).toInt64 else 0) 0 (v.toInt64))))))) rfl ?_
  refine r_goto 15 dL_type_9 (by decide) ?_
  refine r_iconst (v := 0) dL_type_15 (by decide) ?_
  refine r_ireti dL_type_16 rfl ?_
  exact ⟨rfl, A9, ad9, hw9, hk9, hP9, hf9⟩
set_option maxRecDepth 100000 in
set_option maxHeartbeats 4000000 in
theorem w_type_1 {d b0 : Nat} {G : GH} {A B : ST} {ad : AD} (hW : World A B ad G) {x1 : Int32} (hC : CT mX8_type d b0 G [.ref (ad 0 0), .int x1] 20 400 (fun _ _ => False) (fun E G' => E = "java/lang/IllegalStateException" ∧ G' = G)) : CT mL_type (d + 1) b0 G [.ref (ad 0 0), .int x1, .ref (ad 33 0)] 20 400 (fun r G' => r = some (.int 1) ∧ G' = G) (fun _ _ => False) := by
  refine CT.introW (by decide +kernel) (List.cons_ne_nil _ _) (Nat.le_of_ble_eq_true rfl) ?_
  show WP mL_type _ _ _ _ _ 20 400 0 [(0, .ref (ad 0 0)), (1, .int x1), (2, .ref (ad 33 0))] []
  refine r_aload_n dL_type_0 rfl 2 rfl ?_
  refine r_iconst (v := 0) dL_type_1 (by decide) ?_
  refine r_aload_n dL_type_2 rfl 0 rfl ?_
  refine r_iload_n dL_type_3 rfl 1 rfl ?_
  have hx9 : ∀ (E9 : String) (G9 : GH), (E9 = "java/lang/IllegalStateException" ∧ G9 = G) → WX mL_type (d + 1) b0 (fun r G' => r = some (.int 1) ∧ G' = G) (fun _ _ => False) G9 0 0 4 [(0, .ref (ad 0 0)), (1, .int x1), (2, .ref (ad 33 0))] E9 := by
    intro E9 G9 hx
    obtain ⟨rfl, rfl⟩ := hx
    refine r_catch [] ⟨0, 9, 12, 13⟩ [] rfl (fun z hz => by cases hz) (by decide) (by decide) t_215 (by decide +kernel) (fun q => ?_)
    show WP mL_type _ _ _ _ _ _ _ 12 [(0, .ref (ad 0 0)), (1, .int x1), (2, .ref (ad 33 0))] [.ref q]
    refine r_astore_n [(3, .ref q), (0, .ref (ad 0 0)), (1, .int x1), (2, .ref (ad 33 0))] dL_type_12 rfl (by decide) rfl ?_
    refine r_iconst (v := 1) dL_type_13 (by decide) ?_
    refine r_ireti dL_type_14 rfl ?_
    exact ⟨rfl, rfl⟩
  refine r_callV (st := [.int 0, .ref (ad 33 0)]) [.int x1] 0 0 dL_type_4 kX8_type nX8_type lRL_7 (hW.g 0 0 rfl) rfl hC rfl rfl (Nat.le_of_ble_eq_true rfl) (Nat.le_of_ble_eq_true rfl) (Nat.le_of_ble_eq_true rfl) hx9 ?_
  intro r G9 hr
  exact hr.elim
set_option maxRecDepth 100000 in
set_option maxHeartbeats 4000000 in
theorem w_word_0 {d b0 : Nat} {G : GH} {A B : ST} {ad : AD} (hW : World A B ad G) {st : ST} {v : Int32} (hC : CT mX8_word d b0 G [.ref (ad 0 0)] 20 400 (OPo (v) st B ad A) (fun _ _ => False)) : CT mL_word (d + 1) b0 G [.ref (ad 0 0), .ref (ad 33 0)] 20 400 (LPo (v) st B ad A) (fun _ _ => False) := by
  refine CT.introW (by decide +kernel) (List.cons_ne_nil _ _) (Nat.le_of_ble_eq_true rfl) ?_
  show WP mL_word _ _ _ _ _ 20 400 0 [(0, .ref (ad 0 0)), (1, .ref (ad 33 0))] []
  refine r_aload_n dL_word_0 rfl 1 rfl ?_
  refine r_iconst (v := 0) dL_word_1 (by decide) ?_
  refine r_aload_n dL_word_2 rfl 0 rfl ?_
  refine r_callV (st := [.int 0, .ref (ad 33 0)]) [] 0 0 dL_word_3 kX8_word nX8_word lRL_15 (hW.g 0 0 rfl) rfl hC rfl rfl (Nat.le_of_ble_eq_true rfl) (Nat.le_of_ble_eq_true rfl) (Nat.le_of_ble_eq_true rfl) (fun _ _ h => h.elim) ?_
  intro r G9 hr
  obtain ⟨rfl, A9, ad9, hW9, hk9, hP9, hf9⟩ := hr
  have h33 : G9 (ad 33 0) = some (.inl (.long, 1, .inr (.inl (fun j => if j = 0 then (nI (B 40 0)).toInt64 else 0)))) := by rw [← hk9 33 0 rfl]; exact hW9.g 33 0 rfl
  show WP mL_word _ _ _ _ _ _ _ 6 [(0, .ref (ad 0 0)), (1, .ref (ad 33 0))] [.int v, .int 0, .ref (ad 33 0)]
  refine r_i2l dL_word_6 ?_
  have hw9 := w_out hW9 (n32 v)
  rw [n32_s, hk9 33 0 rfl] at hw9
  refine r_last dL_word_7 h33 (show vp_in (nI 0) 1 from vp_in_nI (by decide) (by decide)) ?_
  refine r_heap (G' := va_up G9 (ad 33 0) (some (.inl (.long, 1, .inr (.inl (vp_updL (fun j => if j = 0 then (nI (B 40 0)).toInt64 else 0) 0 (v.toInt64))))))) rfl ?_
  refine r_goto 14 dL_word_8 (by decide) ?_
  refine r_iconst (v := 0) dL_word_14 (by decide) ?_
  refine r_ireti dL_word_15 rfl ?_
  exact ⟨rfl, A9, ad9, hw9, hk9, hP9, hf9⟩
set_option maxRecDepth 100000 in
set_option maxHeartbeats 4000000 in
theorem w_word_1 {d b0 : Nat} {G : GH} {A B : ST} {ad : AD} (hW : World A B ad G) (hC : CT mX8_word d b0 G [.ref (ad 0 0)] 20 400 (fun _ _ => False) (fun E G' => E = "java/lang/IllegalStateException" ∧ G' = G)) : CT mL_word (d + 1) b0 G [.ref (ad 0 0), .ref (ad 33 0)] 20 400 (fun r G' => r = some (.int 1) ∧ G' = G) (fun _ _ => False) := by
  refine CT.introW (by decide +kernel) (List.cons_ne_nil _ _) (Nat.le_of_ble_eq_true rfl) ?_
  show WP mL_word _ _ _ _ _ 20 400 0 [(0, .ref (ad 0 0)), (1, .ref (ad 33 0))] []
  refine r_aload_n dL_word_0 rfl 1 rfl ?_
  refine r_iconst (v := 0) dL_word_1 (by decide) ?_
  refine r_aload_n dL_word_2 rfl 0 rfl ?_
  have hx9 : ∀ (E9 : String) (G9 : GH), (E9 = "java/lang/IllegalStateException" ∧ G9 = G) → WX mL_word (d + 1) b0 (fun r G' => r = some (.int 1) ∧ G' = G) (fun _ _ => False) G9 0 0 3 [(0, .ref (ad 0 0)), (1, .ref (ad 33 0))] E9 := by
    intro E9 G9 hx
    obtain ⟨rfl, rfl⟩ := hx
    refine r_catch [] ⟨0, 8, 11, 13⟩ [] rfl (fun z hz => by cases hz) (by decide) (by decide) t_215 (by decide +kernel) (fun q => ?_)
    show WP mL_word _ _ _ _ _ _ _ 11 [(0, .ref (ad 0 0)), (1, .ref (ad 33 0))] [.ref q]
    refine r_astore_n [(2, .ref q), (0, .ref (ad 0 0)), (1, .ref (ad 33 0))] dL_word_11 rfl (by decide) rfl ?_
    refine r_iconst (v := 1) dL_word_12 (by decide) ?_
    refine r_ireti dL_word_13 rfl ?_
    exact ⟨rfl, rfl⟩
  refine r_callV (st := [.int 0, .ref (ad 33 0)]) [] 0 0 dL_word_3 kX8_word nX8_word lRL_15 (hW.g 0 0 rfl) rfl hC rfl rfl (Nat.le_of_ble_eq_true rfl) (Nat.le_of_ble_eq_true rfl) (Nat.le_of_ble_eq_true rfl) hx9 ?_
  intro r G9 hr
  exact hr.elim
set_option maxRecDepth 100000 in
set_option maxHeartbeats 4000000 in
theorem w_form_0 {d b0 : Nat} {G : GH} {A B : ST} {ad : AD} (hW : World A B ad G) {st : ST} {v : Int32} {x1 x2 x3 : Int32} (hC : CT mX8_form d b0 G [.ref (ad 0 0), .int x1, .int x2, .int x3] 20 400 (OPo (v) st B ad A) (fun _ _ => False)) : CT mL_form (d + 1) b0 G [.ref (ad 0 0), .int x1, .int x2, .int x3, .ref (ad 33 0)] 20 400 (LPo (v) st B ad A) (fun _ _ => False) := by
  refine CT.introW (by decide +kernel) (List.cons_ne_nil _ _) (Nat.le_of_ble_eq_true rfl) ?_
  show WP mL_form _ _ _ _ _ 20 400 0 [(0, .ref (ad 0 0)), (1, .int x1), (2, .int x2), (3, .int x3), (4, .ref (ad 33 0))] []
  refine r_aload dL_form_0 4 rfl ?_
  refine r_iconst (v := 0) dL_form_2 (by decide) ?_
  refine r_aload_n dL_form_3 rfl 0 rfl ?_
  refine r_iload_n dL_form_4 rfl 1 rfl ?_
  refine r_iload_n dL_form_5 rfl 2 rfl ?_
  refine r_iload_n dL_form_6 rfl 3 rfl ?_
  refine r_callV (st := [.int 0, .ref (ad 33 0)]) [.int x1, .int x2, .int x3] 0 0 dL_form_7 kX8_form nX8_form lRL_19 (hW.g 0 0 rfl) rfl hC rfl rfl (Nat.le_of_ble_eq_true rfl) (Nat.le_of_ble_eq_true rfl) (Nat.le_of_ble_eq_true rfl) (fun _ _ h => h.elim) ?_
  intro r G9 hr
  obtain ⟨rfl, A9, ad9, hW9, hk9, hP9, hf9⟩ := hr
  have h33 : G9 (ad 33 0) = some (.inl (.long, 1, .inr (.inl (fun j => if j = 0 then (nI (B 40 0)).toInt64 else 0)))) := by rw [← hk9 33 0 rfl]; exact hW9.g 33 0 rfl
  show WP mL_form _ _ _ _ _ _ _ 10 [(0, .ref (ad 0 0)), (1, .int x1), (2, .int x2), (3, .int x3), (4, .ref (ad 33 0))] [.int v, .int 0, .ref (ad 33 0)]
  refine r_i2l dL_form_10 ?_
  have hw9 := w_out hW9 (n32 v)
  rw [n32_s, hk9 33 0 rfl] at hw9
  refine r_last dL_form_11 h33 (show vp_in (nI 0) 1 from vp_in_nI (by decide) (by decide)) ?_
  refine r_heap (G' := va_up G9 (ad 33 0) (some (.inl (.long, 1, .inr (.inl (vp_updL (fun j => if j = 0 then (nI (B 40 0)).toInt64 else 0) 0 (v.toInt64))))))) rfl ?_
  refine r_goto 27 dL_form_12 (by decide) ?_
  refine r_iconst (v := 0) dL_form_27 (by decide) ?_
  refine r_ireti dL_form_28 rfl ?_
  exact ⟨rfl, A9, ad9, hw9, hk9, hP9, hf9⟩
set_option maxRecDepth 100000 in
set_option maxHeartbeats 4000000 in
theorem w_form_1 {d b0 : Nat} {G : GH} {A B : ST} {ad : AD} (hW : World A B ad G) {x1 x2 x3 : Int32} (hC : CT mX8_form d b0 G [.ref (ad 0 0), .int x1, .int x2, .int x3] 20 400 (fun _ _ => False) (fun E G' => E = "java/lang/IndexOutOfBoundsException" ∧ G' = G)) : CT mL_form (d + 1) b0 G [.ref (ad 0 0), .int x1, .int x2, .int x3, .ref (ad 33 0)] 20 400 (fun r G' => r = some (.int 1) ∧ G' = G) (fun _ _ => False) := by
  refine CT.introW (by decide +kernel) (List.cons_ne_nil _ _) (Nat.le_of_ble_eq_true rfl) ?_
  show WP mL_form _ _ _ _ _ 20 400 0 [(0, .ref (ad 0 0)), (1, .int x1), (2, .int x2), (3, .int x3), (4, .ref (ad 33 0))] []
  refine r_aload dL_form_0 4 rfl ?_
  refine r_iconst (v := 0) dL_form_2 (by decide) ?_
  refine r_aload_n dL_form_3 rfl 0 rfl ?_
  refine r_iload_n dL_form_4 rfl 1 rfl ?_
  refine r_iload_n dL_form_5 rfl 2 rfl ?_
  refine r_iload_n dL_form_6 rfl 3 rfl ?_
  have hx9 : ∀ (E9 : String) (G9 : GH), (E9 = "java/lang/IndexOutOfBoundsException" ∧ G9 = G) → WX mL_form (d + 1) b0 (fun r G' => r = some (.int 1) ∧ G' = G) (fun _ _ => False) G9 0 0 7 [(0, .ref (ad 0 0)), (1, .int x1), (2, .int x2), (3, .int x3), (4, .ref (ad 33 0))] E9 := by
    intro E9 G9 hx
    obtain ⟨rfl, rfl⟩ := hx
    refine r_catch [] ⟨0, 12, 15, 23⟩ [⟨0, 12, 19, 25⟩, ⟨0, 12, 23, 13⟩] rfl (fun z hz => by cases hz) (by decide) (by decide) t_327 (by decide +kernel) (fun q => ?_)
    show WP mL_form _ _ _ _ _ _ _ 15 [(0, .ref (ad 0 0)), (1, .int x1), (2, .int x2), (3, .int x3), (4, .ref (ad 33 0))] [.ref q]
    refine r_astore [(5, .ref q), (0, .ref (ad 0 0)), (1, .int x1), (2, .int x2), (3, .int x3), (4, .ref (ad 33 0))] dL_form_15 (by decide) rfl ?_
    refine r_iconst (v := 1) dL_form_17 (by decide) ?_
    refine r_ireti dL_form_18 rfl ?_
    exact ⟨rfl, rfl⟩
  refine r_callV (st := [.int 0, .ref (ad 33 0)]) [.int x1, .int x2, .int x3] 0 0 dL_form_7 kX8_form nX8_form lRL_19 (hW.g 0 0 rfl) rfl hC rfl rfl (Nat.le_of_ble_eq_true rfl) (Nat.le_of_ble_eq_true rfl) (Nat.le_of_ble_eq_true rfl) hx9 ?_
  intro r G9 hr
  exact hr.elim
set_option maxRecDepth 100000 in
set_option maxHeartbeats 4000000 in
theorem w_form_2 {d b0 : Nat} {G : GH} {A B : ST} {ad : AD} (hW : World A B ad G) {x1 x2 x3 : Int32} (hC : CT mX8_form d b0 G [.ref (ad 0 0), .int x1, .int x2, .int x3] 20 400 (fun _ _ => False) (fun E G' => E = "java/lang/IllegalArgumentException" ∧ G' = G)) : CT mL_form (d + 1) b0 G [.ref (ad 0 0), .int x1, .int x2, .int x3, .ref (ad 33 0)] 20 400 (fun r G' => r = some (.int 2) ∧ G' = G) (fun _ _ => False) := by
  refine CT.introW (by decide +kernel) (List.cons_ne_nil _ _) (Nat.le_of_ble_eq_true rfl) ?_
  show WP mL_form _ _ _ _ _ 20 400 0 [(0, .ref (ad 0 0)), (1, .int x1), (2, .int x2), (3, .int x3), (4, .ref (ad 33 0))] []
  refine r_aload dL_form_0 4 rfl ?_
  refine r_iconst (v := 0) dL_form_2 (by decide) ?_
  refine r_aload_n dL_form_3 rfl 0 rfl ?_
  refine r_iload_n dL_form_4 rfl 1 rfl ?_
  refine r_iload_n dL_form_5 rfl 2 rfl ?_
  refine r_iload_n dL_form_6 rfl 3 rfl ?_
  have hx9 : ∀ (E9 : String) (G9 : GH), (E9 = "java/lang/IllegalArgumentException" ∧ G9 = G) → WX mL_form (d + 1) b0 (fun r G' => r = some (.int 2) ∧ G' = G) (fun _ _ => False) G9 0 0 7 [(0, .ref (ad 0 0)), (1, .int x1), (2, .int x2), (3, .int x3), (4, .ref (ad 33 0))] E9 := by
    intro E9 G9 hx
    obtain ⟨rfl, rfl⟩ := hx
    refine r_catch [⟨0, 12, 15, 23⟩] ⟨0, 12, 19, 25⟩ [⟨0, 12, 23, 13⟩] rfl (fun z hz => by
      simp only [List.mem_cons, List.not_mem_nil, or_false] at hz
      rw [hz]; exact ⟨by decide, "java/lang/IndexOutOfBoundsException", t_327, by decide +kernel⟩) (by decide) (by decide) t_328 (by decide +kernel) (fun q => ?_)
    show WP mL_form _ _ _ _ _ _ _ 19 [(0, .ref (ad 0 0)), (1, .int x1), (2, .int x2), (3, .int x3), (4, .ref (ad 33 0))] [.ref q]
    refine r_astore [(5, .ref q), (0, .ref (ad 0 0)), (1, .int x1), (2, .int x2), (3, .int x3), (4, .ref (ad 33 0))] dL_form_19 (by decide) rfl ?_
    refine r_iconst (v := 2) dL_form_21 (by decide) ?_
    refine r_ireti dL_form_22 rfl ?_
    exact ⟨rfl, rfl⟩
  refine r_callV (st := [.int 0, .ref (ad 33 0)]) [.int x1, .int x2, .int x3] 0 0 dL_form_7 kX8_form nX8_form lRL_19 (hW.g 0 0 rfl) rfl hC rfl rfl (Nat.le_of_ble_eq_true rfl) (Nat.le_of_ble_eq_true rfl) (Nat.le_of_ble_eq_true rfl) hx9 ?_
  intro r G9 hr
  exact hr.elim
set_option maxRecDepth 100000 in
set_option maxHeartbeats 4000000 in
theorem w_form_3 {d b0 : Nat} {G : GH} {A B : ST} {ad : AD} (hW : World A B ad G) {x1 x2 x3 : Int32} (hC : CT mX8_form d b0 G [.ref (ad 0 0), .int x1, .int x2, .int x3] 20 400 (fun _ _ => False) (fun E G' => E = "java/lang/IllegalStateException" ∧ G' = G)) : CT mL_form (d + 1) b0 G [.ref (ad 0 0), .int x1, .int x2, .int x3, .ref (ad 33 0)] 20 400 (fun r G' => r = some (.int 3) ∧ G' = G) (fun _ _ => False) := by
  refine CT.introW (by decide +kernel) (List.cons_ne_nil _ _) (Nat.le_of_ble_eq_true rfl) ?_
  show WP mL_form _ _ _ _ _ 20 400 0 [(0, .ref (ad 0 0)), (1, .int x1), (2, .int x2), (3, .int x3), (4, .ref (ad 33 0))] []
  refine r_aload dL_form_0 4 rfl ?_
  refine r_iconst (v := 0) dL_form_2 (by decide) ?_
  refine r_aload_n dL_form_3 rfl 0 rfl ?_
  refine r_iload_n dL_form_4 rfl 1 rfl ?_
  refine r_iload_n dL_form_5 rfl 2 rfl ?_
  refine r_iload_n dL_form_6 rfl 3 rfl ?_
  have hx9 : ∀ (E9 : String) (G9 : GH), (E9 = "java/lang/IllegalStateException" ∧ G9 = G) → WX mL_form (d + 1) b0 (fun r G' => r = some (.int 3) ∧ G' = G) (fun _ _ => False) G9 0 0 7 [(0, .ref (ad 0 0)), (1, .int x1), (2, .int x2), (3, .int x3), (4, .ref (ad 33 0))] E9 := by
    intro E9 G9 hx
    obtain ⟨rfl, rfl⟩ := hx
    refine r_catch [⟨0, 12, 15, 23⟩, ⟨0, 12, 19, 25⟩] ⟨0, 12, 23, 13⟩ [] rfl (fun z hz => by
      simp only [List.mem_cons, List.not_mem_nil, or_false] at hz
      rcases hz with hz | hz
      · rw [hz]; exact ⟨by decide, "java/lang/IndexOutOfBoundsException", t_327, by decide +kernel⟩
      · rw [hz]; exact ⟨by decide, "java/lang/IllegalArgumentException", t_328, by decide +kernel⟩) (by decide) (by decide) t_215 (by decide +kernel) (fun q => ?_)
    show WP mL_form _ _ _ _ _ _ _ 23 [(0, .ref (ad 0 0)), (1, .int x1), (2, .int x2), (3, .int x3), (4, .ref (ad 33 0))] [.ref q]
    refine r_astore [(5, .ref q), (0, .ref (ad 0 0)), (1, .int x1), (2, .int x2), (3, .int x3), (4, .ref (ad 33 0))] dL_form_23 (by decide) rfl ?_
    refine r_iconst (v := 3) dL_form_25 (by decide) ?_
    refine r_ireti dL_form_26 rfl ?_
    exact ⟨rfl, rfl⟩
  refine r_callV (st := [.int 0, .ref (ad 33 0)]) [.int x1, .int x2, .int x3] 0 0 dL_form_7 kX8_form nX8_form lRL_19 (hW.g 0 0 rfl) rfl hC rfl rfl (Nat.le_of_ble_eq_true rfl) (Nat.le_of_ble_eq_true rfl) (Nat.le_of_ble_eq_true rfl) hx9 ?_
  intro r G9 hr
  exact hr.elim
set_option maxRecDepth 100000 in
set_option maxHeartbeats 4000000 in
theorem w_clause_0 {d b0 : Nat} {G : GH} {A B : ST} {ad : AD} (hW : World A B ad G) {st : ST} {v : Int32} {x1 : Int32} (hC : CT mX8_clause d b0 G [.ref (ad 0 0), .int x1] 20 400 (OPo (v) st B ad A) (fun _ _ => False)) : CT mL_clause (d + 1) b0 G [.ref (ad 0 0), .int x1, .ref (ad 33 0)] 20 400 (LPo (v) st B ad A) (fun _ _ => False) := by
  refine CT.introW (by decide +kernel) (List.cons_ne_nil _ _) (Nat.le_of_ble_eq_true rfl) ?_
  show WP mL_clause _ _ _ _ _ 20 400 0 [(0, .ref (ad 0 0)), (1, .int x1), (2, .ref (ad 33 0))] []
  refine r_aload_n dL_clause_0 rfl 2 rfl ?_
  refine r_iconst (v := 0) dL_clause_1 (by decide) ?_
  refine r_aload_n dL_clause_2 rfl 0 rfl ?_
  refine r_iload_n dL_clause_3 rfl 1 rfl ?_
  refine r_callV (st := [.int 0, .ref (ad 33 0)]) [.int x1] 0 0 dL_clause_4 kX8_clause nX8_clause lRL_27 (hW.g 0 0 rfl) rfl hC rfl rfl (Nat.le_of_ble_eq_true rfl) (Nat.le_of_ble_eq_true rfl) (Nat.le_of_ble_eq_true rfl) (fun _ _ h => h.elim) ?_
  intro r G9 hr
  obtain ⟨rfl, A9, ad9, hW9, hk9, hP9, hf9⟩ := hr
  have h33 : G9 (ad 33 0) = some (.inl (.long, 1, .inr (.inl (fun j => if j = 0 then (nI (B 40 0)).toInt64 else 0)))) := by rw [← hk9 33 0 rfl]; exact hW9.g 33 0 rfl
  show WP mL_clause _ _ _ _ _ _ _ 7 [(0, .ref (ad 0 0)), (1, .int x1), (2, .ref (ad 33 0))] [.int v, .int 0, .ref (ad 33 0)]
  refine r_i2l dL_clause_7 ?_
  have hw9 := w_out hW9 (n32 v)
  rw [n32_s, hk9 33 0 rfl] at hw9
  refine r_last dL_clause_8 h33 (show vp_in (nI 0) 1 from vp_in_nI (by decide) (by decide)) ?_
  refine r_heap (G' := va_up G9 (ad 33 0) (some (.inl (.long, 1, .inr (.inl (vp_updL (fun j => if j = 0 then (nI (B 40 0)).toInt64 else 0) 0 (v.toInt64))))))) rfl ?_
  refine r_goto 18 dL_clause_9 (by decide) ?_
  refine r_iconst (v := 0) dL_clause_18 (by decide) ?_
  refine r_ireti dL_clause_19 rfl ?_
  exact ⟨rfl, A9, ad9, hw9, hk9, hP9, hf9⟩
set_option maxRecDepth 100000 in
set_option maxHeartbeats 4000000 in
theorem w_clause_1 {d b0 : Nat} {G : GH} {A B : ST} {ad : AD} (hW : World A B ad G) {x1 : Int32} (hC : CT mX8_clause d b0 G [.ref (ad 0 0), .int x1] 20 400 (fun _ _ => False) (fun E G' => E = "java/lang/IllegalArgumentException" ∧ G' = G)) : CT mL_clause (d + 1) b0 G [.ref (ad 0 0), .int x1, .ref (ad 33 0)] 20 400 (fun r G' => r = some (.int 1) ∧ G' = G) (fun _ _ => False) := by
  refine CT.introW (by decide +kernel) (List.cons_ne_nil _ _) (Nat.le_of_ble_eq_true rfl) ?_
  show WP mL_clause _ _ _ _ _ 20 400 0 [(0, .ref (ad 0 0)), (1, .int x1), (2, .ref (ad 33 0))] []
  refine r_aload_n dL_clause_0 rfl 2 rfl ?_
  refine r_iconst (v := 0) dL_clause_1 (by decide) ?_
  refine r_aload_n dL_clause_2 rfl 0 rfl ?_
  refine r_iload_n dL_clause_3 rfl 1 rfl ?_
  have hx9 : ∀ (E9 : String) (G9 : GH), (E9 = "java/lang/IllegalArgumentException" ∧ G9 = G) → WX mL_clause (d + 1) b0 (fun r G' => r = some (.int 1) ∧ G' = G) (fun _ _ => False) G9 0 0 4 [(0, .ref (ad 0 0)), (1, .int x1), (2, .ref (ad 33 0))] E9 := by
    intro E9 G9 hx
    obtain ⟨rfl, rfl⟩ := hx
    refine r_catch [] ⟨0, 9, 12, 25⟩ [⟨0, 9, 15, 13⟩] rfl (fun z hz => by cases hz) (by decide) (by decide) t_328 (by decide +kernel) (fun q => ?_)
    show WP mL_clause _ _ _ _ _ _ _ 12 [(0, .ref (ad 0 0)), (1, .int x1), (2, .ref (ad 33 0))] [.ref q]
    refine r_astore_n [(3, .ref q), (0, .ref (ad 0 0)), (1, .int x1), (2, .ref (ad 33 0))] dL_clause_12 rfl (by decide) rfl ?_
    refine r_iconst (v := 1) dL_clause_13 (by decide) ?_
    refine r_ireti dL_clause_14 rfl ?_
    exact ⟨rfl, rfl⟩
  refine r_callV (st := [.int 0, .ref (ad 33 0)]) [.int x1] 0 0 dL_clause_4 kX8_clause nX8_clause lRL_27 (hW.g 0 0 rfl) rfl hC rfl rfl (Nat.le_of_ble_eq_true rfl) (Nat.le_of_ble_eq_true rfl) (Nat.le_of_ble_eq_true rfl) hx9 ?_
  intro r G9 hr
  exact hr.elim
set_option maxRecDepth 100000 in
set_option maxHeartbeats 4000000 in
theorem w_clause_2 {d b0 : Nat} {G : GH} {A B : ST} {ad : AD} (hW : World A B ad G) {x1 : Int32} (hC : CT mX8_clause d b0 G [.ref (ad 0 0), .int x1] 20 400 (fun _ _ => False) (fun E G' => E = "java/lang/IllegalStateException" ∧ G' = G)) : CT mL_clause (d + 1) b0 G [.ref (ad 0 0), .int x1, .ref (ad 33 0)] 20 400 (fun r G' => r = some (.int 2) ∧ G' = G) (fun _ _ => False) := by
  refine CT.introW (by decide +kernel) (List.cons_ne_nil _ _) (Nat.le_of_ble_eq_true rfl) ?_
  show WP mL_clause _ _ _ _ _ 20 400 0 [(0, .ref (ad 0 0)), (1, .int x1), (2, .ref (ad 33 0))] []
  refine r_aload_n dL_clause_0 rfl 2 rfl ?_
  refine r_iconst (v := 0) dL_clause_1 (by decide) ?_
  refine r_aload_n dL_clause_2 rfl 0 rfl ?_
  refine r_iload_n dL_clause_3 rfl 1 rfl ?_
  have hx9 : ∀ (E9 : String) (G9 : GH), (E9 = "java/lang/IllegalStateException" ∧ G9 = G) → WX mL_clause (d + 1) b0 (fun r G' => r = some (.int 2) ∧ G' = G) (fun _ _ => False) G9 0 0 4 [(0, .ref (ad 0 0)), (1, .int x1), (2, .ref (ad 33 0))] E9 := by
    intro E9 G9 hx
    obtain ⟨rfl, rfl⟩ := hx
    refine r_catch [⟨0, 9, 12, 25⟩] ⟨0, 9, 15, 13⟩ [] rfl (fun z hz => by
      simp only [List.mem_cons, List.not_mem_nil, or_false] at hz
      rw [hz]; exact ⟨by decide, "java/lang/IllegalArgumentException", t_328, by decide +kernel⟩) (by decide) (by decide) t_215 (by decide +kernel) (fun q => ?_)
    show WP mL_clause _ _ _ _ _ _ _ 15 [(0, .ref (ad 0 0)), (1, .int x1), (2, .ref (ad 33 0))] [.ref q]
    refine r_astore_n [(3, .ref q), (0, .ref (ad 0 0)), (1, .int x1), (2, .ref (ad 33 0))] dL_clause_15 rfl (by decide) rfl ?_
    refine r_iconst (v := 2) dL_clause_16 (by decide) ?_
    refine r_ireti dL_clause_17 rfl ?_
    exact ⟨rfl, rfl⟩
  refine r_callV (st := [.int 0, .ref (ad 33 0)]) [.int x1] 0 0 dL_clause_4 kX8_clause nX8_clause lRL_27 (hW.g 0 0 rfl) rfl hC rfl rfl (Nat.le_of_ble_eq_true rfl) (Nat.le_of_ble_eq_true rfl) (Nat.le_of_ble_eq_true rfl) hx9 ?_
  intro r G9 hr
  exact hr.elim
set_option maxRecDepth 100000 in
set_option maxHeartbeats 4000000 in
theorem w_text_0 {d b0 : Nat} {G : GH} {A B : ST} {ad : AD} (hW : World A B ad G) {st : ST} {v : Int32} {x1 x2 : Int32} (hC : CT mX8_text d b0 G [.ref (ad 0 0), .int x1, .int x2] 20 400 (OPo (v) st B ad A) (fun _ _ => False)) : CT mL_text (d + 1) b0 G [.ref (ad 0 0), .int x1, .int x2, .ref (ad 33 0)] 20 400 (LPo (v) st B ad A) (fun _ _ => False) := by
  refine CT.introW (by decide +kernel) (List.cons_ne_nil _ _) (Nat.le_of_ble_eq_true rfl) ?_
  show WP mL_text _ _ _ _ _ 20 400 0 [(0, .ref (ad 0 0)), (1, .int x1), (2, .int x2), (3, .ref (ad 33 0))] []
  refine r_aload_n dL_text_0 rfl 3 rfl ?_
  refine r_iconst (v := 0) dL_text_1 (by decide) ?_
  refine r_aload_n dL_text_2 rfl 0 rfl ?_
  refine r_iload_n dL_text_3 rfl 1 rfl ?_
  refine r_iload_n dL_text_4 rfl 2 rfl ?_
  refine r_callV (st := [.int 0, .ref (ad 33 0)]) [.int x1, .int x2] 0 0 dL_text_5 kX8_text nX8_text lRL_31 (hW.g 0 0 rfl) rfl hC rfl rfl (Nat.le_of_ble_eq_true rfl) (Nat.le_of_ble_eq_true rfl) (Nat.le_of_ble_eq_true rfl) (fun _ _ h => h.elim) ?_
  intro r G9 hr
  obtain ⟨rfl, A9, ad9, hW9, hk9, hP9, hf9⟩ := hr
  have h33 : G9 (ad 33 0) = some (.inl (.long, 1, .inr (.inl (fun j => if j = 0 then (nI (B 40 0)).toInt64 else 0)))) := by rw [← hk9 33 0 rfl]; exact hW9.g 33 0 rfl
  show WP mL_text _ _ _ _ _ _ _ 8 [(0, .ref (ad 0 0)), (1, .int x1), (2, .int x2), (3, .ref (ad 33 0))] [.int v, .int 0, .ref (ad 33 0)]
  refine r_i2l dL_text_8 ?_
  have hw9 := w_out hW9 (n32 v)
  rw [n32_s, hk9 33 0 rfl] at hw9
  refine r_last dL_text_9 h33 (show vp_in (nI 0) 1 from vp_in_nI (by decide) (by decide)) ?_
  refine r_heap (G' := va_up G9 (ad 33 0) (some (.inl (.long, 1, .inr (.inl (vp_updL (fun j => if j = 0 then (nI (B 40 0)).toInt64 else 0) 0 (v.toInt64))))))) rfl ?_
  refine r_goto 21 dL_text_10 (by decide) ?_
  refine r_iconst (v := 0) dL_text_21 (by decide) ?_
  refine r_ireti dL_text_22 rfl ?_
  exact ⟨rfl, A9, ad9, hw9, hk9, hP9, hf9⟩
set_option maxRecDepth 100000 in
set_option maxHeartbeats 4000000 in
theorem w_text_1 {d b0 : Nat} {G : GH} {A B : ST} {ad : AD} (hW : World A B ad G) {x1 x2 : Int32} (hC : CT mX8_text d b0 G [.ref (ad 0 0), .int x1, .int x2] 20 400 (fun _ _ => False) (fun E G' => E = "java/lang/IndexOutOfBoundsException" ∧ G' = G)) : CT mL_text (d + 1) b0 G [.ref (ad 0 0), .int x1, .int x2, .ref (ad 33 0)] 20 400 (fun r G' => r = some (.int 1) ∧ G' = G) (fun _ _ => False) := by
  refine CT.introW (by decide +kernel) (List.cons_ne_nil _ _) (Nat.le_of_ble_eq_true rfl) ?_
  show WP mL_text _ _ _ _ _ 20 400 0 [(0, .ref (ad 0 0)), (1, .int x1), (2, .int x2), (3, .ref (ad 33 0))] []
  refine r_aload_n dL_text_0 rfl 3 rfl ?_
  refine r_iconst (v := 0) dL_text_1 (by decide) ?_
  refine r_aload_n dL_text_2 rfl 0 rfl ?_
  refine r_iload_n dL_text_3 rfl 1 rfl ?_
  refine r_iload_n dL_text_4 rfl 2 rfl ?_
  have hx9 : ∀ (E9 : String) (G9 : GH), (E9 = "java/lang/IndexOutOfBoundsException" ∧ G9 = G) → WX mL_text (d + 1) b0 (fun r G' => r = some (.int 1) ∧ G' = G) (fun _ _ => False) G9 0 0 5 [(0, .ref (ad 0 0)), (1, .int x1), (2, .int x2), (3, .ref (ad 33 0))] E9 := by
    intro E9 G9 hx
    obtain ⟨rfl, rfl⟩ := hx
    refine r_catch [] ⟨0, 10, 13, 23⟩ [⟨0, 10, 17, 13⟩] rfl (fun z hz => by cases hz) (by decide) (by decide) t_327 (by decide +kernel) (fun q => ?_)
    show WP mL_text _ _ _ _ _ _ _ 13 [(0, .ref (ad 0 0)), (1, .int x1), (2, .int x2), (3, .ref (ad 33 0))] [.ref q]
    refine r_astore [(4, .ref q), (0, .ref (ad 0 0)), (1, .int x1), (2, .int x2), (3, .ref (ad 33 0))] dL_text_13 (by decide) rfl ?_
    refine r_iconst (v := 1) dL_text_15 (by decide) ?_
    refine r_ireti dL_text_16 rfl ?_
    exact ⟨rfl, rfl⟩
  refine r_callV (st := [.int 0, .ref (ad 33 0)]) [.int x1, .int x2] 0 0 dL_text_5 kX8_text nX8_text lRL_31 (hW.g 0 0 rfl) rfl hC rfl rfl (Nat.le_of_ble_eq_true rfl) (Nat.le_of_ble_eq_true rfl) (Nat.le_of_ble_eq_true rfl) hx9 ?_
  intro r G9 hr
  exact hr.elim
set_option maxRecDepth 100000 in
set_option maxHeartbeats 4000000 in
theorem w_text_2 {d b0 : Nat} {G : GH} {A B : ST} {ad : AD} (hW : World A B ad G) {x1 x2 : Int32} (hC : CT mX8_text d b0 G [.ref (ad 0 0), .int x1, .int x2] 20 400 (fun _ _ => False) (fun E G' => E = "java/lang/IllegalStateException" ∧ G' = G)) : CT mL_text (d + 1) b0 G [.ref (ad 0 0), .int x1, .int x2, .ref (ad 33 0)] 20 400 (fun r G' => r = some (.int 2) ∧ G' = G) (fun _ _ => False) := by
  refine CT.introW (by decide +kernel) (List.cons_ne_nil _ _) (Nat.le_of_ble_eq_true rfl) ?_
  show WP mL_text _ _ _ _ _ 20 400 0 [(0, .ref (ad 0 0)), (1, .int x1), (2, .int x2), (3, .ref (ad 33 0))] []
  refine r_aload_n dL_text_0 rfl 3 rfl ?_
  refine r_iconst (v := 0) dL_text_1 (by decide) ?_
  refine r_aload_n dL_text_2 rfl 0 rfl ?_
  refine r_iload_n dL_text_3 rfl 1 rfl ?_
  refine r_iload_n dL_text_4 rfl 2 rfl ?_
  have hx9 : ∀ (E9 : String) (G9 : GH), (E9 = "java/lang/IllegalStateException" ∧ G9 = G) → WX mL_text (d + 1) b0 (fun r G' => r = some (.int 2) ∧ G' = G) (fun _ _ => False) G9 0 0 5 [(0, .ref (ad 0 0)), (1, .int x1), (2, .int x2), (3, .ref (ad 33 0))] E9 := by
    intro E9 G9 hx
    obtain ⟨rfl, rfl⟩ := hx
    refine r_catch [⟨0, 10, 13, 23⟩] ⟨0, 10, 17, 13⟩ [] rfl (fun z hz => by
      simp only [List.mem_cons, List.not_mem_nil, or_false] at hz
      rw [hz]; exact ⟨by decide, "java/lang/IndexOutOfBoundsException", t_327, by decide +kernel⟩) (by decide) (by decide) t_215 (by decide +kernel) (fun q => ?_)
    show WP mL_text _ _ _ _ _ _ _ 17 [(0, .ref (ad 0 0)), (1, .int x1), (2, .int x2), (3, .ref (ad 33 0))] [.ref q]
    refine r_astore [(4, .ref q), (0, .ref (ad 0 0)), (1, .int x1), (2, .int x2), (3, .ref (ad 33 0))] dL_text_17 (by decide) rfl ?_
    refine r_iconst (v := 2) dL_text_19 (by decide) ?_
    refine r_ireti dL_text_20 rfl ?_
    exact ⟨rfl, rfl⟩
  refine r_callV (st := [.int 0, .ref (ad 33 0)]) [.int x1, .int x2] 0 0 dL_text_5 kX8_text nX8_text lRL_31 (hW.g 0 0 rfl) rfl hC rfl rfl (Nat.le_of_ble_eq_true rfl) (Nat.le_of_ble_eq_true rfl) (Nat.le_of_ble_eq_true rfl) hx9 ?_
  intro r G9 hr
  exact hr.elim
set_option maxRecDepth 100000 in
set_option maxHeartbeats 4000000 in
theorem w_approve_0 {d b0 : Nat} {G : GH} {A B : ST} {ad : AD} (hW : World A B ad G) {st : ST} {b : Bool} {x1 x2 : Int32} (hC : CT mX8_approve d b0 G [.ref (ad 0 0), .int x1, .int x2] 20 400 (OPo (b2i b) st B ad A) (fun _ _ => False)) : CT mL_approve (d + 1) b0 G [.ref (ad 0 0), .int x1, .int x2, .ref (ad 33 0)] 20 400 (LPo (b2i b) st B ad A) (fun _ _ => False) := by
  refine CT.introW (by decide +kernel) (List.cons_ne_nil _ _) (Nat.le_of_ble_eq_true rfl) ?_
  show WP mL_approve _ _ _ _ _ 20 400 0 [(0, .ref (ad 0 0)), (1, .int x1), (2, .int x2), (3, .ref (ad 33 0))] []
  refine r_aload_n dL_approve_0 rfl 3 rfl ?_
  refine r_iconst (v := 0) dL_approve_1 (by decide) ?_
  refine r_aload_n dL_approve_2 rfl 0 rfl ?_
  refine r_iload_n dL_approve_3 rfl 1 rfl ?_
  refine r_iload_n dL_approve_4 rfl 2 rfl ?_
  refine r_callV (st := [.int 0, .ref (ad 33 0)]) [.int x1, .int x2] 0 0 dL_approve_5 kX8_approve nX8_approve lRL_35 (hW.g 0 0 rfl) rfl hC rfl rfl (Nat.le_of_ble_eq_true rfl) (Nat.le_of_ble_eq_true rfl) (Nat.le_of_ble_eq_true rfl) (fun _ _ h => h.elim) ?_
  intro r G9 hr
  obtain ⟨rfl, A9, ad9, hW9, hk9, hP9, hf9⟩ := hr
  have h33 : G9 (ad 33 0) = some (.inl (.long, 1, .inr (.inl (fun j => if j = 0 then (nI (B 40 0)).toInt64 else 0)))) := by rw [← hk9 33 0 rfl]; exact hW9.g 33 0 rfl
  show WP mL_approve _ _ _ _ _ _ _ 8 [(0, .ref (ad 0 0)), (1, .int x1), (2, .int x2), (3, .ref (ad 33 0))] [.int (b2i b), .int 0, .ref (ad 33 0)]
  refine r_if_eq 15 dL_approve_8 (by decide) (fun c_1 => ?_) (fun c_1 => ?_)
  · refine r_lconst (v := 0) dL_approve_15 (by decide) ?_
    have hb : b = false := b2i_0 c_1
    have hw9 := w_out hW9 (n32 (b2i b))
    rw [n32_s, show (b2i b).toInt64 = 0 by rw [hb]; decide, hk9 33 0 rfl] at hw9
    refine r_last dL_approve_16 h33 (show vp_in (nI 0) 1 from vp_in_nI (by decide) (by decide)) ?_
    refine r_heap (G' := va_up G9 (ad 33 0) (some (.inl (.long, 1, .inr (.inl (vp_updL (fun j => if j = 0 then (nI (B 40 0)).toInt64 else 0) 0 (0))))))) rfl ?_
    refine r_goto 28 dL_approve_17 (by decide) ?_
    refine r_iconst (v := 0) dL_approve_28 (by decide) ?_
    refine r_ireti dL_approve_29 rfl ?_
    exact ⟨rfl, A9, ad9, hw9, hk9, hP9, hf9⟩
  · refine r_lconst (v := 1) dL_approve_11 (by decide) ?_
    refine r_goto 16 dL_approve_12 (by decide) ?_
    have hb : b = true := b2i_n0 c_1
    have hw9 := w_out hW9 (n32 (b2i b))
    rw [n32_s, show (b2i b).toInt64 = 1 by rw [hb]; decide, hk9 33 0 rfl] at hw9
    refine r_last dL_approve_16 h33 (show vp_in (nI 0) 1 from vp_in_nI (by decide) (by decide)) ?_
    refine r_heap (G' := va_up G9 (ad 33 0) (some (.inl (.long, 1, .inr (.inl (vp_updL (fun j => if j = 0 then (nI (B 40 0)).toInt64 else 0) 0 (1))))))) rfl ?_
    refine r_goto 28 dL_approve_17 (by decide) ?_
    refine r_iconst (v := 0) dL_approve_28 (by decide) ?_
    refine r_ireti dL_approve_29 rfl ?_
    exact ⟨rfl, A9, ad9, hw9, hk9, hP9, hf9⟩
set_option maxRecDepth 100000 in
set_option maxHeartbeats 4000000 in
theorem w_approve_1 {d b0 : Nat} {G : GH} {A B : ST} {ad : AD} (hW : World A B ad G) {x1 x2 : Int32} (hC : CT mX8_approve d b0 G [.ref (ad 0 0), .int x1, .int x2] 20 400 (fun _ _ => False) (fun E G' => E = "java/lang/IndexOutOfBoundsException" ∧ G' = G)) : CT mL_approve (d + 1) b0 G [.ref (ad 0 0), .int x1, .int x2, .ref (ad 33 0)] 20 400 (fun r G' => r = some (.int 1) ∧ G' = G) (fun _ _ => False) := by
  refine CT.introW (by decide +kernel) (List.cons_ne_nil _ _) (Nat.le_of_ble_eq_true rfl) ?_
  show WP mL_approve _ _ _ _ _ 20 400 0 [(0, .ref (ad 0 0)), (1, .int x1), (2, .int x2), (3, .ref (ad 33 0))] []
  refine r_aload_n dL_approve_0 rfl 3 rfl ?_
  refine r_iconst (v := 0) dL_approve_1 (by decide) ?_
  refine r_aload_n dL_approve_2 rfl 0 rfl ?_
  refine r_iload_n dL_approve_3 rfl 1 rfl ?_
  refine r_iload_n dL_approve_4 rfl 2 rfl ?_
  have hx9 : ∀ (E9 : String) (G9 : GH), (E9 = "java/lang/IndexOutOfBoundsException" ∧ G9 = G) → WX mL_approve (d + 1) b0 (fun r G' => r = some (.int 1) ∧ G' = G) (fun _ _ => False) G9 0 0 5 [(0, .ref (ad 0 0)), (1, .int x1), (2, .int x2), (3, .ref (ad 33 0))] E9 := by
    intro E9 G9 hx
    obtain ⟨rfl, rfl⟩ := hx
    refine r_catch [] ⟨0, 17, 20, 23⟩ [⟨0, 17, 24, 13⟩] rfl (fun z hz => by cases hz) (by decide) (by decide) t_327 (by decide +kernel) (fun q => ?_)
    show WP mL_approve _ _ _ _ _ _ _ 20 [(0, .ref (ad 0 0)), (1, .int x1), (2, .int x2), (3, .ref (ad 33 0))] [.ref q]
    refine r_astore [(4, .ref q), (0, .ref (ad 0 0)), (1, .int x1), (2, .int x2), (3, .ref (ad 33 0))] dL_approve_20 (by decide) rfl ?_
    refine r_iconst (v := 1) dL_approve_22 (by decide) ?_
    refine r_ireti dL_approve_23 rfl ?_
    exact ⟨rfl, rfl⟩
  refine r_callV (st := [.int 0, .ref (ad 33 0)]) [.int x1, .int x2] 0 0 dL_approve_5 kX8_approve nX8_approve lRL_35 (hW.g 0 0 rfl) rfl hC rfl rfl (Nat.le_of_ble_eq_true rfl) (Nat.le_of_ble_eq_true rfl) (Nat.le_of_ble_eq_true rfl) hx9 ?_
  intro r G9 hr
  exact hr.elim
set_option maxRecDepth 100000 in
set_option maxHeartbeats 4000000 in
theorem w_approve_2 {d b0 : Nat} {G : GH} {A B : ST} {ad : AD} (hW : World A B ad G) {x1 x2 : Int32} (hC : CT mX8_approve d b0 G [.ref (ad 0 0), .int x1, .int x2] 20 400 (fun _ _ => False) (fun E G' => E = "java/lang/IllegalStateException" ∧ G' = G)) : CT mL_approve (d + 1) b0 G [.ref (ad 0 0), .int x1, .int x2, .ref (ad 33 0)] 20 400 (fun r G' => r = some (.int 2) ∧ G' = G) (fun _ _ => False) := by
  refine CT.introW (by decide +kernel) (List.cons_ne_nil _ _) (Nat.le_of_ble_eq_true rfl) ?_
  show WP mL_approve _ _ _ _ _ 20 400 0 [(0, .ref (ad 0 0)), (1, .int x1), (2, .int x2), (3, .ref (ad 33 0))] []
  refine r_aload_n dL_approve_0 rfl 3 rfl ?_
  refine r_iconst (v := 0) dL_approve_1 (by decide) ?_
  refine r_aload_n dL_approve_2 rfl 0 rfl ?_
  refine r_iload_n dL_approve_3 rfl 1 rfl ?_
  refine r_iload_n dL_approve_4 rfl 2 rfl ?_
  have hx9 : ∀ (E9 : String) (G9 : GH), (E9 = "java/lang/IllegalStateException" ∧ G9 = G) → WX mL_approve (d + 1) b0 (fun r G' => r = some (.int 2) ∧ G' = G) (fun _ _ => False) G9 0 0 5 [(0, .ref (ad 0 0)), (1, .int x1), (2, .int x2), (3, .ref (ad 33 0))] E9 := by
    intro E9 G9 hx
    obtain ⟨rfl, rfl⟩ := hx
    refine r_catch [⟨0, 17, 20, 23⟩] ⟨0, 17, 24, 13⟩ [] rfl (fun z hz => by
      simp only [List.mem_cons, List.not_mem_nil, or_false] at hz
      rw [hz]; exact ⟨by decide, "java/lang/IndexOutOfBoundsException", t_327, by decide +kernel⟩) (by decide) (by decide) t_215 (by decide +kernel) (fun q => ?_)
    show WP mL_approve _ _ _ _ _ _ _ 24 [(0, .ref (ad 0 0)), (1, .int x1), (2, .int x2), (3, .ref (ad 33 0))] [.ref q]
    refine r_astore [(4, .ref q), (0, .ref (ad 0 0)), (1, .int x1), (2, .int x2), (3, .ref (ad 33 0))] dL_approve_24 (by decide) rfl ?_
    refine r_iconst (v := 2) dL_approve_26 (by decide) ?_
    refine r_ireti dL_approve_27 rfl ?_
    exact ⟨rfl, rfl⟩
  refine r_callV (st := [.int 0, .ref (ad 33 0)]) [.int x1, .int x2] 0 0 dL_approve_5 kX8_approve nX8_approve lRL_35 (hW.g 0 0 rfl) rfl hC rfl rfl (Nat.le_of_ble_eq_true rfl) (Nat.le_of_ble_eq_true rfl) (Nat.le_of_ble_eq_true rfl) hx9 ?_
  intro r G9 hr
  exact hr.elim
set_option maxRecDepth 100000 in
set_option maxHeartbeats 4000000 in
theorem w_relate_0 {d b0 : Nat} {G : GH} {A B : ST} {ad : AD} (hW : World A B ad G) {st : ST} {v : Int32} {x1 x2 x3 x4 : Int32} (hC : CT mX8_relate d b0 G [.ref (ad 0 0), .int x1, .int x2, .int x3, .int x4] 20 400 (OPo (v) st B ad A) (fun _ _ => False)) : CT mL_relate (d + 1) b0 G [.ref (ad 0 0), .int x1, .int x2, .int x3, .int x4, .ref (ad 33 0)] 20 400 (LPo (v) st B ad A) (fun _ _ => False) := by
  refine CT.introW (by decide +kernel) (List.cons_ne_nil _ _) (Nat.le_of_ble_eq_true rfl) ?_
  show WP mL_relate _ _ _ _ _ 20 400 0 [(0, .ref (ad 0 0)), (1, .int x1), (2, .int x2), (3, .int x3), (4, .int x4), (5, .ref (ad 33 0))] []
  refine r_aload dL_relate_0 5 rfl ?_
  refine r_iconst (v := 0) dL_relate_2 (by decide) ?_
  refine r_aload_n dL_relate_3 rfl 0 rfl ?_
  refine r_iload_n dL_relate_4 rfl 1 rfl ?_
  refine r_iload_n dL_relate_5 rfl 2 rfl ?_
  refine r_iload_n dL_relate_6 rfl 3 rfl ?_
  refine r_iload dL_relate_7 4 rfl ?_
  refine r_callV (st := [.int 0, .ref (ad 33 0)]) [.int x1, .int x2, .int x3, .int x4] 0 0 dL_relate_9 kX8_relate nX8_relate lRL_39 (hW.g 0 0 rfl) rfl hC rfl rfl (Nat.le_of_ble_eq_true rfl) (Nat.le_of_ble_eq_true rfl) (Nat.le_of_ble_eq_true rfl) (fun _ _ h => h.elim) ?_
  intro r G9 hr
  obtain ⟨rfl, A9, ad9, hW9, hk9, hP9, hf9⟩ := hr
  have h33 : G9 (ad 33 0) = some (.inl (.long, 1, .inr (.inl (fun j => if j = 0 then (nI (B 40 0)).toInt64 else 0)))) := by rw [← hk9 33 0 rfl]; exact hW9.g 33 0 rfl
  show WP mL_relate _ _ _ _ _ _ _ 12 [(0, .ref (ad 0 0)), (1, .int x1), (2, .int x2), (3, .int x3), (4, .int x4), (5, .ref (ad 33 0))] [.int v, .int 0, .ref (ad 33 0)]
  refine r_i2l dL_relate_12 ?_
  have hw9 := w_out hW9 (n32 v)
  rw [n32_s, hk9 33 0 rfl] at hw9
  refine r_last dL_relate_13 h33 (show vp_in (nI 0) 1 from vp_in_nI (by decide) (by decide)) ?_
  refine r_heap (G' := va_up G9 (ad 33 0) (some (.inl (.long, 1, .inr (.inl (vp_updL (fun j => if j = 0 then (nI (B 40 0)).toInt64 else 0) 0 (v.toInt64))))))) rfl ?_
  refine r_goto 25 dL_relate_14 (by decide) ?_
  refine r_iconst (v := 0) dL_relate_25 (by decide) ?_
  refine r_ireti dL_relate_26 rfl ?_
  exact ⟨rfl, A9, ad9, hw9, hk9, hP9, hf9⟩
set_option maxRecDepth 100000 in
set_option maxHeartbeats 4000000 in
theorem w_relate_1 {d b0 : Nat} {G : GH} {A B : ST} {ad : AD} (hW : World A B ad G) {x1 x2 x3 x4 : Int32} (hC : CT mX8_relate d b0 G [.ref (ad 0 0), .int x1, .int x2, .int x3, .int x4] 20 400 (fun _ _ => False) (fun E G' => E = "java/lang/IndexOutOfBoundsException" ∧ G' = G)) : CT mL_relate (d + 1) b0 G [.ref (ad 0 0), .int x1, .int x2, .int x3, .int x4, .ref (ad 33 0)] 20 400 (fun r G' => r = some (.int 1) ∧ G' = G) (fun _ _ => False) := by
  refine CT.introW (by decide +kernel) (List.cons_ne_nil _ _) (Nat.le_of_ble_eq_true rfl) ?_
  show WP mL_relate _ _ _ _ _ 20 400 0 [(0, .ref (ad 0 0)), (1, .int x1), (2, .int x2), (3, .int x3), (4, .int x4), (5, .ref (ad 33 0))] []
  refine r_aload dL_relate_0 5 rfl ?_
  refine r_iconst (v := 0) dL_relate_2 (by decide) ?_
  refine r_aload_n dL_relate_3 rfl 0 rfl ?_
  refine r_iload_n dL_relate_4 rfl 1 rfl ?_
  refine r_iload_n dL_relate_5 rfl 2 rfl ?_
  refine r_iload_n dL_relate_6 rfl 3 rfl ?_
  refine r_iload dL_relate_7 4 rfl ?_
  have hx9 : ∀ (E9 : String) (G9 : GH), (E9 = "java/lang/IndexOutOfBoundsException" ∧ G9 = G) → WX mL_relate (d + 1) b0 (fun r G' => r = some (.int 1) ∧ G' = G) (fun _ _ => False) G9 0 0 9 [(0, .ref (ad 0 0)), (1, .int x1), (2, .int x2), (3, .int x3), (4, .int x4), (5, .ref (ad 33 0))] E9 := by
    intro E9 G9 hx
    obtain ⟨rfl, rfl⟩ := hx
    refine r_catch [] ⟨0, 14, 17, 23⟩ [⟨0, 14, 21, 25⟩] rfl (fun z hz => by cases hz) (by decide) (by decide) t_327 (by decide +kernel) (fun q => ?_)
    show WP mL_relate _ _ _ _ _ _ _ 17 [(0, .ref (ad 0 0)), (1, .int x1), (2, .int x2), (3, .int x3), (4, .int x4), (5, .ref (ad 33 0))] [.ref q]
    refine r_astore [(6, .ref q), (0, .ref (ad 0 0)), (1, .int x1), (2, .int x2), (3, .int x3), (4, .int x4), (5, .ref (ad 33 0))] dL_relate_17 (by decide) rfl ?_
    refine r_iconst (v := 1) dL_relate_19 (by decide) ?_
    refine r_ireti dL_relate_20 rfl ?_
    exact ⟨rfl, rfl⟩
  refine r_callV (st := [.int 0, .ref (ad 33 0)]) [.int x1, .int x2, .int x3, .int x4] 0 0 dL_relate_9 kX8_relate nX8_relate lRL_39 (hW.g 0 0 rfl) rfl hC rfl rfl (Nat.le_of_ble_eq_true rfl) (Nat.le_of_ble_eq_true rfl) (Nat.le_of_ble_eq_true rfl) hx9 ?_
  intro r G9 hr
  exact hr.elim
set_option maxRecDepth 100000 in
set_option maxHeartbeats 4000000 in
theorem w_relate_2 {d b0 : Nat} {G : GH} {A B : ST} {ad : AD} (hW : World A B ad G) {x1 x2 x3 x4 : Int32} (hC : CT mX8_relate d b0 G [.ref (ad 0 0), .int x1, .int x2, .int x3, .int x4] 20 400 (fun _ _ => False) (fun E G' => E = "java/lang/IllegalArgumentException" ∧ G' = G)) : CT mL_relate (d + 1) b0 G [.ref (ad 0 0), .int x1, .int x2, .int x3, .int x4, .ref (ad 33 0)] 20 400 (fun r G' => r = some (.int 2) ∧ G' = G) (fun _ _ => False) := by
  refine CT.introW (by decide +kernel) (List.cons_ne_nil _ _) (Nat.le_of_ble_eq_true rfl) ?_
  show WP mL_relate _ _ _ _ _ 20 400 0 [(0, .ref (ad 0 0)), (1, .int x1), (2, .int x2), (3, .int x3), (4, .int x4), (5, .ref (ad 33 0))] []
  refine r_aload dL_relate_0 5 rfl ?_
  refine r_iconst (v := 0) dL_relate_2 (by decide) ?_
  refine r_aload_n dL_relate_3 rfl 0 rfl ?_
  refine r_iload_n dL_relate_4 rfl 1 rfl ?_
  refine r_iload_n dL_relate_5 rfl 2 rfl ?_
  refine r_iload_n dL_relate_6 rfl 3 rfl ?_
  refine r_iload dL_relate_7 4 rfl ?_
  have hx9 : ∀ (E9 : String) (G9 : GH), (E9 = "java/lang/IllegalArgumentException" ∧ G9 = G) → WX mL_relate (d + 1) b0 (fun r G' => r = some (.int 2) ∧ G' = G) (fun _ _ => False) G9 0 0 9 [(0, .ref (ad 0 0)), (1, .int x1), (2, .int x2), (3, .int x3), (4, .int x4), (5, .ref (ad 33 0))] E9 := by
    intro E9 G9 hx
    obtain ⟨rfl, rfl⟩ := hx
    refine r_catch [⟨0, 14, 17, 23⟩] ⟨0, 14, 21, 25⟩ [] rfl (fun z hz => by
      simp only [List.mem_cons, List.not_mem_nil, or_false] at hz
      rw [hz]; exact ⟨by decide, "java/lang/IndexOutOfBoundsException", t_327, by decide +kernel⟩) (by decide) (by decide) t_328 (by decide +kernel) (fun q => ?_)
    show WP mL_relate _ _ _ _ _ _ _ 21 [(0, .ref (ad 0 0)), (1, .int x1), (2, .int x2), (3, .int x3), (4, .int x4), (5, .ref (ad 33 0))] [.ref q]
    refine r_astore [(6, .ref q), (0, .ref (ad 0 0)), (1, .int x1), (2, .int x2), (3, .int x3), (4, .int x4), (5, .ref (ad 33 0))] dL_relate_21 (by decide) rfl ?_
    refine r_iconst (v := 2) dL_relate_23 (by decide) ?_
    refine r_ireti dL_relate_24 rfl ?_
    exact ⟨rfl, rfl⟩
  refine r_callV (st := [.int 0, .ref (ad 33 0)]) [.int x1, .int x2, .int x3, .int x4] 0 0 dL_relate_9 kX8_relate nX8_relate lRL_39 (hW.g 0 0 rfl) rfl hC rfl rfl (Nat.le_of_ble_eq_true rfl) (Nat.le_of_ble_eq_true rfl) (Nat.le_of_ble_eq_true rfl) hx9 ?_
  intro r G9 hr
  exact hr.elim
set_option maxRecDepth 100000 in
set_option maxHeartbeats 4000000 in
theorem w_isLinked_0 {d b0 : Nat} {G : GH} {A B : ST} {ad : AD} (hW : World A B ad G) {st : ST} {b : Bool} {x1 : Int32} (hC : CT mX8_isLinked d b0 G [.ref (ad 0 0), .int x1] 20 400 (OPo (b2i b) st B ad A) (fun _ _ => False)) : CT mL_isLinked (d + 1) b0 G [.ref (ad 0 0), .int x1, .ref (ad 33 0)] 20 400 (LPo (b2i b) st B ad A) (fun _ _ => False) := by
  refine CT.introW (by decide +kernel) (List.cons_ne_nil _ _) (Nat.le_of_ble_eq_true rfl) ?_
  show WP mL_isLinked _ _ _ _ _ 20 400 0 [(0, .ref (ad 0 0)), (1, .int x1), (2, .ref (ad 33 0))] []
  refine r_aload_n dL_isLinked_0 rfl 2 rfl ?_
  refine r_iconst (v := 0) dL_isLinked_1 (by decide) ?_
  refine r_aload_n dL_isLinked_2 rfl 0 rfl ?_
  refine r_iload_n dL_isLinked_3 rfl 1 rfl ?_
  refine r_callV (st := [.int 0, .ref (ad 33 0)]) [.int x1] 0 0 dL_isLinked_4 kX8_isLinked nX8_isLinked lRL_43 (hW.g 0 0 rfl) rfl hC rfl rfl (Nat.le_of_ble_eq_true rfl) (Nat.le_of_ble_eq_true rfl) (Nat.le_of_ble_eq_true rfl) (fun _ _ h => h.elim) ?_
  intro r G9 hr
  obtain ⟨rfl, A9, ad9, hW9, hk9, hP9, hf9⟩ := hr
  have h33 : G9 (ad 33 0) = some (.inl (.long, 1, .inr (.inl (fun j => if j = 0 then (nI (B 40 0)).toInt64 else 0)))) := by rw [← hk9 33 0 rfl]; exact hW9.g 33 0 rfl
  show WP mL_isLinked _ _ _ _ _ _ _ 7 [(0, .ref (ad 0 0)), (1, .int x1), (2, .ref (ad 33 0))] [.int (b2i b), .int 0, .ref (ad 33 0)]
  refine r_if_eq 14 dL_isLinked_7 (by decide) (fun c_1 => ?_) (fun c_1 => ?_)
  · refine r_lconst (v := 0) dL_isLinked_14 (by decide) ?_
    have hb : b = false := b2i_0 c_1
    have hw9 := w_out hW9 (n32 (b2i b))
    rw [n32_s, show (b2i b).toInt64 = 0 by rw [hb]; decide, hk9 33 0 rfl] at hw9
    refine r_last dL_isLinked_15 h33 (show vp_in (nI 0) 1 from vp_in_nI (by decide) (by decide)) ?_
    refine r_heap (G' := va_up G9 (ad 33 0) (some (.inl (.long, 1, .inr (.inl (vp_updL (fun j => if j = 0 then (nI (B 40 0)).toInt64 else 0) 0 (0))))))) rfl ?_
    refine r_goto 22 dL_isLinked_16 (by decide) ?_
    refine r_iconst (v := 0) dL_isLinked_22 (by decide) ?_
    refine r_ireti dL_isLinked_23 rfl ?_
    exact ⟨rfl, A9, ad9, hw9, hk9, hP9, hf9⟩
  · refine r_lconst (v := 1) dL_isLinked_10 (by decide) ?_
    refine r_goto 15 dL_isLinked_11 (by decide) ?_
    have hb : b = true := b2i_n0 c_1
    have hw9 := w_out hW9 (n32 (b2i b))
    rw [n32_s, show (b2i b).toInt64 = 1 by rw [hb]; decide, hk9 33 0 rfl] at hw9
    refine r_last dL_isLinked_15 h33 (show vp_in (nI 0) 1 from vp_in_nI (by decide) (by decide)) ?_
    refine r_heap (G' := va_up G9 (ad 33 0) (some (.inl (.long, 1, .inr (.inl (vp_updL (fun j => if j = 0 then (nI (B 40 0)).toInt64 else 0) 0 (1))))))) rfl ?_
    refine r_goto 22 dL_isLinked_16 (by decide) ?_
    refine r_iconst (v := 0) dL_isLinked_22 (by decide) ?_
    refine r_ireti dL_isLinked_23 rfl ?_
    exact ⟨rfl, A9, ad9, hw9, hk9, hP9, hf9⟩
set_option maxRecDepth 100000 in
set_option maxHeartbeats 4000000 in
theorem w_isLinked_1 {d b0 : Nat} {G : GH} {A B : ST} {ad : AD} (hW : World A B ad G) {x1 : Int32} (hC : CT mX8_isLinked d b0 G [.ref (ad 0 0), .int x1] 20 400 (fun _ _ => False) (fun E G' => E = "java/lang/IndexOutOfBoundsException" ∧ G' = G)) : CT mL_isLinked (d + 1) b0 G [.ref (ad 0 0), .int x1, .ref (ad 33 0)] 20 400 (fun r G' => r = some (.int 1) ∧ G' = G) (fun _ _ => False) := by
  refine CT.introW (by decide +kernel) (List.cons_ne_nil _ _) (Nat.le_of_ble_eq_true rfl) ?_
  show WP mL_isLinked _ _ _ _ _ 20 400 0 [(0, .ref (ad 0 0)), (1, .int x1), (2, .ref (ad 33 0))] []
  refine r_aload_n dL_isLinked_0 rfl 2 rfl ?_
  refine r_iconst (v := 0) dL_isLinked_1 (by decide) ?_
  refine r_aload_n dL_isLinked_2 rfl 0 rfl ?_
  refine r_iload_n dL_isLinked_3 rfl 1 rfl ?_
  have hx9 : ∀ (E9 : String) (G9 : GH), (E9 = "java/lang/IndexOutOfBoundsException" ∧ G9 = G) → WX mL_isLinked (d + 1) b0 (fun r G' => r = some (.int 1) ∧ G' = G) (fun _ _ => False) G9 0 0 4 [(0, .ref (ad 0 0)), (1, .int x1), (2, .ref (ad 33 0))] E9 := by
    intro E9 G9 hx
    obtain ⟨rfl, rfl⟩ := hx
    refine r_catch [] ⟨0, 16, 19, 23⟩ [] rfl (fun z hz => by cases hz) (by decide) (by decide) t_327 (by decide +kernel) (fun q => ?_)
    show WP mL_isLinked _ _ _ _ _ _ _ 19 [(0, .ref (ad 0 0)), (1, .int x1), (2, .ref (ad 33 0))] [.ref q]
    refine r_astore_n [(3, .ref q), (0, .ref (ad 0 0)), (1, .int x1), (2, .ref (ad 33 0))] dL_isLinked_19 rfl (by decide) rfl ?_
    refine r_iconst (v := 1) dL_isLinked_20 (by decide) ?_
    refine r_ireti dL_isLinked_21 rfl ?_
    exact ⟨rfl, rfl⟩
  refine r_callV (st := [.int 0, .ref (ad 33 0)]) [.int x1] 0 0 dL_isLinked_4 kX8_isLinked nX8_isLinked lRL_43 (hW.g 0 0 rfl) rfl hC rfl rfl (Nat.le_of_ble_eq_true rfl) (Nat.le_of_ble_eq_true rfl) (Nat.le_of_ble_eq_true rfl) hx9 ?_
  intro r G9 hr
  exact hr.elim
set_option maxRecDepth 100000 in
set_option maxHeartbeats 4000000 in
theorem w_letter_0 {d b0 : Nat} {G : GH} {A B : ST} {ad : AD} (hW : World A B ad G) {st : ST} {v : Int32} (hC : CT mX8_letter d b0 G [.ref (ad 0 0)] 20 400 (OPo (v) st B ad A) (fun _ _ => False)) : CT mL_letter (d + 1) b0 G [.ref (ad 0 0), .ref (ad 33 0)] 20 400 (LPo (v) st B ad A) (fun _ _ => False) := by
  refine CT.introW (by decide +kernel) (List.cons_ne_nil _ _) (Nat.le_of_ble_eq_true rfl) ?_
  show WP mL_letter _ _ _ _ _ 20 400 0 [(0, .ref (ad 0 0)), (1, .ref (ad 33 0))] []
  refine r_aload_n dL_letter_0 rfl 1 rfl ?_
  refine r_iconst (v := 0) dL_letter_1 (by decide) ?_
  refine r_aload_n dL_letter_2 rfl 0 rfl ?_
  refine r_callV (st := [.int 0, .ref (ad 33 0)]) [] 0 0 dL_letter_3 kX8_letter nX8_letter lRL_47 (hW.g 0 0 rfl) rfl hC rfl rfl (Nat.le_of_ble_eq_true rfl) (Nat.le_of_ble_eq_true rfl) (Nat.le_of_ble_eq_true rfl) (fun _ _ h => h.elim) ?_
  intro r G9 hr
  obtain ⟨rfl, A9, ad9, hW9, hk9, hP9, hf9⟩ := hr
  have h33 : G9 (ad 33 0) = some (.inl (.long, 1, .inr (.inl (fun j => if j = 0 then (nI (B 40 0)).toInt64 else 0)))) := by rw [← hk9 33 0 rfl]; exact hW9.g 33 0 rfl
  show WP mL_letter _ _ _ _ _ _ _ 6 [(0, .ref (ad 0 0)), (1, .ref (ad 33 0))] [.int v, .int 0, .ref (ad 33 0)]
  refine r_i2l dL_letter_6 ?_
  have hw9 := w_out hW9 (n32 v)
  rw [n32_s, hk9 33 0 rfl] at hw9
  refine r_last dL_letter_7 h33 (show vp_in (nI 0) 1 from vp_in_nI (by decide) (by decide)) ?_
  refine r_heap (G' := va_up G9 (ad 33 0) (some (.inl (.long, 1, .inr (.inl (vp_updL (fun j => if j = 0 then (nI (B 40 0)).toInt64 else 0) 0 (v.toInt64))))))) rfl ?_
  refine r_goto 14 dL_letter_8 (by decide) ?_
  refine r_iconst (v := 0) dL_letter_14 (by decide) ?_
  refine r_ireti dL_letter_15 rfl ?_
  exact ⟨rfl, A9, ad9, hw9, hk9, hP9, hf9⟩
set_option maxRecDepth 100000 in
set_option maxHeartbeats 4000000 in
theorem w_letter_1 {d b0 : Nat} {G : GH} {A B : ST} {ad : AD} (hW : World A B ad G) (hC : CT mX8_letter d b0 G [.ref (ad 0 0)] 20 400 (fun _ _ => False) (fun E G' => E = "java/lang/IllegalStateException" ∧ G' = G)) : CT mL_letter (d + 1) b0 G [.ref (ad 0 0), .ref (ad 33 0)] 20 400 (fun r G' => r = some (.int 1) ∧ G' = G) (fun _ _ => False) := by
  refine CT.introW (by decide +kernel) (List.cons_ne_nil _ _) (Nat.le_of_ble_eq_true rfl) ?_
  show WP mL_letter _ _ _ _ _ 20 400 0 [(0, .ref (ad 0 0)), (1, .ref (ad 33 0))] []
  refine r_aload_n dL_letter_0 rfl 1 rfl ?_
  refine r_iconst (v := 0) dL_letter_1 (by decide) ?_
  refine r_aload_n dL_letter_2 rfl 0 rfl ?_
  have hx9 : ∀ (E9 : String) (G9 : GH), (E9 = "java/lang/IllegalStateException" ∧ G9 = G) → WX mL_letter (d + 1) b0 (fun r G' => r = some (.int 1) ∧ G' = G) (fun _ _ => False) G9 0 0 3 [(0, .ref (ad 0 0)), (1, .ref (ad 33 0))] E9 := by
    intro E9 G9 hx
    obtain ⟨rfl, rfl⟩ := hx
    refine r_catch [] ⟨0, 8, 11, 13⟩ [] rfl (fun z hz => by cases hz) (by decide) (by decide) t_215 (by decide +kernel) (fun q => ?_)
    show WP mL_letter _ _ _ _ _ _ _ 11 [(0, .ref (ad 0 0)), (1, .ref (ad 33 0))] [.ref q]
    refine r_astore_n [(2, .ref q), (0, .ref (ad 0 0)), (1, .ref (ad 33 0))] dL_letter_11 rfl (by decide) rfl ?_
    refine r_iconst (v := 1) dL_letter_12 (by decide) ?_
    refine r_ireti dL_letter_13 rfl ?_
    exact ⟨rfl, rfl⟩
  refine r_callV (st := [.int 0, .ref (ad 33 0)]) [] 0 0 dL_letter_3 kX8_letter nX8_letter lRL_47 (hW.g 0 0 rfl) rfl hC rfl rfl (Nat.le_of_ble_eq_true rfl) (Nat.le_of_ble_eq_true rfl) (Nat.le_of_ble_eq_true rfl) hx9 ?_
  intro r G9 hr
  exact hr.elim
set_option maxRecDepth 100000 in
set_option maxHeartbeats 4000000 in
theorem w_put_0 {d b0 : Nat} {G : GH} {A B : ST} {ad : AD} (hW : World A B ad G) {st : ST} {v : Int32} {x1 x2 : Int32} (hC : CT mX8_put d b0 G [.ref (ad 0 0), .int x1, .int x2] 20 400 (OPo (v) st B ad A) (fun _ _ => False)) : CT mL_put (d + 1) b0 G [.ref (ad 0 0), .int x1, .int x2, .ref (ad 33 0)] 20 400 (LPo (v) st B ad A) (fun _ _ => False) := by
  refine CT.introW (by decide +kernel) (List.cons_ne_nil _ _) (Nat.le_of_ble_eq_true rfl) ?_
  show WP mL_put _ _ _ _ _ 20 400 0 [(0, .ref (ad 0 0)), (1, .int x1), (2, .int x2), (3, .ref (ad 33 0))] []
  refine r_aload_n dL_put_0 rfl 3 rfl ?_
  refine r_iconst (v := 0) dL_put_1 (by decide) ?_
  refine r_aload_n dL_put_2 rfl 0 rfl ?_
  refine r_iload_n dL_put_3 rfl 1 rfl ?_
  refine r_iload_n dL_put_4 rfl 2 rfl ?_
  refine r_callV (st := [.int 0, .ref (ad 33 0)]) [.int x1, .int x2] 0 0 dL_put_5 kX8_put nX8_put lRL_50 (hW.g 0 0 rfl) rfl hC rfl rfl (Nat.le_of_ble_eq_true rfl) (Nat.le_of_ble_eq_true rfl) (Nat.le_of_ble_eq_true rfl) (fun _ _ h => h.elim) ?_
  intro r G9 hr
  obtain ⟨rfl, A9, ad9, hW9, hk9, hP9, hf9⟩ := hr
  have h33 : G9 (ad 33 0) = some (.inl (.long, 1, .inr (.inl (fun j => if j = 0 then (nI (B 40 0)).toInt64 else 0)))) := by rw [← hk9 33 0 rfl]; exact hW9.g 33 0 rfl
  show WP mL_put _ _ _ _ _ _ _ 8 [(0, .ref (ad 0 0)), (1, .int x1), (2, .int x2), (3, .ref (ad 33 0))] [.int v, .int 0, .ref (ad 33 0)]
  refine r_i2l dL_put_8 ?_
  have hw9 := w_out hW9 (n32 v)
  rw [n32_s, hk9 33 0 rfl] at hw9
  refine r_last dL_put_9 h33 (show vp_in (nI 0) 1 from vp_in_nI (by decide) (by decide)) ?_
  refine r_heap (G' := va_up G9 (ad 33 0) (some (.inl (.long, 1, .inr (.inl (vp_updL (fun j => if j = 0 then (nI (B 40 0)).toInt64 else 0) 0 (v.toInt64))))))) rfl ?_
  refine r_goto 21 dL_put_10 (by decide) ?_
  refine r_iconst (v := 0) dL_put_21 (by decide) ?_
  refine r_ireti dL_put_22 rfl ?_
  exact ⟨rfl, A9, ad9, hw9, hk9, hP9, hf9⟩
set_option maxRecDepth 100000 in
set_option maxHeartbeats 4000000 in
theorem w_put_1 {d b0 : Nat} {G : GH} {A B : ST} {ad : AD} (hW : World A B ad G) {x1 x2 : Int32} (hC : CT mX8_put d b0 G [.ref (ad 0 0), .int x1, .int x2] 20 400 (fun _ _ => False) (fun E G' => E = "java/lang/IndexOutOfBoundsException" ∧ G' = G)) : CT mL_put (d + 1) b0 G [.ref (ad 0 0), .int x1, .int x2, .ref (ad 33 0)] 20 400 (fun r G' => r = some (.int 1) ∧ G' = G) (fun _ _ => False) := by
  refine CT.introW (by decide +kernel) (List.cons_ne_nil _ _) (Nat.le_of_ble_eq_true rfl) ?_
  show WP mL_put _ _ _ _ _ 20 400 0 [(0, .ref (ad 0 0)), (1, .int x1), (2, .int x2), (3, .ref (ad 33 0))] []
  refine r_aload_n dL_put_0 rfl 3 rfl ?_
  refine r_iconst (v := 0) dL_put_1 (by decide) ?_
  refine r_aload_n dL_put_2 rfl 0 rfl ?_
  refine r_iload_n dL_put_3 rfl 1 rfl ?_
  refine r_iload_n dL_put_4 rfl 2 rfl ?_
  have hx9 : ∀ (E9 : String) (G9 : GH), (E9 = "java/lang/IndexOutOfBoundsException" ∧ G9 = G) → WX mL_put (d + 1) b0 (fun r G' => r = some (.int 1) ∧ G' = G) (fun _ _ => False) G9 0 0 5 [(0, .ref (ad 0 0)), (1, .int x1), (2, .int x2), (3, .ref (ad 33 0))] E9 := by
    intro E9 G9 hx
    obtain ⟨rfl, rfl⟩ := hx
    refine r_catch [] ⟨0, 10, 13, 23⟩ [⟨0, 10, 17, 13⟩] rfl (fun z hz => by cases hz) (by decide) (by decide) t_327 (by decide +kernel) (fun q => ?_)
    show WP mL_put _ _ _ _ _ _ _ 13 [(0, .ref (ad 0 0)), (1, .int x1), (2, .int x2), (3, .ref (ad 33 0))] [.ref q]
    refine r_astore [(4, .ref q), (0, .ref (ad 0 0)), (1, .int x1), (2, .int x2), (3, .ref (ad 33 0))] dL_put_13 (by decide) rfl ?_
    refine r_iconst (v := 1) dL_put_15 (by decide) ?_
    refine r_ireti dL_put_16 rfl ?_
    exact ⟨rfl, rfl⟩
  refine r_callV (st := [.int 0, .ref (ad 33 0)]) [.int x1, .int x2] 0 0 dL_put_5 kX8_put nX8_put lRL_50 (hW.g 0 0 rfl) rfl hC rfl rfl (Nat.le_of_ble_eq_true rfl) (Nat.le_of_ble_eq_true rfl) (Nat.le_of_ble_eq_true rfl) hx9 ?_
  intro r G9 hr
  exact hr.elim
set_option maxRecDepth 100000 in
set_option maxHeartbeats 4000000 in
theorem w_put_2 {d b0 : Nat} {G : GH} {A B : ST} {ad : AD} (hW : World A B ad G) {x1 x2 : Int32} (hC : CT mX8_put d b0 G [.ref (ad 0 0), .int x1, .int x2] 20 400 (fun _ _ => False) (fun E G' => E = "java/lang/IllegalStateException" ∧ G' = G)) : CT mL_put (d + 1) b0 G [.ref (ad 0 0), .int x1, .int x2, .ref (ad 33 0)] 20 400 (fun r G' => r = some (.int 2) ∧ G' = G) (fun _ _ => False) := by
  refine CT.introW (by decide +kernel) (List.cons_ne_nil _ _) (Nat.le_of_ble_eq_true rfl) ?_
  show WP mL_put _ _ _ _ _ 20 400 0 [(0, .ref (ad 0 0)), (1, .int x1), (2, .int x2), (3, .ref (ad 33 0))] []
  refine r_aload_n dL_put_0 rfl 3 rfl ?_
  refine r_iconst (v := 0) dL_put_1 (by decide) ?_
  refine r_aload_n dL_put_2 rfl 0 rfl ?_
  refine r_iload_n dL_put_3 rfl 1 rfl ?_
  refine r_iload_n dL_put_4 rfl 2 rfl ?_
  have hx9 : ∀ (E9 : String) (G9 : GH), (E9 = "java/lang/IllegalStateException" ∧ G9 = G) → WX mL_put (d + 1) b0 (fun r G' => r = some (.int 2) ∧ G' = G) (fun _ _ => False) G9 0 0 5 [(0, .ref (ad 0 0)), (1, .int x1), (2, .int x2), (3, .ref (ad 33 0))] E9 := by
    intro E9 G9 hx
    obtain ⟨rfl, rfl⟩ := hx
    refine r_catch [⟨0, 10, 13, 23⟩] ⟨0, 10, 17, 13⟩ [] rfl (fun z hz => by
      simp only [List.mem_cons, List.not_mem_nil, or_false] at hz
      rw [hz]; exact ⟨by decide, "java/lang/IndexOutOfBoundsException", t_327, by decide +kernel⟩) (by decide) (by decide) t_215 (by decide +kernel) (fun q => ?_)
    show WP mL_put _ _ _ _ _ _ _ 17 [(0, .ref (ad 0 0)), (1, .int x1), (2, .int x2), (3, .ref (ad 33 0))] [.ref q]
    refine r_astore [(4, .ref q), (0, .ref (ad 0 0)), (1, .int x1), (2, .int x2), (3, .ref (ad 33 0))] dL_put_17 (by decide) rfl ?_
    refine r_iconst (v := 2) dL_put_19 (by decide) ?_
    refine r_ireti dL_put_20 rfl ?_
    exact ⟨rfl, rfl⟩
  refine r_callV (st := [.int 0, .ref (ad 33 0)]) [.int x1, .int x2] 0 0 dL_put_5 kX8_put nX8_put lRL_50 (hW.g 0 0 rfl) rfl hC rfl rfl (Nat.le_of_ble_eq_true rfl) (Nat.le_of_ble_eq_true rfl) (Nat.le_of_ble_eq_true rfl) hx9 ?_
  intro r G9 hr
  exact hr.elim
set_option maxRecDepth 100000 in
set_option maxHeartbeats 4000000 in
theorem w_data_0 {d b0 : Nat} {G : GH} {A B : ST} {ad : AD} (hW : World A B ad G) {st : ST} {v : Int32} {x1 x2 : Int32} (hC : CT mX8_data d b0 G [.ref (ad 0 0), .int x1, .int x2] 20 400 (OPo (v) st B ad A) (fun _ _ => False)) : CT mL_data (d + 1) b0 G [.ref (ad 0 0), .int x1, .int x2, .ref (ad 33 0)] 20 400 (LPo (v) st B ad A) (fun _ _ => False) := by
  refine CT.introW (by decide +kernel) (List.cons_ne_nil _ _) (Nat.le_of_ble_eq_true rfl) ?_
  show WP mL_data _ _ _ _ _ 20 400 0 [(0, .ref (ad 0 0)), (1, .int x1), (2, .int x2), (3, .ref (ad 33 0))] []
  refine r_aload_n dL_data_0 rfl 3 rfl ?_
  refine r_iconst (v := 0) dL_data_1 (by decide) ?_
  refine r_aload_n dL_data_2 rfl 0 rfl ?_
  refine r_iload_n dL_data_3 rfl 1 rfl ?_
  refine r_iload_n dL_data_4 rfl 2 rfl ?_
  refine r_callV (st := [.int 0, .ref (ad 33 0)]) [.int x1, .int x2] 0 0 dL_data_5 kX8_data nX8_data lRL_53 (hW.g 0 0 rfl) rfl hC rfl rfl (Nat.le_of_ble_eq_true rfl) (Nat.le_of_ble_eq_true rfl) (Nat.le_of_ble_eq_true rfl) (fun _ _ h => h.elim) ?_
  intro r G9 hr
  obtain ⟨rfl, A9, ad9, hW9, hk9, hP9, hf9⟩ := hr
  have h33 : G9 (ad 33 0) = some (.inl (.long, 1, .inr (.inl (fun j => if j = 0 then (nI (B 40 0)).toInt64 else 0)))) := by rw [← hk9 33 0 rfl]; exact hW9.g 33 0 rfl
  show WP mL_data _ _ _ _ _ _ _ 8 [(0, .ref (ad 0 0)), (1, .int x1), (2, .int x2), (3, .ref (ad 33 0))] [.int v, .int 0, .ref (ad 33 0)]
  refine r_i2l dL_data_8 ?_
  have hw9 := w_out hW9 (n32 v)
  rw [n32_s, hk9 33 0 rfl] at hw9
  refine r_last dL_data_9 h33 (show vp_in (nI 0) 1 from vp_in_nI (by decide) (by decide)) ?_
  refine r_heap (G' := va_up G9 (ad 33 0) (some (.inl (.long, 1, .inr (.inl (vp_updL (fun j => if j = 0 then (nI (B 40 0)).toInt64 else 0) 0 (v.toInt64))))))) rfl ?_
  refine r_goto 25 dL_data_10 (by decide) ?_
  refine r_iconst (v := 0) dL_data_25 (by decide) ?_
  refine r_ireti dL_data_26 rfl ?_
  exact ⟨rfl, A9, ad9, hw9, hk9, hP9, hf9⟩
set_option maxRecDepth 100000 in
set_option maxHeartbeats 4000000 in
theorem w_data_1 {d b0 : Nat} {G : GH} {A B : ST} {ad : AD} (hW : World A B ad G) {x1 x2 : Int32} (hC : CT mX8_data d b0 G [.ref (ad 0 0), .int x1, .int x2] 20 400 (fun _ _ => False) (fun E G' => E = "java/lang/IndexOutOfBoundsException" ∧ G' = G)) : CT mL_data (d + 1) b0 G [.ref (ad 0 0), .int x1, .int x2, .ref (ad 33 0)] 20 400 (fun r G' => r = some (.int 1) ∧ G' = G) (fun _ _ => False) := by
  refine CT.introW (by decide +kernel) (List.cons_ne_nil _ _) (Nat.le_of_ble_eq_true rfl) ?_
  show WP mL_data _ _ _ _ _ 20 400 0 [(0, .ref (ad 0 0)), (1, .int x1), (2, .int x2), (3, .ref (ad 33 0))] []
  refine r_aload_n dL_data_0 rfl 3 rfl ?_
  refine r_iconst (v := 0) dL_data_1 (by decide) ?_
  refine r_aload_n dL_data_2 rfl 0 rfl ?_
  refine r_iload_n dL_data_3 rfl 1 rfl ?_
  refine r_iload_n dL_data_4 rfl 2 rfl ?_
  have hx9 : ∀ (E9 : String) (G9 : GH), (E9 = "java/lang/IndexOutOfBoundsException" ∧ G9 = G) → WX mL_data (d + 1) b0 (fun r G' => r = some (.int 1) ∧ G' = G) (fun _ _ => False) G9 0 0 5 [(0, .ref (ad 0 0)), (1, .int x1), (2, .int x2), (3, .ref (ad 33 0))] E9 := by
    intro E9 G9 hx
    obtain ⟨rfl, rfl⟩ := hx
    refine r_catch [] ⟨0, 10, 13, 23⟩ [⟨0, 10, 17, 25⟩, ⟨0, 10, 21, 13⟩] rfl (fun z hz => by cases hz) (by decide) (by decide) t_327 (by decide +kernel) (fun q => ?_)
    show WP mL_data _ _ _ _ _ _ _ 13 [(0, .ref (ad 0 0)), (1, .int x1), (2, .int x2), (3, .ref (ad 33 0))] [.ref q]
    refine r_astore [(4, .ref q), (0, .ref (ad 0 0)), (1, .int x1), (2, .int x2), (3, .ref (ad 33 0))] dL_data_13 (by decide) rfl ?_
    refine r_iconst (v := 1) dL_data_15 (by decide) ?_
    refine r_ireti dL_data_16 rfl ?_
    exact ⟨rfl, rfl⟩
  refine r_callV (st := [.int 0, .ref (ad 33 0)]) [.int x1, .int x2] 0 0 dL_data_5 kX8_data nX8_data lRL_53 (hW.g 0 0 rfl) rfl hC rfl rfl (Nat.le_of_ble_eq_true rfl) (Nat.le_of_ble_eq_true rfl) (Nat.le_of_ble_eq_true rfl) hx9 ?_
  intro r G9 hr
  exact hr.elim
set_option maxRecDepth 100000 in
set_option maxHeartbeats 4000000 in
theorem w_data_2 {d b0 : Nat} {G : GH} {A B : ST} {ad : AD} (hW : World A B ad G) {x1 x2 : Int32} (hC : CT mX8_data d b0 G [.ref (ad 0 0), .int x1, .int x2] 20 400 (fun _ _ => False) (fun E G' => E = "java/lang/IllegalArgumentException" ∧ G' = G)) : CT mL_data (d + 1) b0 G [.ref (ad 0 0), .int x1, .int x2, .ref (ad 33 0)] 20 400 (fun r G' => r = some (.int 2) ∧ G' = G) (fun _ _ => False) := by
  refine CT.introW (by decide +kernel) (List.cons_ne_nil _ _) (Nat.le_of_ble_eq_true rfl) ?_
  show WP mL_data _ _ _ _ _ 20 400 0 [(0, .ref (ad 0 0)), (1, .int x1), (2, .int x2), (3, .ref (ad 33 0))] []
  refine r_aload_n dL_data_0 rfl 3 rfl ?_
  refine r_iconst (v := 0) dL_data_1 (by decide) ?_
  refine r_aload_n dL_data_2 rfl 0 rfl ?_
  refine r_iload_n dL_data_3 rfl 1 rfl ?_
  refine r_iload_n dL_data_4 rfl 2 rfl ?_
  have hx9 : ∀ (E9 : String) (G9 : GH), (E9 = "java/lang/IllegalArgumentException" ∧ G9 = G) → WX mL_data (d + 1) b0 (fun r G' => r = some (.int 2) ∧ G' = G) (fun _ _ => False) G9 0 0 5 [(0, .ref (ad 0 0)), (1, .int x1), (2, .int x2), (3, .ref (ad 33 0))] E9 := by
    intro E9 G9 hx
    obtain ⟨rfl, rfl⟩ := hx
    refine r_catch [⟨0, 10, 13, 23⟩] ⟨0, 10, 17, 25⟩ [⟨0, 10, 21, 13⟩] rfl (fun z hz => by
      simp only [List.mem_cons, List.not_mem_nil, or_false] at hz
      rw [hz]; exact ⟨by decide, "java/lang/IndexOutOfBoundsException", t_327, by decide +kernel⟩) (by decide) (by decide) t_328 (by decide +kernel) (fun q => ?_)
    show WP mL_data _ _ _ _ _ _ _ 17 [(0, .ref (ad 0 0)), (1, .int x1), (2, .int x2), (3, .ref (ad 33 0))] [.ref q]
    refine r_astore [(4, .ref q), (0, .ref (ad 0 0)), (1, .int x1), (2, .int x2), (3, .ref (ad 33 0))] dL_data_17 (by decide) rfl ?_
    refine r_iconst (v := 2) dL_data_19 (by decide) ?_
    refine r_ireti dL_data_20 rfl ?_
    exact ⟨rfl, rfl⟩
  refine r_callV (st := [.int 0, .ref (ad 33 0)]) [.int x1, .int x2] 0 0 dL_data_5 kX8_data nX8_data lRL_53 (hW.g 0 0 rfl) rfl hC rfl rfl (Nat.le_of_ble_eq_true rfl) (Nat.le_of_ble_eq_true rfl) (Nat.le_of_ble_eq_true rfl) hx9 ?_
  intro r G9 hr
  exact hr.elim
set_option maxRecDepth 100000 in
set_option maxHeartbeats 4000000 in
theorem w_data_3 {d b0 : Nat} {G : GH} {A B : ST} {ad : AD} (hW : World A B ad G) {x1 x2 : Int32} (hC : CT mX8_data d b0 G [.ref (ad 0 0), .int x1, .int x2] 20 400 (fun _ _ => False) (fun E G' => E = "java/lang/IllegalStateException" ∧ G' = G)) : CT mL_data (d + 1) b0 G [.ref (ad 0 0), .int x1, .int x2, .ref (ad 33 0)] 20 400 (fun r G' => r = some (.int 3) ∧ G' = G) (fun _ _ => False) := by
  refine CT.introW (by decide +kernel) (List.cons_ne_nil _ _) (Nat.le_of_ble_eq_true rfl) ?_
  show WP mL_data _ _ _ _ _ 20 400 0 [(0, .ref (ad 0 0)), (1, .int x1), (2, .int x2), (3, .ref (ad 33 0))] []
  refine r_aload_n dL_data_0 rfl 3 rfl ?_
  refine r_iconst (v := 0) dL_data_1 (by decide) ?_
  refine r_aload_n dL_data_2 rfl 0 rfl ?_
  refine r_iload_n dL_data_3 rfl 1 rfl ?_
  refine r_iload_n dL_data_4 rfl 2 rfl ?_
  have hx9 : ∀ (E9 : String) (G9 : GH), (E9 = "java/lang/IllegalStateException" ∧ G9 = G) → WX mL_data (d + 1) b0 (fun r G' => r = some (.int 3) ∧ G' = G) (fun _ _ => False) G9 0 0 5 [(0, .ref (ad 0 0)), (1, .int x1), (2, .int x2), (3, .ref (ad 33 0))] E9 := by
    intro E9 G9 hx
    obtain ⟨rfl, rfl⟩ := hx
    refine r_catch [⟨0, 10, 13, 23⟩, ⟨0, 10, 17, 25⟩] ⟨0, 10, 21, 13⟩ [] rfl (fun z hz => by
      simp only [List.mem_cons, List.not_mem_nil, or_false] at hz
      rcases hz with hz | hz
      · rw [hz]; exact ⟨by decide, "java/lang/IndexOutOfBoundsException", t_327, by decide +kernel⟩
      · rw [hz]; exact ⟨by decide, "java/lang/IllegalArgumentException", t_328, by decide +kernel⟩) (by decide) (by decide) t_215 (by decide +kernel) (fun q => ?_)
    show WP mL_data _ _ _ _ _ _ _ 21 [(0, .ref (ad 0 0)), (1, .int x1), (2, .int x2), (3, .ref (ad 33 0))] [.ref q]
    refine r_astore [(4, .ref q), (0, .ref (ad 0 0)), (1, .int x1), (2, .int x2), (3, .ref (ad 33 0))] dL_data_21 (by decide) rfl ?_
    refine r_iconst (v := 3) dL_data_23 (by decide) ?_
    refine r_ireti dL_data_24 rfl ?_
    exact ⟨rfl, rfl⟩
  refine r_callV (st := [.int 0, .ref (ad 33 0)]) [.int x1, .int x2] 0 0 dL_data_5 kX8_data nX8_data lRL_53 (hW.g 0 0 rfl) rfl hC rfl rfl (Nat.le_of_ble_eq_true rfl) (Nat.le_of_ble_eq_true rfl) (Nat.le_of_ble_eq_true rfl) hx9 ?_
  intro r G9 hr
  exact hr.elim
set_option maxRecDepth 100000 in
set_option maxHeartbeats 4000000 in
theorem w_fill_0 {d b0 : Nat} {G : GH} {A B : ST} {ad : AD} (hW : World A B ad G) {st : ST} {v : Int32} {x1 x2 x3 : Int32} (hC : CT mX8_fill d b0 G [.ref (ad 0 0), .int x1, .int x2, .int x3] 20 400 (OPo (v) st B ad A) (fun _ _ => False)) : CT mL_fill (d + 1) b0 G [.ref (ad 0 0), .int x1, .int x2, .int x3, .ref (ad 33 0)] 20 400 (LPo (v) st B ad A) (fun _ _ => False) := by
  refine CT.introW (by decide +kernel) (List.cons_ne_nil _ _) (Nat.le_of_ble_eq_true rfl) ?_
  show WP mL_fill _ _ _ _ _ 20 400 0 [(0, .ref (ad 0 0)), (1, .int x1), (2, .int x2), (3, .int x3), (4, .ref (ad 33 0))] []
  refine r_aload dL_fill_0 4 rfl ?_
  refine r_iconst (v := 0) dL_fill_2 (by decide) ?_
  refine r_aload_n dL_fill_3 rfl 0 rfl ?_
  refine r_iload_n dL_fill_4 rfl 1 rfl ?_
  refine r_iload_n dL_fill_5 rfl 2 rfl ?_
  refine r_iload_n dL_fill_6 rfl 3 rfl ?_
  refine r_callV (st := [.int 0, .ref (ad 33 0)]) [.int x1, .int x2, .int x3] 0 0 dL_fill_7 kX8_fill nX8_fill lRL_56 (hW.g 0 0 rfl) rfl hC rfl rfl (Nat.le_of_ble_eq_true rfl) (Nat.le_of_ble_eq_true rfl) (Nat.le_of_ble_eq_true rfl) (fun _ _ h => h.elim) ?_
  intro r G9 hr
  obtain ⟨rfl, A9, ad9, hW9, hk9, hP9, hf9⟩ := hr
  have h33 : G9 (ad 33 0) = some (.inl (.long, 1, .inr (.inl (fun j => if j = 0 then (nI (B 40 0)).toInt64 else 0)))) := by rw [← hk9 33 0 rfl]; exact hW9.g 33 0 rfl
  show WP mL_fill _ _ _ _ _ _ _ 10 [(0, .ref (ad 0 0)), (1, .int x1), (2, .int x2), (3, .int x3), (4, .ref (ad 33 0))] [.int v, .int 0, .ref (ad 33 0)]
  refine r_i2l dL_fill_10 ?_
  have hw9 := w_out hW9 (n32 v)
  rw [n32_s, hk9 33 0 rfl] at hw9
  refine r_last dL_fill_11 h33 (show vp_in (nI 0) 1 from vp_in_nI (by decide) (by decide)) ?_
  refine r_heap (G' := va_up G9 (ad 33 0) (some (.inl (.long, 1, .inr (.inl (vp_updL (fun j => if j = 0 then (nI (B 40 0)).toInt64 else 0) 0 (v.toInt64))))))) rfl ?_
  refine r_goto 19 dL_fill_12 (by decide) ?_
  refine r_iconst (v := 0) dL_fill_19 (by decide) ?_
  refine r_ireti dL_fill_20 rfl ?_
  exact ⟨rfl, A9, ad9, hw9, hk9, hP9, hf9⟩
set_option maxRecDepth 100000 in
set_option maxHeartbeats 4000000 in
theorem w_fill_1 {d b0 : Nat} {G : GH} {A B : ST} {ad : AD} (hW : World A B ad G) {x1 x2 x3 : Int32} (hC : CT mX8_fill d b0 G [.ref (ad 0 0), .int x1, .int x2, .int x3] 20 400 (fun _ _ => False) (fun E G' => E = "java/lang/IndexOutOfBoundsException" ∧ G' = G)) : CT mL_fill (d + 1) b0 G [.ref (ad 0 0), .int x1, .int x2, .int x3, .ref (ad 33 0)] 20 400 (fun r G' => r = some (.int 1) ∧ G' = G) (fun _ _ => False) := by
  refine CT.introW (by decide +kernel) (List.cons_ne_nil _ _) (Nat.le_of_ble_eq_true rfl) ?_
  show WP mL_fill _ _ _ _ _ 20 400 0 [(0, .ref (ad 0 0)), (1, .int x1), (2, .int x2), (3, .int x3), (4, .ref (ad 33 0))] []
  refine r_aload dL_fill_0 4 rfl ?_
  refine r_iconst (v := 0) dL_fill_2 (by decide) ?_
  refine r_aload_n dL_fill_3 rfl 0 rfl ?_
  refine r_iload_n dL_fill_4 rfl 1 rfl ?_
  refine r_iload_n dL_fill_5 rfl 2 rfl ?_
  refine r_iload_n dL_fill_6 rfl 3 rfl ?_
  have hx9 : ∀ (E9 : String) (G9 : GH), (E9 = "java/lang/IndexOutOfBoundsException" ∧ G9 = G) → WX mL_fill (d + 1) b0 (fun r G' => r = some (.int 1) ∧ G' = G) (fun _ _ => False) G9 0 0 7 [(0, .ref (ad 0 0)), (1, .int x1), (2, .int x2), (3, .int x3), (4, .ref (ad 33 0))] E9 := by
    intro E9 G9 hx
    obtain ⟨rfl, rfl⟩ := hx
    refine r_catch [] ⟨0, 12, 15, 23⟩ [] rfl (fun z hz => by cases hz) (by decide) (by decide) t_327 (by decide +kernel) (fun q => ?_)
    show WP mL_fill _ _ _ _ _ _ _ 15 [(0, .ref (ad 0 0)), (1, .int x1), (2, .int x2), (3, .int x3), (4, .ref (ad 33 0))] [.ref q]
    refine r_astore [(5, .ref q), (0, .ref (ad 0 0)), (1, .int x1), (2, .int x2), (3, .int x3), (4, .ref (ad 33 0))] dL_fill_15 (by decide) rfl ?_
    refine r_iconst (v := 1) dL_fill_17 (by decide) ?_
    refine r_ireti dL_fill_18 rfl ?_
    exact ⟨rfl, rfl⟩
  refine r_callV (st := [.int 0, .ref (ad 33 0)]) [.int x1, .int x2, .int x3] 0 0 dL_fill_7 kX8_fill nX8_fill lRL_56 (hW.g 0 0 rfl) rfl hC rfl rfl (Nat.le_of_ble_eq_true rfl) (Nat.le_of_ble_eq_true rfl) (Nat.le_of_ble_eq_true rfl) hx9 ?_
  intro r G9 hr
  exact hr.elim
set_option maxRecDepth 100000 in
set_option maxHeartbeats 4000000 in
theorem w_price_0 {d b0 : Nat} {G : GH} {A B : ST} {ad : AD} (hW : World A B ad G) {st : ST} {v : Int32} {x1 x2 : Int32} (hC : CT mX8_price d b0 G [.ref (ad 0 0), .int x1, .int x2] 20 400 (OPo (v) st B ad A) (fun _ _ => False)) : CT mL_price (d + 1) b0 G [.ref (ad 0 0), .int x1, .int x2, .ref (ad 33 0)] 20 400 (LPo (v) st B ad A) (fun _ _ => False) := by
  refine CT.introW (by decide +kernel) (List.cons_ne_nil _ _) (Nat.le_of_ble_eq_true rfl) ?_
  show WP mL_price _ _ _ _ _ 20 400 0 [(0, .ref (ad 0 0)), (1, .int x1), (2, .int x2), (3, .ref (ad 33 0))] []
  refine r_aload_n dL_price_0 rfl 3 rfl ?_
  refine r_iconst (v := 0) dL_price_1 (by decide) ?_
  refine r_aload_n dL_price_2 rfl 0 rfl ?_
  refine r_iload_n dL_price_3 rfl 1 rfl ?_
  refine r_iload_n dL_price_4 rfl 2 rfl ?_
  refine r_callV (st := [.int 0, .ref (ad 33 0)]) [.int x1, .int x2] 0 0 dL_price_5 kX8_price nX8_price lRL_59 (hW.g 0 0 rfl) rfl hC rfl rfl (Nat.le_of_ble_eq_true rfl) (Nat.le_of_ble_eq_true rfl) (Nat.le_of_ble_eq_true rfl) (fun _ _ h => h.elim) ?_
  intro r G9 hr
  obtain ⟨rfl, A9, ad9, hW9, hk9, hP9, hf9⟩ := hr
  have h33 : G9 (ad 33 0) = some (.inl (.long, 1, .inr (.inl (fun j => if j = 0 then (nI (B 40 0)).toInt64 else 0)))) := by rw [← hk9 33 0 rfl]; exact hW9.g 33 0 rfl
  show WP mL_price _ _ _ _ _ _ _ 8 [(0, .ref (ad 0 0)), (1, .int x1), (2, .int x2), (3, .ref (ad 33 0))] [.int v, .int 0, .ref (ad 33 0)]
  refine r_i2l dL_price_8 ?_
  have hw9 := w_out hW9 (n32 v)
  rw [n32_s, hk9 33 0 rfl] at hw9
  refine r_last dL_price_9 h33 (show vp_in (nI 0) 1 from vp_in_nI (by decide) (by decide)) ?_
  refine r_heap (G' := va_up G9 (ad 33 0) (some (.inl (.long, 1, .inr (.inl (vp_updL (fun j => if j = 0 then (nI (B 40 0)).toInt64 else 0) 0 (v.toInt64))))))) rfl ?_
  refine r_goto 21 dL_price_10 (by decide) ?_
  refine r_iconst (v := 0) dL_price_21 (by decide) ?_
  refine r_ireti dL_price_22 rfl ?_
  exact ⟨rfl, A9, ad9, hw9, hk9, hP9, hf9⟩
set_option maxRecDepth 100000 in
set_option maxHeartbeats 4000000 in
theorem w_price_1 {d b0 : Nat} {G : GH} {A B : ST} {ad : AD} (hW : World A B ad G) {x1 x2 : Int32} (hC : CT mX8_price d b0 G [.ref (ad 0 0), .int x1, .int x2] 20 400 (fun _ _ => False) (fun E G' => E = "java/lang/IndexOutOfBoundsException" ∧ G' = G)) : CT mL_price (d + 1) b0 G [.ref (ad 0 0), .int x1, .int x2, .ref (ad 33 0)] 20 400 (fun r G' => r = some (.int 1) ∧ G' = G) (fun _ _ => False) := by
  refine CT.introW (by decide +kernel) (List.cons_ne_nil _ _) (Nat.le_of_ble_eq_true rfl) ?_
  show WP mL_price _ _ _ _ _ 20 400 0 [(0, .ref (ad 0 0)), (1, .int x1), (2, .int x2), (3, .ref (ad 33 0))] []
  refine r_aload_n dL_price_0 rfl 3 rfl ?_
  refine r_iconst (v := 0) dL_price_1 (by decide) ?_
  refine r_aload_n dL_price_2 rfl 0 rfl ?_
  refine r_iload_n dL_price_3 rfl 1 rfl ?_
  refine r_iload_n dL_price_4 rfl 2 rfl ?_
  have hx9 : ∀ (E9 : String) (G9 : GH), (E9 = "java/lang/IndexOutOfBoundsException" ∧ G9 = G) → WX mL_price (d + 1) b0 (fun r G' => r = some (.int 1) ∧ G' = G) (fun _ _ => False) G9 0 0 5 [(0, .ref (ad 0 0)), (1, .int x1), (2, .int x2), (3, .ref (ad 33 0))] E9 := by
    intro E9 G9 hx
    obtain ⟨rfl, rfl⟩ := hx
    refine r_catch [] ⟨0, 10, 13, 23⟩ [⟨0, 10, 17, 25⟩] rfl (fun z hz => by cases hz) (by decide) (by decide) t_327 (by decide +kernel) (fun q => ?_)
    show WP mL_price _ _ _ _ _ _ _ 13 [(0, .ref (ad 0 0)), (1, .int x1), (2, .int x2), (3, .ref (ad 33 0))] [.ref q]
    refine r_astore [(4, .ref q), (0, .ref (ad 0 0)), (1, .int x1), (2, .int x2), (3, .ref (ad 33 0))] dL_price_13 (by decide) rfl ?_
    refine r_iconst (v := 1) dL_price_15 (by decide) ?_
    refine r_ireti dL_price_16 rfl ?_
    exact ⟨rfl, rfl⟩
  refine r_callV (st := [.int 0, .ref (ad 33 0)]) [.int x1, .int x2] 0 0 dL_price_5 kX8_price nX8_price lRL_59 (hW.g 0 0 rfl) rfl hC rfl rfl (Nat.le_of_ble_eq_true rfl) (Nat.le_of_ble_eq_true rfl) (Nat.le_of_ble_eq_true rfl) hx9 ?_
  intro r G9 hr
  exact hr.elim
set_option maxRecDepth 100000 in
set_option maxHeartbeats 4000000 in
theorem w_price_2 {d b0 : Nat} {G : GH} {A B : ST} {ad : AD} (hW : World A B ad G) {x1 x2 : Int32} (hC : CT mX8_price d b0 G [.ref (ad 0 0), .int x1, .int x2] 20 400 (fun _ _ => False) (fun E G' => E = "java/lang/IllegalArgumentException" ∧ G' = G)) : CT mL_price (d + 1) b0 G [.ref (ad 0 0), .int x1, .int x2, .ref (ad 33 0)] 20 400 (fun r G' => r = some (.int 2) ∧ G' = G) (fun _ _ => False) := by
  refine CT.introW (by decide +kernel) (List.cons_ne_nil _ _) (Nat.le_of_ble_eq_true rfl) ?_
  show WP mL_price _ _ _ _ _ 20 400 0 [(0, .ref (ad 0 0)), (1, .int x1), (2, .int x2), (3, .ref (ad 33 0))] []
  refine r_aload_n dL_price_0 rfl 3 rfl ?_
  refine r_iconst (v := 0) dL_price_1 (by decide) ?_
  refine r_aload_n dL_price_2 rfl 0 rfl ?_
  refine r_iload_n dL_price_3 rfl 1 rfl ?_
  refine r_iload_n dL_price_4 rfl 2 rfl ?_
  have hx9 : ∀ (E9 : String) (G9 : GH), (E9 = "java/lang/IllegalArgumentException" ∧ G9 = G) → WX mL_price (d + 1) b0 (fun r G' => r = some (.int 2) ∧ G' = G) (fun _ _ => False) G9 0 0 5 [(0, .ref (ad 0 0)), (1, .int x1), (2, .int x2), (3, .ref (ad 33 0))] E9 := by
    intro E9 G9 hx
    obtain ⟨rfl, rfl⟩ := hx
    refine r_catch [⟨0, 10, 13, 23⟩] ⟨0, 10, 17, 25⟩ [] rfl (fun z hz => by
      simp only [List.mem_cons, List.not_mem_nil, or_false] at hz
      rw [hz]; exact ⟨by decide, "java/lang/IndexOutOfBoundsException", t_327, by decide +kernel⟩) (by decide) (by decide) t_328 (by decide +kernel) (fun q => ?_)
    show WP mL_price _ _ _ _ _ _ _ 17 [(0, .ref (ad 0 0)), (1, .int x1), (2, .int x2), (3, .ref (ad 33 0))] [.ref q]
    refine r_astore [(4, .ref q), (0, .ref (ad 0 0)), (1, .int x1), (2, .int x2), (3, .ref (ad 33 0))] dL_price_17 (by decide) rfl ?_
    refine r_iconst (v := 2) dL_price_19 (by decide) ?_
    refine r_ireti dL_price_20 rfl ?_
    exact ⟨rfl, rfl⟩
  refine r_callV (st := [.int 0, .ref (ad 33 0)]) [.int x1, .int x2] 0 0 dL_price_5 kX8_price nX8_price lRL_59 (hW.g 0 0 rfl) rfl hC rfl rfl (Nat.le_of_ble_eq_true rfl) (Nat.le_of_ble_eq_true rfl) (Nat.le_of_ble_eq_true rfl) hx9 ?_
  intro r G9 hr
  exact hr.elim
set_option maxRecDepth 100000 in
set_option maxHeartbeats 4000000 in
theorem w_faultOf_0 {d b0 : Nat} {G : GH} {A B : ST} {ad : AD} (hW : World A B ad G) {st : ST} {v : Int32} {x1 x2 x3 x4 : Int32} (hC : CT mX8_faultOf d b0 G [.ref (ad 0 0), .int x1, .int x2, .int x3, .int x4] 20 400 (OPo (v) st B ad A) (fun _ _ => False)) : CT mL_faultOf (d + 1) b0 G [.ref (ad 0 0), .int x1, .int x2, .int x3, .int x4, .ref (ad 33 0)] 20 400 (LPo (v) st B ad A) (fun _ _ => False) := by
  refine CT.introW (by decide +kernel) (List.cons_ne_nil _ _) (Nat.le_of_ble_eq_true rfl) ?_
  show WP mL_faultOf _ _ _ _ _ 20 400 0 [(0, .ref (ad 0 0)), (1, .int x1), (2, .int x2), (3, .int x3), (4, .int x4), (5, .ref (ad 33 0))] []
  refine r_aload dL_faultOf_0 5 rfl ?_
  refine r_iconst (v := 0) dL_faultOf_2 (by decide) ?_
  refine r_aload_n dL_faultOf_3 rfl 0 rfl ?_
  refine r_iload_n dL_faultOf_4 rfl 1 rfl ?_
  refine r_iload_n dL_faultOf_5 rfl 2 rfl ?_
  refine r_iload_n dL_faultOf_6 rfl 3 rfl ?_
  refine r_iload dL_faultOf_7 4 rfl ?_
  refine r_callV (st := [.int 0, .ref (ad 33 0)]) [.int x1, .int x2, .int x3, .int x4] 0 0 dL_faultOf_9 kX8_faultOf nX8_faultOf lRL_62 (hW.g 0 0 rfl) rfl hC rfl rfl (Nat.le_of_ble_eq_true rfl) (Nat.le_of_ble_eq_true rfl) (Nat.le_of_ble_eq_true rfl) (fun _ _ h => h.elim) ?_
  intro r G9 hr
  obtain ⟨rfl, A9, ad9, hW9, hk9, hP9, hf9⟩ := hr
  have h33 : G9 (ad 33 0) = some (.inl (.long, 1, .inr (.inl (fun j => if j = 0 then (nI (B 40 0)).toInt64 else 0)))) := by rw [← hk9 33 0 rfl]; exact hW9.g 33 0 rfl
  show WP mL_faultOf _ _ _ _ _ _ _ 12 [(0, .ref (ad 0 0)), (1, .int x1), (2, .int x2), (3, .int x3), (4, .int x4), (5, .ref (ad 33 0))] [.int v, .int 0, .ref (ad 33 0)]
  refine r_i2l dL_faultOf_12 ?_
  have hw9 := w_out hW9 (n32 v)
  rw [n32_s, hk9 33 0 rfl] at hw9
  refine r_last dL_faultOf_13 h33 (show vp_in (nI 0) 1 from vp_in_nI (by decide) (by decide)) ?_
  refine r_heap (G' := va_up G9 (ad 33 0) (some (.inl (.long, 1, .inr (.inl (vp_updL (fun j => if j = 0 then (nI (B 40 0)).toInt64 else 0) 0 (v.toInt64))))))) rfl ?_
  refine r_goto 25 dL_faultOf_14 (by decide) ?_
  refine r_iconst (v := 0) dL_faultOf_25 (by decide) ?_
  refine r_ireti dL_faultOf_26 rfl ?_
  exact ⟨rfl, A9, ad9, hw9, hk9, hP9, hf9⟩
set_option maxRecDepth 100000 in
set_option maxHeartbeats 4000000 in
theorem w_faultOf_1 {d b0 : Nat} {G : GH} {A B : ST} {ad : AD} (hW : World A B ad G) {x1 x2 x3 x4 : Int32} (hC : CT mX8_faultOf d b0 G [.ref (ad 0 0), .int x1, .int x2, .int x3, .int x4] 20 400 (fun _ _ => False) (fun E G' => E = "java/lang/IndexOutOfBoundsException" ∧ G' = G)) : CT mL_faultOf (d + 1) b0 G [.ref (ad 0 0), .int x1, .int x2, .int x3, .int x4, .ref (ad 33 0)] 20 400 (fun r G' => r = some (.int 1) ∧ G' = G) (fun _ _ => False) := by
  refine CT.introW (by decide +kernel) (List.cons_ne_nil _ _) (Nat.le_of_ble_eq_true rfl) ?_
  show WP mL_faultOf _ _ _ _ _ 20 400 0 [(0, .ref (ad 0 0)), (1, .int x1), (2, .int x2), (3, .int x3), (4, .int x4), (5, .ref (ad 33 0))] []
  refine r_aload dL_faultOf_0 5 rfl ?_
  refine r_iconst (v := 0) dL_faultOf_2 (by decide) ?_
  refine r_aload_n dL_faultOf_3 rfl 0 rfl ?_
  refine r_iload_n dL_faultOf_4 rfl 1 rfl ?_
  refine r_iload_n dL_faultOf_5 rfl 2 rfl ?_
  refine r_iload_n dL_faultOf_6 rfl 3 rfl ?_
  refine r_iload dL_faultOf_7 4 rfl ?_
  have hx9 : ∀ (E9 : String) (G9 : GH), (E9 = "java/lang/IndexOutOfBoundsException" ∧ G9 = G) → WX mL_faultOf (d + 1) b0 (fun r G' => r = some (.int 1) ∧ G' = G) (fun _ _ => False) G9 0 0 9 [(0, .ref (ad 0 0)), (1, .int x1), (2, .int x2), (3, .int x3), (4, .int x4), (5, .ref (ad 33 0))] E9 := by
    intro E9 G9 hx
    obtain ⟨rfl, rfl⟩ := hx
    refine r_catch [] ⟨0, 14, 17, 23⟩ [⟨0, 14, 21, 25⟩] rfl (fun z hz => by cases hz) (by decide) (by decide) t_327 (by decide +kernel) (fun q => ?_)
    show WP mL_faultOf _ _ _ _ _ _ _ 17 [(0, .ref (ad 0 0)), (1, .int x1), (2, .int x2), (3, .int x3), (4, .int x4), (5, .ref (ad 33 0))] [.ref q]
    refine r_astore [(6, .ref q), (0, .ref (ad 0 0)), (1, .int x1), (2, .int x2), (3, .int x3), (4, .int x4), (5, .ref (ad 33 0))] dL_faultOf_17 (by decide) rfl ?_
    refine r_iconst (v := 1) dL_faultOf_19 (by decide) ?_
    refine r_ireti dL_faultOf_20 rfl ?_
    exact ⟨rfl, rfl⟩
  refine r_callV (st := [.int 0, .ref (ad 33 0)]) [.int x1, .int x2, .int x3, .int x4] 0 0 dL_faultOf_9 kX8_faultOf nX8_faultOf lRL_62 (hW.g 0 0 rfl) rfl hC rfl rfl (Nat.le_of_ble_eq_true rfl) (Nat.le_of_ble_eq_true rfl) (Nat.le_of_ble_eq_true rfl) hx9 ?_
  intro r G9 hr
  exact hr.elim
set_option maxRecDepth 100000 in
set_option maxHeartbeats 4000000 in
theorem w_faultOf_2 {d b0 : Nat} {G : GH} {A B : ST} {ad : AD} (hW : World A B ad G) {x1 x2 x3 x4 : Int32} (hC : CT mX8_faultOf d b0 G [.ref (ad 0 0), .int x1, .int x2, .int x3, .int x4] 20 400 (fun _ _ => False) (fun E G' => E = "java/lang/IllegalArgumentException" ∧ G' = G)) : CT mL_faultOf (d + 1) b0 G [.ref (ad 0 0), .int x1, .int x2, .int x3, .int x4, .ref (ad 33 0)] 20 400 (fun r G' => r = some (.int 2) ∧ G' = G) (fun _ _ => False) := by
  refine CT.introW (by decide +kernel) (List.cons_ne_nil _ _) (Nat.le_of_ble_eq_true rfl) ?_
  show WP mL_faultOf _ _ _ _ _ 20 400 0 [(0, .ref (ad 0 0)), (1, .int x1), (2, .int x2), (3, .int x3), (4, .int x4), (5, .ref (ad 33 0))] []
  refine r_aload dL_faultOf_0 5 rfl ?_
  refine r_iconst (v := 0) dL_faultOf_2 (by decide) ?_
  refine r_aload_n dL_faultOf_3 rfl 0 rfl ?_
  refine r_iload_n dL_faultOf_4 rfl 1 rfl ?_
  refine r_iload_n dL_faultOf_5 rfl 2 rfl ?_
  refine r_iload_n dL_faultOf_6 rfl 3 rfl ?_
  refine r_iload dL_faultOf_7 4 rfl ?_
  have hx9 : ∀ (E9 : String) (G9 : GH), (E9 = "java/lang/IllegalArgumentException" ∧ G9 = G) → WX mL_faultOf (d + 1) b0 (fun r G' => r = some (.int 2) ∧ G' = G) (fun _ _ => False) G9 0 0 9 [(0, .ref (ad 0 0)), (1, .int x1), (2, .int x2), (3, .int x3), (4, .int x4), (5, .ref (ad 33 0))] E9 := by
    intro E9 G9 hx
    obtain ⟨rfl, rfl⟩ := hx
    refine r_catch [⟨0, 14, 17, 23⟩] ⟨0, 14, 21, 25⟩ [] rfl (fun z hz => by
      simp only [List.mem_cons, List.not_mem_nil, or_false] at hz
      rw [hz]; exact ⟨by decide, "java/lang/IndexOutOfBoundsException", t_327, by decide +kernel⟩) (by decide) (by decide) t_328 (by decide +kernel) (fun q => ?_)
    show WP mL_faultOf _ _ _ _ _ _ _ 21 [(0, .ref (ad 0 0)), (1, .int x1), (2, .int x2), (3, .int x3), (4, .int x4), (5, .ref (ad 33 0))] [.ref q]
    refine r_astore [(6, .ref q), (0, .ref (ad 0 0)), (1, .int x1), (2, .int x2), (3, .int x3), (4, .int x4), (5, .ref (ad 33 0))] dL_faultOf_21 (by decide) rfl ?_
    refine r_iconst (v := 2) dL_faultOf_23 (by decide) ?_
    refine r_ireti dL_faultOf_24 rfl ?_
    exact ⟨rfl, rfl⟩
  refine r_callV (st := [.int 0, .ref (ad 33 0)]) [.int x1, .int x2, .int x3, .int x4] 0 0 dL_faultOf_9 kX8_faultOf nX8_faultOf lRL_62 (hW.g 0 0 rfl) rfl hC rfl rfl (Nat.le_of_ble_eq_true rfl) (Nat.le_of_ble_eq_true rfl) (Nat.le_of_ble_eq_true rfl) hx9 ?_
  intro r G9 hr
  exact hr.elim
set_option maxRecDepth 100000 in
set_option maxHeartbeats 4000000 in
theorem w_sign_0 {d b0 : Nat} {G : GH} {A B : ST} {ad : AD} (hW : World A B ad G) {st : ST} {v : Int32} {x1 x2 x3 x4 : Int32} (hC : CT mX8_sign d b0 G [.ref (ad 0 0), .int x1, .int x2, .int x3, .int x4] 20 400 (OPo (v) st B ad A) (fun _ _ => False)) : CT mL_sign (d + 1) b0 G [.ref (ad 0 0), .int x1, .int x2, .int x3, .int x4, .ref (ad 33 0)] 20 400 (LPo (v) st B ad A) (fun _ _ => False) := by
  refine CT.introW (by decide +kernel) (List.cons_ne_nil _ _) (Nat.le_of_ble_eq_true rfl) ?_
  show WP mL_sign _ _ _ _ _ 20 400 0 [(0, .ref (ad 0 0)), (1, .int x1), (2, .int x2), (3, .int x3), (4, .int x4), (5, .ref (ad 33 0))] []
  refine r_aload dL_sign_0 5 rfl ?_
  refine r_iconst (v := 0) dL_sign_2 (by decide) ?_
  refine r_aload_n dL_sign_3 rfl 0 rfl ?_
  refine r_iload_n dL_sign_4 rfl 1 rfl ?_
  refine r_iload_n dL_sign_5 rfl 2 rfl ?_
  refine r_iload_n dL_sign_6 rfl 3 rfl ?_
  refine r_iload dL_sign_7 4 rfl ?_
  refine r_callV (st := [.int 0, .ref (ad 33 0)]) [.int x1, .int x2, .int x3, .int x4] 0 0 dL_sign_9 kX8_sign nX8_sign lRL_65 (hW.g 0 0 rfl) rfl hC rfl rfl (Nat.le_of_ble_eq_true rfl) (Nat.le_of_ble_eq_true rfl) (Nat.le_of_ble_eq_true rfl) (fun _ _ h => h.elim) ?_
  intro r G9 hr
  obtain ⟨rfl, A9, ad9, hW9, hk9, hP9, hf9⟩ := hr
  have h33 : G9 (ad 33 0) = some (.inl (.long, 1, .inr (.inl (fun j => if j = 0 then (nI (B 40 0)).toInt64 else 0)))) := by rw [← hk9 33 0 rfl]; exact hW9.g 33 0 rfl
  show WP mL_sign _ _ _ _ _ _ _ 12 [(0, .ref (ad 0 0)), (1, .int x1), (2, .int x2), (3, .int x3), (4, .int x4), (5, .ref (ad 33 0))] [.int v, .int 0, .ref (ad 33 0)]
  refine r_i2l dL_sign_12 ?_
  have hw9 := w_out hW9 (n32 v)
  rw [n32_s, hk9 33 0 rfl] at hw9
  refine r_last dL_sign_13 h33 (show vp_in (nI 0) 1 from vp_in_nI (by decide) (by decide)) ?_
  refine r_heap (G' := va_up G9 (ad 33 0) (some (.inl (.long, 1, .inr (.inl (vp_updL (fun j => if j = 0 then (nI (B 40 0)).toInt64 else 0) 0 (v.toInt64))))))) rfl ?_
  refine r_goto 21 dL_sign_14 (by decide) ?_
  refine r_iconst (v := 0) dL_sign_21 (by decide) ?_
  refine r_ireti dL_sign_22 rfl ?_
  exact ⟨rfl, A9, ad9, hw9, hk9, hP9, hf9⟩
set_option maxRecDepth 100000 in
set_option maxHeartbeats 4000000 in
theorem w_sign_1 {d b0 : Nat} {G : GH} {A B : ST} {ad : AD} (hW : World A B ad G) {x1 x2 x3 x4 : Int32} (hC : CT mX8_sign d b0 G [.ref (ad 0 0), .int x1, .int x2, .int x3, .int x4] 20 400 (fun _ _ => False) (fun E G' => E = "java/lang/IndexOutOfBoundsException" ∧ G' = G)) : CT mL_sign (d + 1) b0 G [.ref (ad 0 0), .int x1, .int x2, .int x3, .int x4, .ref (ad 33 0)] 20 400 (fun r G' => r = some (.int 1) ∧ G' = G) (fun _ _ => False) := by
  refine CT.introW (by decide +kernel) (List.cons_ne_nil _ _) (Nat.le_of_ble_eq_true rfl) ?_
  show WP mL_sign _ _ _ _ _ 20 400 0 [(0, .ref (ad 0 0)), (1, .int x1), (2, .int x2), (3, .int x3), (4, .int x4), (5, .ref (ad 33 0))] []
  refine r_aload dL_sign_0 5 rfl ?_
  refine r_iconst (v := 0) dL_sign_2 (by decide) ?_
  refine r_aload_n dL_sign_3 rfl 0 rfl ?_
  refine r_iload_n dL_sign_4 rfl 1 rfl ?_
  refine r_iload_n dL_sign_5 rfl 2 rfl ?_
  refine r_iload_n dL_sign_6 rfl 3 rfl ?_
  refine r_iload dL_sign_7 4 rfl ?_
  have hx9 : ∀ (E9 : String) (G9 : GH), (E9 = "java/lang/IndexOutOfBoundsException" ∧ G9 = G) → WX mL_sign (d + 1) b0 (fun r G' => r = some (.int 1) ∧ G' = G) (fun _ _ => False) G9 0 0 9 [(0, .ref (ad 0 0)), (1, .int x1), (2, .int x2), (3, .int x3), (4, .int x4), (5, .ref (ad 33 0))] E9 := by
    intro E9 G9 hx
    obtain ⟨rfl, rfl⟩ := hx
    refine r_catch [] ⟨0, 14, 17, 23⟩ [] rfl (fun z hz => by cases hz) (by decide) (by decide) t_327 (by decide +kernel) (fun q => ?_)
    show WP mL_sign _ _ _ _ _ _ _ 17 [(0, .ref (ad 0 0)), (1, .int x1), (2, .int x2), (3, .int x3), (4, .int x4), (5, .ref (ad 33 0))] [.ref q]
    refine r_astore [(6, .ref q), (0, .ref (ad 0 0)), (1, .int x1), (2, .int x2), (3, .int x3), (4, .int x4), (5, .ref (ad 33 0))] dL_sign_17 (by decide) rfl ?_
    refine r_iconst (v := 1) dL_sign_19 (by decide) ?_
    refine r_ireti dL_sign_20 rfl ?_
    exact ⟨rfl, rfl⟩
  refine r_callV (st := [.int 0, .ref (ad 33 0)]) [.int x1, .int x2, .int x3, .int x4] 0 0 dL_sign_9 kX8_sign nX8_sign lRL_65 (hW.g 0 0 rfl) rfl hC rfl rfl (Nat.le_of_ble_eq_true rfl) (Nat.le_of_ble_eq_true rfl) (Nat.le_of_ble_eq_true rfl) hx9 ?_
  intro r G9 hr
  exact hr.elim
set_option maxRecDepth 100000 in
set_option maxHeartbeats 4000000 in
theorem w_signAnew_0 {d b0 : Nat} {G : GH} {A B : ST} {ad : AD} (hW : World A B ad G) {st : ST} {v : Int32} {x1 x2 x3 x4 : Int32} (hC : CT mX8_signAnew d b0 G [.ref (ad 0 0), .int x1, .int x2, .int x3, .int x4] 20 400 (OPo (v) st B ad A) (fun _ _ => False)) : CT mL_signAnew (d + 1) b0 G [.ref (ad 0 0), .int x1, .int x2, .int x3, .int x4, .ref (ad 33 0)] 20 400 (LPo (v) st B ad A) (fun _ _ => False) := by
  refine CT.introW (by decide +kernel) (List.cons_ne_nil _ _) (Nat.le_of_ble_eq_true rfl) ?_
  show WP mL_signAnew _ _ _ _ _ 20 400 0 [(0, .ref (ad 0 0)), (1, .int x1), (2, .int x2), (3, .int x3), (4, .int x4), (5, .ref (ad 33 0))] []
  refine r_aload dL_signAnew_0 5 rfl ?_
  refine r_iconst (v := 0) dL_signAnew_2 (by decide) ?_
  refine r_aload_n dL_signAnew_3 rfl 0 rfl ?_
  refine r_iload_n dL_signAnew_4 rfl 1 rfl ?_
  refine r_iload_n dL_signAnew_5 rfl 2 rfl ?_
  refine r_iload_n dL_signAnew_6 rfl 3 rfl ?_
  refine r_iload dL_signAnew_7 4 rfl ?_
  refine r_callV (st := [.int 0, .ref (ad 33 0)]) [.int x1, .int x2, .int x3, .int x4] 0 0 dL_signAnew_9 kX8_signAnew nX8_signAnew lRL_69 (hW.g 0 0 rfl) rfl hC rfl rfl (Nat.le_of_ble_eq_true rfl) (Nat.le_of_ble_eq_true rfl) (Nat.le_of_ble_eq_true rfl) (fun _ _ h => h.elim) ?_
  intro r G9 hr
  obtain ⟨rfl, A9, ad9, hW9, hk9, hP9, hf9⟩ := hr
  have h33 : G9 (ad 33 0) = some (.inl (.long, 1, .inr (.inl (fun j => if j = 0 then (nI (B 40 0)).toInt64 else 0)))) := by rw [← hk9 33 0 rfl]; exact hW9.g 33 0 rfl
  show WP mL_signAnew _ _ _ _ _ _ _ 12 [(0, .ref (ad 0 0)), (1, .int x1), (2, .int x2), (3, .int x3), (4, .int x4), (5, .ref (ad 33 0))] [.int v, .int 0, .ref (ad 33 0)]
  refine r_i2l dL_signAnew_12 ?_
  have hw9 := w_out hW9 (n32 v)
  rw [n32_s, hk9 33 0 rfl] at hw9
  refine r_last dL_signAnew_13 h33 (show vp_in (nI 0) 1 from vp_in_nI (by decide) (by decide)) ?_
  refine r_heap (G' := va_up G9 (ad 33 0) (some (.inl (.long, 1, .inr (.inl (vp_updL (fun j => if j = 0 then (nI (B 40 0)).toInt64 else 0) 0 (v.toInt64))))))) rfl ?_
  refine r_goto 21 dL_signAnew_14 (by decide) ?_
  refine r_iconst (v := 0) dL_signAnew_21 (by decide) ?_
  refine r_ireti dL_signAnew_22 rfl ?_
  exact ⟨rfl, A9, ad9, hw9, hk9, hP9, hf9⟩
set_option maxRecDepth 100000 in
set_option maxHeartbeats 4000000 in
theorem w_signAnew_1 {d b0 : Nat} {G : GH} {A B : ST} {ad : AD} (hW : World A B ad G) {x1 x2 x3 x4 : Int32} (hC : CT mX8_signAnew d b0 G [.ref (ad 0 0), .int x1, .int x2, .int x3, .int x4] 20 400 (fun _ _ => False) (fun E G' => E = "java/lang/IndexOutOfBoundsException" ∧ G' = G)) : CT mL_signAnew (d + 1) b0 G [.ref (ad 0 0), .int x1, .int x2, .int x3, .int x4, .ref (ad 33 0)] 20 400 (fun r G' => r = some (.int 1) ∧ G' = G) (fun _ _ => False) := by
  refine CT.introW (by decide +kernel) (List.cons_ne_nil _ _) (Nat.le_of_ble_eq_true rfl) ?_
  show WP mL_signAnew _ _ _ _ _ 20 400 0 [(0, .ref (ad 0 0)), (1, .int x1), (2, .int x2), (3, .int x3), (4, .int x4), (5, .ref (ad 33 0))] []
  refine r_aload dL_signAnew_0 5 rfl ?_
  refine r_iconst (v := 0) dL_signAnew_2 (by decide) ?_
  refine r_aload_n dL_signAnew_3 rfl 0 rfl ?_
  refine r_iload_n dL_signAnew_4 rfl 1 rfl ?_
  refine r_iload_n dL_signAnew_5 rfl 2 rfl ?_
  refine r_iload_n dL_signAnew_6 rfl 3 rfl ?_
  refine r_iload dL_signAnew_7 4 rfl ?_
  have hx9 : ∀ (E9 : String) (G9 : GH), (E9 = "java/lang/IndexOutOfBoundsException" ∧ G9 = G) → WX mL_signAnew (d + 1) b0 (fun r G' => r = some (.int 1) ∧ G' = G) (fun _ _ => False) G9 0 0 9 [(0, .ref (ad 0 0)), (1, .int x1), (2, .int x2), (3, .int x3), (4, .int x4), (5, .ref (ad 33 0))] E9 := by
    intro E9 G9 hx
    obtain ⟨rfl, rfl⟩ := hx
    refine r_catch [] ⟨0, 14, 17, 23⟩ [] rfl (fun z hz => by cases hz) (by decide) (by decide) t_327 (by decide +kernel) (fun q => ?_)
    show WP mL_signAnew _ _ _ _ _ _ _ 17 [(0, .ref (ad 0 0)), (1, .int x1), (2, .int x2), (3, .int x3), (4, .int x4), (5, .ref (ad 33 0))] [.ref q]
    refine r_astore [(6, .ref q), (0, .ref (ad 0 0)), (1, .int x1), (2, .int x2), (3, .int x3), (4, .int x4), (5, .ref (ad 33 0))] dL_signAnew_17 (by decide) rfl ?_
    refine r_iconst (v := 1) dL_signAnew_19 (by decide) ?_
    refine r_ireti dL_signAnew_20 rfl ?_
    exact ⟨rfl, rfl⟩
  refine r_callV (st := [.int 0, .ref (ad 33 0)]) [.int x1, .int x2, .int x3, .int x4] 0 0 dL_signAnew_9 kX8_signAnew nX8_signAnew lRL_69 (hW.g 0 0 rfl) rfl hC rfl rfl (Nat.le_of_ble_eq_true rfl) (Nat.le_of_ble_eq_true rfl) (Nat.le_of_ble_eq_true rfl) hx9 ?_
  intro r G9 hr
  exact hr.elim
set_option maxRecDepth 100000 in
set_option maxHeartbeats 4000000 in
theorem w_costs_0 {d b0 : Nat} {G : GH} {A B : ST} {ad : AD} (hW : World A B ad G) {st : ST} {v : Int32} {x1 x2 x3 : Int32} (hC : CT mX8_costs d b0 G [.ref (ad 0 0), .int x1, .int x2, .int x3] 20 400 (OPo (v) st B ad A) (fun _ _ => False)) : CT mL_costs (d + 1) b0 G [.ref (ad 0 0), .int x1, .int x2, .int x3, .ref (ad 33 0)] 20 400 (LPo (v) st B ad A) (fun _ _ => False) := by
  refine CT.introW (by decide +kernel) (List.cons_ne_nil _ _) (Nat.le_of_ble_eq_true rfl) ?_
  show WP mL_costs _ _ _ _ _ 20 400 0 [(0, .ref (ad 0 0)), (1, .int x1), (2, .int x2), (3, .int x3), (4, .ref (ad 33 0))] []
  refine r_aload dL_costs_0 4 rfl ?_
  refine r_iconst (v := 0) dL_costs_2 (by decide) ?_
  refine r_aload_n dL_costs_3 rfl 0 rfl ?_
  refine r_iload_n dL_costs_4 rfl 1 rfl ?_
  refine r_iload_n dL_costs_5 rfl 2 rfl ?_
  refine r_iload_n dL_costs_6 rfl 3 rfl ?_
  refine r_callV (st := [.int 0, .ref (ad 33 0)]) [.int x1, .int x2, .int x3] 0 0 dL_costs_7 kX8_costs nX8_costs lRL_72 (hW.g 0 0 rfl) rfl hC rfl rfl (Nat.le_of_ble_eq_true rfl) (Nat.le_of_ble_eq_true rfl) (Nat.le_of_ble_eq_true rfl) (fun _ _ h => h.elim) ?_
  intro r G9 hr
  obtain ⟨rfl, A9, ad9, hW9, hk9, hP9, hf9⟩ := hr
  have h33 : G9 (ad 33 0) = some (.inl (.long, 1, .inr (.inl (fun j => if j = 0 then (nI (B 40 0)).toInt64 else 0)))) := by rw [← hk9 33 0 rfl]; exact hW9.g 33 0 rfl
  show WP mL_costs _ _ _ _ _ _ _ 10 [(0, .ref (ad 0 0)), (1, .int x1), (2, .int x2), (3, .int x3), (4, .ref (ad 33 0))] [.int v, .int 0, .ref (ad 33 0)]
  refine r_i2l dL_costs_10 ?_
  have hw9 := w_out hW9 (n32 v)
  rw [n32_s, hk9 33 0 rfl] at hw9
  refine r_last dL_costs_11 h33 (show vp_in (nI 0) 1 from vp_in_nI (by decide) (by decide)) ?_
  refine r_heap (G' := va_up G9 (ad 33 0) (some (.inl (.long, 1, .inr (.inl (vp_updL (fun j => if j = 0 then (nI (B 40 0)).toInt64 else 0) 0 (v.toInt64))))))) rfl ?_
  refine r_goto 19 dL_costs_12 (by decide) ?_
  refine r_iconst (v := 0) dL_costs_19 (by decide) ?_
  refine r_ireti dL_costs_20 rfl ?_
  exact ⟨rfl, A9, ad9, hw9, hk9, hP9, hf9⟩
set_option maxRecDepth 100000 in
set_option maxHeartbeats 4000000 in
theorem w_costs_1 {d b0 : Nat} {G : GH} {A B : ST} {ad : AD} (hW : World A B ad G) {x1 x2 x3 : Int32} (hC : CT mX8_costs d b0 G [.ref (ad 0 0), .int x1, .int x2, .int x3] 20 400 (fun _ _ => False) (fun E G' => E = "java/lang/IndexOutOfBoundsException" ∧ G' = G)) : CT mL_costs (d + 1) b0 G [.ref (ad 0 0), .int x1, .int x2, .int x3, .ref (ad 33 0)] 20 400 (fun r G' => r = some (.int 1) ∧ G' = G) (fun _ _ => False) := by
  refine CT.introW (by decide +kernel) (List.cons_ne_nil _ _) (Nat.le_of_ble_eq_true rfl) ?_
  show WP mL_costs _ _ _ _ _ 20 400 0 [(0, .ref (ad 0 0)), (1, .int x1), (2, .int x2), (3, .int x3), (4, .ref (ad 33 0))] []
  refine r_aload dL_costs_0 4 rfl ?_
  refine r_iconst (v := 0) dL_costs_2 (by decide) ?_
  refine r_aload_n dL_costs_3 rfl 0 rfl ?_
  refine r_iload_n dL_costs_4 rfl 1 rfl ?_
  refine r_iload_n dL_costs_5 rfl 2 rfl ?_
  refine r_iload_n dL_costs_6 rfl 3 rfl ?_
  have hx9 : ∀ (E9 : String) (G9 : GH), (E9 = "java/lang/IndexOutOfBoundsException" ∧ G9 = G) → WX mL_costs (d + 1) b0 (fun r G' => r = some (.int 1) ∧ G' = G) (fun _ _ => False) G9 0 0 7 [(0, .ref (ad 0 0)), (1, .int x1), (2, .int x2), (3, .int x3), (4, .ref (ad 33 0))] E9 := by
    intro E9 G9 hx
    obtain ⟨rfl, rfl⟩ := hx
    refine r_catch [] ⟨0, 12, 15, 23⟩ [] rfl (fun z hz => by cases hz) (by decide) (by decide) t_327 (by decide +kernel) (fun q => ?_)
    show WP mL_costs _ _ _ _ _ _ _ 15 [(0, .ref (ad 0 0)), (1, .int x1), (2, .int x2), (3, .int x3), (4, .ref (ad 33 0))] [.ref q]
    refine r_astore [(5, .ref q), (0, .ref (ad 0 0)), (1, .int x1), (2, .int x2), (3, .int x3), (4, .ref (ad 33 0))] dL_costs_15 (by decide) rfl ?_
    refine r_iconst (v := 1) dL_costs_17 (by decide) ?_
    refine r_ireti dL_costs_18 rfl ?_
    exact ⟨rfl, rfl⟩
  refine r_callV (st := [.int 0, .ref (ad 33 0)]) [.int x1, .int x2, .int x3] 0 0 dL_costs_7 kX8_costs nX8_costs lRL_72 (hW.g 0 0 rfl) rfl hC rfl rfl (Nat.le_of_ble_eq_true rfl) (Nat.le_of_ble_eq_true rfl) (Nat.le_of_ble_eq_true rfl) hx9 ?_
  intro r G9 hr
  exact hr.elim
set_option maxRecDepth 100000 in
set_option maxHeartbeats 4000000 in
theorem w_sample_0 {d b0 : Nat} {G : GH} {A B : ST} {ad : AD} (hW : World A B ad G) {st : ST} {v : Int32} {x1 x2 : Int32} (hC : CT mX8_sample d b0 G [.ref (ad 0 0), .int x1, .int x2] 20 400 (OPo (v) st B ad A) (fun _ _ => False)) : CT mL_sample (d + 1) b0 G [.ref (ad 0 0), .int x1, .int x2, .ref (ad 33 0)] 20 400 (LPo (v) st B ad A) (fun _ _ => False) := by
  refine CT.introW (by decide +kernel) (List.cons_ne_nil _ _) (Nat.le_of_ble_eq_true rfl) ?_
  show WP mL_sample _ _ _ _ _ 20 400 0 [(0, .ref (ad 0 0)), (1, .int x1), (2, .int x2), (3, .ref (ad 33 0))] []
  refine r_aload_n dL_sample_0 rfl 3 rfl ?_
  refine r_iconst (v := 0) dL_sample_1 (by decide) ?_
  refine r_aload_n dL_sample_2 rfl 0 rfl ?_
  refine r_iload_n dL_sample_3 rfl 1 rfl ?_
  refine r_iload_n dL_sample_4 rfl 2 rfl ?_
  refine r_callV (st := [.int 0, .ref (ad 33 0)]) [.int x1, .int x2] 0 0 dL_sample_5 kX8_sample nX8_sample lRL_75 (hW.g 0 0 rfl) rfl hC rfl rfl (Nat.le_of_ble_eq_true rfl) (Nat.le_of_ble_eq_true rfl) (Nat.le_of_ble_eq_true rfl) (fun _ _ h => h.elim) ?_
  intro r G9 hr
  obtain ⟨rfl, A9, ad9, hW9, hk9, hP9, hf9⟩ := hr
  have h33 : G9 (ad 33 0) = some (.inl (.long, 1, .inr (.inl (fun j => if j = 0 then (nI (B 40 0)).toInt64 else 0)))) := by rw [← hk9 33 0 rfl]; exact hW9.g 33 0 rfl
  show WP mL_sample _ _ _ _ _ _ _ 8 [(0, .ref (ad 0 0)), (1, .int x1), (2, .int x2), (3, .ref (ad 33 0))] [.int v, .int 0, .ref (ad 33 0)]
  refine r_i2l dL_sample_8 ?_
  have hw9 := w_out hW9 (n32 v)
  rw [n32_s, hk9 33 0 rfl] at hw9
  refine r_last dL_sample_9 h33 (show vp_in (nI 0) 1 from vp_in_nI (by decide) (by decide)) ?_
  refine r_heap (G' := va_up G9 (ad 33 0) (some (.inl (.long, 1, .inr (.inl (vp_updL (fun j => if j = 0 then (nI (B 40 0)).toInt64 else 0) 0 (v.toInt64))))))) rfl ?_
  refine r_goto 17 dL_sample_10 (by decide) ?_
  refine r_iconst (v := 0) dL_sample_17 (by decide) ?_
  refine r_ireti dL_sample_18 rfl ?_
  exact ⟨rfl, A9, ad9, hw9, hk9, hP9, hf9⟩
set_option maxRecDepth 100000 in
set_option maxHeartbeats 4000000 in
theorem w_sample_1 {d b0 : Nat} {G : GH} {A B : ST} {ad : AD} (hW : World A B ad G) {x1 x2 : Int32} (hC : CT mX8_sample d b0 G [.ref (ad 0 0), .int x1, .int x2] 20 400 (fun _ _ => False) (fun E G' => E = "java/lang/IndexOutOfBoundsException" ∧ G' = G)) : CT mL_sample (d + 1) b0 G [.ref (ad 0 0), .int x1, .int x2, .ref (ad 33 0)] 20 400 (fun r G' => r = some (.int 1) ∧ G' = G) (fun _ _ => False) := by
  refine CT.introW (by decide +kernel) (List.cons_ne_nil _ _) (Nat.le_of_ble_eq_true rfl) ?_
  show WP mL_sample _ _ _ _ _ 20 400 0 [(0, .ref (ad 0 0)), (1, .int x1), (2, .int x2), (3, .ref (ad 33 0))] []
  refine r_aload_n dL_sample_0 rfl 3 rfl ?_
  refine r_iconst (v := 0) dL_sample_1 (by decide) ?_
  refine r_aload_n dL_sample_2 rfl 0 rfl ?_
  refine r_iload_n dL_sample_3 rfl 1 rfl ?_
  refine r_iload_n dL_sample_4 rfl 2 rfl ?_
  have hx9 : ∀ (E9 : String) (G9 : GH), (E9 = "java/lang/IndexOutOfBoundsException" ∧ G9 = G) → WX mL_sample (d + 1) b0 (fun r G' => r = some (.int 1) ∧ G' = G) (fun _ _ => False) G9 0 0 5 [(0, .ref (ad 0 0)), (1, .int x1), (2, .int x2), (3, .ref (ad 33 0))] E9 := by
    intro E9 G9 hx
    obtain ⟨rfl, rfl⟩ := hx
    refine r_catch [] ⟨0, 10, 13, 23⟩ [] rfl (fun z hz => by cases hz) (by decide) (by decide) t_327 (by decide +kernel) (fun q => ?_)
    show WP mL_sample _ _ _ _ _ _ _ 13 [(0, .ref (ad 0 0)), (1, .int x1), (2, .int x2), (3, .ref (ad 33 0))] [.ref q]
    refine r_astore [(4, .ref q), (0, .ref (ad 0 0)), (1, .int x1), (2, .int x2), (3, .ref (ad 33 0))] dL_sample_13 (by decide) rfl ?_
    refine r_iconst (v := 1) dL_sample_15 (by decide) ?_
    refine r_ireti dL_sample_16 rfl ?_
    exact ⟨rfl, rfl⟩
  refine r_callV (st := [.int 0, .ref (ad 33 0)]) [.int x1, .int x2] 0 0 dL_sample_5 kX8_sample nX8_sample lRL_75 (hW.g 0 0 rfl) rfl hC rfl rfl (Nat.le_of_ble_eq_true rfl) (Nat.le_of_ble_eq_true rfl) (Nat.le_of_ble_eq_true rfl) hx9 ?_
  intro r G9 hr
  exact hr.elim
