theorem b2i_e0 {b : Bool} (h : b2i b = 0) : b = false := by cases b with
  | false => rfl
  | true => exact absurd h (by decide)
theorem b2i_ne0 {b : Bool} (h : ¬ b2i b = 0) : b = true := by cases b with
  | true => rfl
  | false => exact absurd rfl h
set_option maxRecDepth 100000 in
set_option maxHeartbeats 4000000 in
theorem a_type_0 {d b0 : Nat} {G : GH} {A B : ST} {ad : AD} (hW : World A B ad G) {st : ST} {v : Int32} {x1 x2 x3 x4 : Int32} {c : Nat} (hx : (x1.toUInt32 % 65536).toInt32 = nI c) (hC : CT mX8_type d b0 G [.ref (ad 0 0), .int (nI c)] 20 400 (OPo (v) st B ad A) (fun _ _ => False)) : CT mL_act (d + 1) b0 G [.ref (ad 0 0), .int 0, .int x1, .int x2, .int x3, .int x4] 20 400 (OPo (v) st B ad A) (fun _ _ => False) := by
  refine CT.introW (by decide +kernel) (List.cons_ne_nil _ _) (Nat.le_of_ble_eq_true rfl) ?_
  show WP mL_act _ _ _ _ _ 20 400 0 [(0, .ref (ad 0 0)), (1, .int 0), (2, .int x1), (3, .int x2), (4, .int x3), (5, .int x4)] []
  refine r_iload_n dL_act_0 rfl 1 rfl ?_
  refine r_if_ne 13 dL_act_1 (by decide) (fun c_1 => absurd (by decide) c_1) (fun c_1 => ?_)
  refine r_aload_n dL_act_4 rfl 0 rfl ?_
  refine r_iload_n dL_act_5 rfl 2 rfl ?_
  refine r_i2c (v := nI c) dL_act_6 hx ?_
  refine r_callV (st := []) [.int (nI c)] 0 0 dL_act_7 kX8_type nX8_type lRL_9 (hW.g 0 0 rfl) rfl hC rfl rfl (Nat.le_of_ble_eq_true rfl) (Nat.le_of_ble_eq_true rfl) (Nat.le_of_ble_eq_true rfl) (fun _ _ h => h.elim) ?_
  intro r G9 hr
  obtain ⟨rfl, A9, ad9, hW9, hk9, hP9, hf9⟩ := hr
  show WP mL_act _ _ _ _ _ _ _ 10 [(0, .ref (ad 0 0)), (1, .int 0), (2, .int x1), (3, .int x2), (4, .int x3), (5, .int x4)] [.int v]
  refine r_goto 286 dL_act_10 (by decide) ?_
  refine r_ireti dL_act_286 rfl ?_
  exact ⟨rfl, A9, ad9, hW9, hk9, hP9, hf9⟩
set_option maxRecDepth 100000 in
set_option maxHeartbeats 4000000 in
theorem a_type_3 {d b0 : Nat} {G : GH} {A B : ST} {ad : AD} (hW : World A B ad G) {x1 x2 x3 x4 : Int32} {c : Nat} (hx : (x1.toUInt32 % 65536).toInt32 = nI c) (hC : CT mX8_type d b0 G [.ref (ad 0 0), .int (nI c)] 20 400 (fun _ _ => False) (fun E G' => E = "java/lang/IllegalStateException" ∧ G' = G)) : CT mL_act (d + 1) b0 G [.ref (ad 0 0), .int 0, .int x1, .int x2, .int x3, .int x4] 20 400 (fun r G' => r = some (.int (-1663000)) ∧ G' = G) (fun _ _ => False) := by
  refine CT.introW (by decide +kernel) (List.cons_ne_nil _ _) (Nat.le_of_ble_eq_true rfl) ?_
  show WP mL_act _ _ _ _ _ 20 400 0 [(0, .ref (ad 0 0)), (1, .int 0), (2, .int x1), (3, .int x2), (4, .int x3), (5, .int x4)] []
  refine r_iload_n dL_act_0 rfl 1 rfl ?_
  refine r_if_ne 13 dL_act_1 (by decide) (fun c_1 => absurd (by decide) c_1) (fun c_1 => ?_)
  refine r_aload_n dL_act_4 rfl 0 rfl ?_
  refine r_iload_n dL_act_5 rfl 2 rfl ?_
  refine r_i2c (v := nI c) dL_act_6 hx ?_
  have hx9 : ∀ (E9 : String) (G9 : GH), (E9 = "java/lang/IllegalStateException" ∧ G9 = G) → WX mL_act (d + 1) b0 (fun r G' => r = some (.int (-1663000)) ∧ G' = G) (fun _ _ => False) G9 0 0 7 [(0, .ref (ad 0 0)), (1, .int 0), (2, .int x1), (3, .int x2), (4, .int x3), (5, .int x4)] E9 := by
    intro E9 G9 hx
    obtain ⟨rfl, rfl⟩ := hx
    refine r_catch [⟨0, 286, 287, 74⟩, ⟨0, 286, 292, 77⟩] ⟨0, 286, 297, 80⟩ [] rfl (fun z hz => by
      simp only [List.mem_cons, List.not_mem_nil, or_false] at hz
      rcases hz with hz | hz
      · rw [hz]; exact ⟨by decide, "java/lang/IndexOutOfBoundsException", t_201, by decide +kernel⟩
      · rw [hz]; exact ⟨by decide, "java/lang/IllegalArgumentException", t_202, by decide +kernel⟩) (by decide) (by decide) t_203 (by decide +kernel) (fun q => ?_)
    show WP mL_act _ _ _ _ _ _ _ 297 [(0, .ref (ad 0 0)), (1, .int 0), (2, .int x1), (3, .int x2), (4, .int x3), (5, .int x4)] [.ref q]
    refine r_astore [(6, .ref q), (0, .ref (ad 0 0)), (1, .int 0), (2, .int x1), (3, .int x2), (4, .int x3), (5, .int x4)] dL_act_297 (by decide) rfl ?_
    refine r_ldc dL_act_299 con_82 ?_
    refine r_ireti dL_act_301 rfl ?_
    exact ⟨rfl, rfl⟩
  refine r_callV (st := []) [.int (nI c)] 0 0 dL_act_7 kX8_type nX8_type lRL_9 (hW.g 0 0 rfl) rfl hC rfl rfl (Nat.le_of_ble_eq_true rfl) (Nat.le_of_ble_eq_true rfl) (Nat.le_of_ble_eq_true rfl) hx9 ?_
  intro r G9 hr
  exact hr.elim
set_option maxRecDepth 100000 in
set_option maxHeartbeats 4000000 in
theorem a_word_0 {d b0 : Nat} {G : GH} {A B : ST} {ad : AD} (hW : World A B ad G) {st : ST} {v : Int32} {x1 x2 x3 x4 : Int32} (hC : CT mX8_word d b0 G [.ref (ad 0 0)] 20 400 (OPo (v) st B ad A) (fun _ _ => False)) : CT mL_act (d + 1) b0 G [.ref (ad 0 0), .int 1, .int x1, .int x2, .int x3, .int x4] 20 400 (OPo (v) st B ad A) (fun _ _ => False) := by
  refine CT.introW (by decide +kernel) (List.cons_ne_nil _ _) (Nat.le_of_ble_eq_true rfl) ?_
  show WP mL_act _ _ _ _ _ 20 400 0 [(0, .ref (ad 0 0)), (1, .int 1), (2, .int x1), (3, .int x2), (4, .int x3), (5, .int x4)] []
  refine r_iload_n dL_act_0 rfl 1 rfl ?_
  refine r_if_ne 13 dL_act_1 (by decide) (fun c_1 => ?_) (fun c_1 => absurd c_1 (by decide))
  refine r_iload_n dL_act_13 rfl 1 rfl ?_
  refine r_iconst (v := 1) dL_act_14 (by decide) ?_
  refine r_icmp_ne 25 dL_act_15 (by decide) (fun c_2 => absurd (by decide) c_2) (fun c_2 => ?_)
  refine r_aload_n dL_act_18 rfl 0 rfl ?_
  refine r_callV (st := []) [] 0 0 dL_act_19 kX8_word nX8_word lRL_15 (hW.g 0 0 rfl) rfl hC rfl rfl (Nat.le_of_ble_eq_true rfl) (Nat.le_of_ble_eq_true rfl) (Nat.le_of_ble_eq_true rfl) (fun _ _ h => h.elim) ?_
  intro r G9 hr
  obtain ⟨rfl, A9, ad9, hW9, hk9, hP9, hf9⟩ := hr
  show WP mL_act _ _ _ _ _ _ _ 22 [(0, .ref (ad 0 0)), (1, .int 1), (2, .int x1), (3, .int x2), (4, .int x3), (5, .int x4)] [.int v]
  refine r_goto 286 dL_act_22 (by decide) ?_
  refine r_ireti dL_act_286 rfl ?_
  exact ⟨rfl, A9, ad9, hW9, hk9, hP9, hf9⟩
set_option maxRecDepth 100000 in
set_option maxHeartbeats 4000000 in
theorem a_word_3 {d b0 : Nat} {G : GH} {A B : ST} {ad : AD} (hW : World A B ad G) {x1 x2 x3 x4 : Int32} (hC : CT mX8_word d b0 G [.ref (ad 0 0)] 20 400 (fun _ _ => False) (fun E G' => E = "java/lang/IllegalStateException" ∧ G' = G)) : CT mL_act (d + 1) b0 G [.ref (ad 0 0), .int 1, .int x1, .int x2, .int x3, .int x4] 20 400 (fun r G' => r = some (.int (-1663000)) ∧ G' = G) (fun _ _ => False) := by
  refine CT.introW (by decide +kernel) (List.cons_ne_nil _ _) (Nat.le_of_ble_eq_true rfl) ?_
  show WP mL_act _ _ _ _ _ 20 400 0 [(0, .ref (ad 0 0)), (1, .int 1), (2, .int x1), (3, .int x2), (4, .int x3), (5, .int x4)] []
  refine r_iload_n dL_act_0 rfl 1 rfl ?_
  refine r_if_ne 13 dL_act_1 (by decide) (fun c_1 => ?_) (fun c_1 => absurd c_1 (by decide))
  refine r_iload_n dL_act_13 rfl 1 rfl ?_
  refine r_iconst (v := 1) dL_act_14 (by decide) ?_
  refine r_icmp_ne 25 dL_act_15 (by decide) (fun c_2 => absurd (by decide) c_2) (fun c_2 => ?_)
  refine r_aload_n dL_act_18 rfl 0 rfl ?_
  have hx9 : ∀ (E9 : String) (G9 : GH), (E9 = "java/lang/IllegalStateException" ∧ G9 = G) → WX mL_act (d + 1) b0 (fun r G' => r = some (.int (-1663000)) ∧ G' = G) (fun _ _ => False) G9 0 0 19 [(0, .ref (ad 0 0)), (1, .int 1), (2, .int x1), (3, .int x2), (4, .int x3), (5, .int x4)] E9 := by
    intro E9 G9 hx
    obtain ⟨rfl, rfl⟩ := hx
    refine r_catch [⟨0, 286, 287, 74⟩, ⟨0, 286, 292, 77⟩] ⟨0, 286, 297, 80⟩ [] rfl (fun z hz => by
      simp only [List.mem_cons, List.not_mem_nil, or_false] at hz
      rcases hz with hz | hz
      · rw [hz]; exact ⟨by decide, "java/lang/IndexOutOfBoundsException", t_201, by decide +kernel⟩
      · rw [hz]; exact ⟨by decide, "java/lang/IllegalArgumentException", t_202, by decide +kernel⟩) (by decide) (by decide) t_203 (by decide +kernel) (fun q => ?_)
    show WP mL_act _ _ _ _ _ _ _ 297 [(0, .ref (ad 0 0)), (1, .int 1), (2, .int x1), (3, .int x2), (4, .int x3), (5, .int x4)] [.ref q]
    refine r_astore [(6, .ref q), (0, .ref (ad 0 0)), (1, .int 1), (2, .int x1), (3, .int x2), (4, .int x3), (5, .int x4)] dL_act_297 (by decide) rfl ?_
    refine r_ldc dL_act_299 con_82 ?_
    refine r_ireti dL_act_301 rfl ?_
    exact ⟨rfl, rfl⟩
  refine r_callV (st := []) [] 0 0 dL_act_19 kX8_word nX8_word lRL_15 (hW.g 0 0 rfl) rfl hC rfl rfl (Nat.le_of_ble_eq_true rfl) (Nat.le_of_ble_eq_true rfl) (Nat.le_of_ble_eq_true rfl) hx9 ?_
  intro r G9 hr
  exact hr.elim
set_option maxRecDepth 100000 in
set_option maxHeartbeats 4000000 in
theorem a_form_0 {d b0 : Nat} {G : GH} {A B : ST} {ad : AD} (hW : World A B ad G) {st : ST} {v : Int32} {x1 x2 x3 x4 : Int32} (hC : CT mX8_form d b0 G [.ref (ad 0 0), .int x1, .int x2, .int x3] 20 400 (OPo (v) st B ad A) (fun _ _ => False)) : CT mL_act (d + 1) b0 G [.ref (ad 0 0), .int 2, .int x1, .int x2, .int x3, .int x4] 20 400 (OPo (v) st B ad A) (fun _ _ => False) := by
  refine CT.introW (by decide +kernel) (List.cons_ne_nil _ _) (Nat.le_of_ble_eq_true rfl) ?_
  show WP mL_act _ _ _ _ _ 20 400 0 [(0, .ref (ad 0 0)), (1, .int 2), (2, .int x1), (3, .int x2), (4, .int x3), (5, .int x4)] []
  refine r_iload_n dL_act_0 rfl 1 rfl ?_
  refine r_if_ne 13 dL_act_1 (by decide) (fun c_1 => ?_) (fun c_1 => absurd c_1 (by decide))
  refine r_iload_n dL_act_13 rfl 1 rfl ?_
  refine r_iconst (v := 1) dL_act_14 (by decide) ?_
  refine r_icmp_ne 25 dL_act_15 (by decide) (fun c_2 => ?_) (fun c_2 => absurd c_2 (by decide))
  refine r_iload_n dL_act_25 rfl 1 rfl ?_
  refine r_iconst (v := 2) dL_act_26 (by decide) ?_
  refine r_icmp_ne 41 dL_act_27 (by decide) (fun c_3 => absurd (by decide) c_3) (fun c_3 => ?_)
  refine r_aload_n dL_act_30 rfl 0 rfl ?_
  refine r_iload_n dL_act_31 rfl 2 rfl ?_
  refine r_iload_n dL_act_32 rfl 3 rfl ?_
  refine r_iload dL_act_33 4 rfl ?_
  refine r_callV (st := []) [.int x1, .int x2, .int x3] 0 0 dL_act_35 kX8_form nX8_form lRL_19 (hW.g 0 0 rfl) rfl hC rfl rfl (Nat.le_of_ble_eq_true rfl) (Nat.le_of_ble_eq_true rfl) (Nat.le_of_ble_eq_true rfl) (fun _ _ h => h.elim) ?_
  intro r G9 hr
  obtain ⟨rfl, A9, ad9, hW9, hk9, hP9, hf9⟩ := hr
  show WP mL_act _ _ _ _ _ _ _ 38 [(0, .ref (ad 0 0)), (1, .int 2), (2, .int x1), (3, .int x2), (4, .int x3), (5, .int x4)] [.int v]
  refine r_goto 286 dL_act_38 (by decide) ?_
  refine r_ireti dL_act_286 rfl ?_
  exact ⟨rfl, A9, ad9, hW9, hk9, hP9, hf9⟩
set_option maxRecDepth 100000 in
set_option maxHeartbeats 4000000 in
theorem a_form_1 {d b0 : Nat} {G : GH} {A B : ST} {ad : AD} (hW : World A B ad G) {x1 x2 x3 x4 : Int32} (hC : CT mX8_form d b0 G [.ref (ad 0 0), .int x1, .int x2, .int x3] 20 400 (fun _ _ => False) (fun E G' => E = "java/lang/IndexOutOfBoundsException" ∧ G' = G)) : CT mL_act (d + 1) b0 G [.ref (ad 0 0), .int 2, .int x1, .int x2, .int x3, .int x4] 20 400 (fun r G' => r = some (.int (-1661000)) ∧ G' = G) (fun _ _ => False) := by
  refine CT.introW (by decide +kernel) (List.cons_ne_nil _ _) (Nat.le_of_ble_eq_true rfl) ?_
  show WP mL_act _ _ _ _ _ 20 400 0 [(0, .ref (ad 0 0)), (1, .int 2), (2, .int x1), (3, .int x2), (4, .int x3), (5, .int x4)] []
  refine r_iload_n dL_act_0 rfl 1 rfl ?_
  refine r_if_ne 13 dL_act_1 (by decide) (fun c_1 => ?_) (fun c_1 => absurd c_1 (by decide))
  refine r_iload_n dL_act_13 rfl 1 rfl ?_
  refine r_iconst (v := 1) dL_act_14 (by decide) ?_
  refine r_icmp_ne 25 dL_act_15 (by decide) (fun c_2 => ?_) (fun c_2 => absurd c_2 (by decide))
  refine r_iload_n dL_act_25 rfl 1 rfl ?_
  refine r_iconst (v := 2) dL_act_26 (by decide) ?_
  refine r_icmp_ne 41 dL_act_27 (by decide) (fun c_3 => absurd (by decide) c_3) (fun c_3 => ?_)
  refine r_aload_n dL_act_30 rfl 0 rfl ?_
  refine r_iload_n dL_act_31 rfl 2 rfl ?_
  refine r_iload_n dL_act_32 rfl 3 rfl ?_
  refine r_iload dL_act_33 4 rfl ?_
  have hx9 : ∀ (E9 : String) (G9 : GH), (E9 = "java/lang/IndexOutOfBoundsException" ∧ G9 = G) → WX mL_act (d + 1) b0 (fun r G' => r = some (.int (-1661000)) ∧ G' = G) (fun _ _ => False) G9 0 0 35 [(0, .ref (ad 0 0)), (1, .int 2), (2, .int x1), (3, .int x2), (4, .int x3), (5, .int x4)] E9 := by
    intro E9 G9 hx
    obtain ⟨rfl, rfl⟩ := hx
    refine r_catch [] ⟨0, 286, 287, 74⟩ [⟨0, 286, 292, 77⟩, ⟨0, 286, 297, 80⟩] rfl (fun z hz => by cases hz) (by decide) (by decide) t_201 (by decide +kernel) (fun q => ?_)
    show WP mL_act _ _ _ _ _ _ _ 287 [(0, .ref (ad 0 0)), (1, .int 2), (2, .int x1), (3, .int x2), (4, .int x3), (5, .int x4)] [.ref q]
    refine r_astore [(6, .ref q), (0, .ref (ad 0 0)), (1, .int 2), (2, .int x1), (3, .int x2), (4, .int x3), (5, .int x4)] dL_act_287 (by decide) rfl ?_
    refine r_ldc dL_act_289 con_76 ?_
    refine r_ireti dL_act_291 rfl ?_
    exact ⟨rfl, rfl⟩
  refine r_callV (st := []) [.int x1, .int x2, .int x3] 0 0 dL_act_35 kX8_form nX8_form lRL_19 (hW.g 0 0 rfl) rfl hC rfl rfl (Nat.le_of_ble_eq_true rfl) (Nat.le_of_ble_eq_true rfl) (Nat.le_of_ble_eq_true rfl) hx9 ?_
  intro r G9 hr
  exact hr.elim
set_option maxRecDepth 100000 in
set_option maxHeartbeats 4000000 in
theorem a_form_2 {d b0 : Nat} {G : GH} {A B : ST} {ad : AD} (hW : World A B ad G) {x1 x2 x3 x4 : Int32} (hC : CT mX8_form d b0 G [.ref (ad 0 0), .int x1, .int x2, .int x3] 20 400 (fun _ _ => False) (fun E G' => E = "java/lang/IllegalArgumentException" ∧ G' = G)) : CT mL_act (d + 1) b0 G [.ref (ad 0 0), .int 2, .int x1, .int x2, .int x3, .int x4] 20 400 (fun r G' => r = some (.int (-1662000)) ∧ G' = G) (fun _ _ => False) := by
  refine CT.introW (by decide +kernel) (List.cons_ne_nil _ _) (Nat.le_of_ble_eq_true rfl) ?_
  show WP mL_act _ _ _ _ _ 20 400 0 [(0, .ref (ad 0 0)), (1, .int 2), (2, .int x1), (3, .int x2), (4, .int x3), (5, .int x4)] []
  refine r_iload_n dL_act_0 rfl 1 rfl ?_
  refine r_if_ne 13 dL_act_1 (by decide) (fun c_1 => ?_) (fun c_1 => absurd c_1 (by decide))
  refine r_iload_n dL_act_13 rfl 1 rfl ?_
  refine r_iconst (v := 1) dL_act_14 (by decide) ?_
  refine r_icmp_ne 25 dL_act_15 (by decide) (fun c_2 => ?_) (fun c_2 => absurd c_2 (by decide))
  refine r_iload_n dL_act_25 rfl 1 rfl ?_
  refine r_iconst (v := 2) dL_act_26 (by decide) ?_
  refine r_icmp_ne 41 dL_act_27 (by decide) (fun c_3 => absurd (by decide) c_3) (fun c_3 => ?_)
  refine r_aload_n dL_act_30 rfl 0 rfl ?_
  refine r_iload_n dL_act_31 rfl 2 rfl ?_
  refine r_iload_n dL_act_32 rfl 3 rfl ?_
  refine r_iload dL_act_33 4 rfl ?_
  have hx9 : ∀ (E9 : String) (G9 : GH), (E9 = "java/lang/IllegalArgumentException" ∧ G9 = G) → WX mL_act (d + 1) b0 (fun r G' => r = some (.int (-1662000)) ∧ G' = G) (fun _ _ => False) G9 0 0 35 [(0, .ref (ad 0 0)), (1, .int 2), (2, .int x1), (3, .int x2), (4, .int x3), (5, .int x4)] E9 := by
    intro E9 G9 hx
    obtain ⟨rfl, rfl⟩ := hx
    refine r_catch [⟨0, 286, 287, 74⟩] ⟨0, 286, 292, 77⟩ [⟨0, 286, 297, 80⟩] rfl (fun z hz => by
      simp only [List.mem_cons, List.not_mem_nil, or_false] at hz
      rw [hz]; exact ⟨by decide, "java/lang/IndexOutOfBoundsException", t_201, by decide +kernel⟩) (by decide) (by decide) t_202 (by decide +kernel) (fun q => ?_)
    show WP mL_act _ _ _ _ _ _ _ 292 [(0, .ref (ad 0 0)), (1, .int 2), (2, .int x1), (3, .int x2), (4, .int x3), (5, .int x4)] [.ref q]
    refine r_astore [(6, .ref q), (0, .ref (ad 0 0)), (1, .int 2), (2, .int x1), (3, .int x2), (4, .int x3), (5, .int x4)] dL_act_292 (by decide) rfl ?_
    refine r_ldc dL_act_294 con_79 ?_
    refine r_ireti dL_act_296 rfl ?_
    exact ⟨rfl, rfl⟩
  refine r_callV (st := []) [.int x1, .int x2, .int x3] 0 0 dL_act_35 kX8_form nX8_form lRL_19 (hW.g 0 0 rfl) rfl hC rfl rfl (Nat.le_of_ble_eq_true rfl) (Nat.le_of_ble_eq_true rfl) (Nat.le_of_ble_eq_true rfl) hx9 ?_
  intro r G9 hr
  exact hr.elim
set_option maxRecDepth 100000 in
set_option maxHeartbeats 4000000 in
theorem a_clause_0 {d b0 : Nat} {G : GH} {A B : ST} {ad : AD} (hW : World A B ad G) {st : ST} {v : Int32} {x1 x2 x3 x4 : Int32} (hC : CT mX8_clause d b0 G [.ref (ad 0 0), .int x1] 20 400 (OPo (v) st B ad A) (fun _ _ => False)) : CT mL_act (d + 1) b0 G [.ref (ad 0 0), .int 3, .int x1, .int x2, .int x3, .int x4] 20 400 (OPo (v) st B ad A) (fun _ _ => False) := by
  refine CT.introW (by decide +kernel) (List.cons_ne_nil _ _) (Nat.le_of_ble_eq_true rfl) ?_
  show WP mL_act _ _ _ _ _ 20 400 0 [(0, .ref (ad 0 0)), (1, .int 3), (2, .int x1), (3, .int x2), (4, .int x3), (5, .int x4)] []
  refine r_iload_n dL_act_0 rfl 1 rfl ?_
  refine r_if_ne 13 dL_act_1 (by decide) (fun c_1 => ?_) (fun c_1 => absurd c_1 (by decide))
  refine r_iload_n dL_act_13 rfl 1 rfl ?_
  refine r_iconst (v := 1) dL_act_14 (by decide) ?_
  refine r_icmp_ne 25 dL_act_15 (by decide) (fun c_2 => ?_) (fun c_2 => absurd c_2 (by decide))
  refine r_iload_n dL_act_25 rfl 1 rfl ?_
  refine r_iconst (v := 2) dL_act_26 (by decide) ?_
  refine r_icmp_ne 41 dL_act_27 (by decide) (fun c_3 => ?_) (fun c_3 => absurd c_3 (by decide))
  refine r_iload_n dL_act_41 rfl 1 rfl ?_
  refine r_iconst (v := 3) dL_act_42 (by decide) ?_
  refine r_icmp_ne 54 dL_act_43 (by decide) (fun c_4 => absurd (by decide) c_4) (fun c_4 => ?_)
  refine r_aload_n dL_act_46 rfl 0 rfl ?_
  refine r_iload_n dL_act_47 rfl 2 rfl ?_
  refine r_callV (st := []) [.int x1] 0 0 dL_act_48 kX8_clause nX8_clause lRL_23 (hW.g 0 0 rfl) rfl hC rfl rfl (Nat.le_of_ble_eq_true rfl) (Nat.le_of_ble_eq_true rfl) (Nat.le_of_ble_eq_true rfl) (fun _ _ h => h.elim) ?_
  intro r G9 hr
  obtain ⟨rfl, A9, ad9, hW9, hk9, hP9, hf9⟩ := hr
  show WP mL_act _ _ _ _ _ _ _ 51 [(0, .ref (ad 0 0)), (1, .int 3), (2, .int x1), (3, .int x2), (4, .int x3), (5, .int x4)] [.int v]
  refine r_goto 286 dL_act_51 (by decide) ?_
  refine r_ireti dL_act_286 rfl ?_
  exact ⟨rfl, A9, ad9, hW9, hk9, hP9, hf9⟩
set_option maxRecDepth 100000 in
set_option maxHeartbeats 4000000 in
theorem a_clause_2 {d b0 : Nat} {G : GH} {A B : ST} {ad : AD} (hW : World A B ad G) {x1 x2 x3 x4 : Int32} (hC : CT mX8_clause d b0 G [.ref (ad 0 0), .int x1] 20 400 (fun _ _ => False) (fun E G' => E = "java/lang/IllegalArgumentException" ∧ G' = G)) : CT mL_act (d + 1) b0 G [.ref (ad 0 0), .int 3, .int x1, .int x2, .int x3, .int x4] 20 400 (fun r G' => r = some (.int (-1662000)) ∧ G' = G) (fun _ _ => False) := by
  refine CT.introW (by decide +kernel) (List.cons_ne_nil _ _) (Nat.le_of_ble_eq_true rfl) ?_
  show WP mL_act _ _ _ _ _ 20 400 0 [(0, .ref (ad 0 0)), (1, .int 3), (2, .int x1), (3, .int x2), (4, .int x3), (5, .int x4)] []
  refine r_iload_n dL_act_0 rfl 1 rfl ?_
  refine r_if_ne 13 dL_act_1 (by decide) (fun c_1 => ?_) (fun c_1 => absurd c_1 (by decide))
  refine r_iload_n dL_act_13 rfl 1 rfl ?_
  refine r_iconst (v := 1) dL_act_14 (by decide) ?_
  refine r_icmp_ne 25 dL_act_15 (by decide) (fun c_2 => ?_) (fun c_2 => absurd c_2 (by decide))
  refine r_iload_n dL_act_25 rfl 1 rfl ?_
  refine r_iconst (v := 2) dL_act_26 (by decide) ?_
  refine r_icmp_ne 41 dL_act_27 (by decide) (fun c_3 => ?_) (fun c_3 => absurd c_3 (by decide))
  refine r_iload_n dL_act_41 rfl 1 rfl ?_
  refine r_iconst (v := 3) dL_act_42 (by decide) ?_
  refine r_icmp_ne 54 dL_act_43 (by decide) (fun c_4 => absurd (by decide) c_4) (fun c_4 => ?_)
  refine r_aload_n dL_act_46 rfl 0 rfl ?_
  refine r_iload_n dL_act_47 rfl 2 rfl ?_
  have hx9 : ∀ (E9 : String) (G9 : GH), (E9 = "java/lang/IllegalArgumentException" ∧ G9 = G) → WX mL_act (d + 1) b0 (fun r G' => r = some (.int (-1662000)) ∧ G' = G) (fun _ _ => False) G9 0 0 48 [(0, .ref (ad 0 0)), (1, .int 3), (2, .int x1), (3, .int x2), (4, .int x3), (5, .int x4)] E9 := by
    intro E9 G9 hx
    obtain ⟨rfl, rfl⟩ := hx
    refine r_catch [⟨0, 286, 287, 74⟩] ⟨0, 286, 292, 77⟩ [⟨0, 286, 297, 80⟩] rfl (fun z hz => by
      simp only [List.mem_cons, List.not_mem_nil, or_false] at hz
      rw [hz]; exact ⟨by decide, "java/lang/IndexOutOfBoundsException", t_201, by decide +kernel⟩) (by decide) (by decide) t_202 (by decide +kernel) (fun q => ?_)
    show WP mL_act _ _ _ _ _ _ _ 292 [(0, .ref (ad 0 0)), (1, .int 3), (2, .int x1), (3, .int x2), (4, .int x3), (5, .int x4)] [.ref q]
    refine r_astore [(6, .ref q), (0, .ref (ad 0 0)), (1, .int 3), (2, .int x1), (3, .int x2), (4, .int x3), (5, .int x4)] dL_act_292 (by decide) rfl ?_
    refine r_ldc dL_act_294 con_79 ?_
    refine r_ireti dL_act_296 rfl ?_
    exact ⟨rfl, rfl⟩
  refine r_callV (st := []) [.int x1] 0 0 dL_act_48 kX8_clause nX8_clause lRL_23 (hW.g 0 0 rfl) rfl hC rfl rfl (Nat.le_of_ble_eq_true rfl) (Nat.le_of_ble_eq_true rfl) (Nat.le_of_ble_eq_true rfl) hx9 ?_
  intro r G9 hr
  exact hr.elim
set_option maxRecDepth 100000 in
set_option maxHeartbeats 4000000 in
theorem a_clause_3 {d b0 : Nat} {G : GH} {A B : ST} {ad : AD} (hW : World A B ad G) {x1 x2 x3 x4 : Int32} (hC : CT mX8_clause d b0 G [.ref (ad 0 0), .int x1] 20 400 (fun _ _ => False) (fun E G' => E = "java/lang/IllegalStateException" ∧ G' = G)) : CT mL_act (d + 1) b0 G [.ref (ad 0 0), .int 3, .int x1, .int x2, .int x3, .int x4] 20 400 (fun r G' => r = some (.int (-1663000)) ∧ G' = G) (fun _ _ => False) := by
  refine CT.introW (by decide +kernel) (List.cons_ne_nil _ _) (Nat.le_of_ble_eq_true rfl) ?_
  show WP mL_act _ _ _ _ _ 20 400 0 [(0, .ref (ad 0 0)), (1, .int 3), (2, .int x1), (3, .int x2), (4, .int x3), (5, .int x4)] []
  refine r_iload_n dL_act_0 rfl 1 rfl ?_
  refine r_if_ne 13 dL_act_1 (by decide) (fun c_1 => ?_) (fun c_1 => absurd c_1 (by decide))
  refine r_iload_n dL_act_13 rfl 1 rfl ?_
  refine r_iconst (v := 1) dL_act_14 (by decide) ?_
  refine r_icmp_ne 25 dL_act_15 (by decide) (fun c_2 => ?_) (fun c_2 => absurd c_2 (by decide))
  refine r_iload_n dL_act_25 rfl 1 rfl ?_
  refine r_iconst (v := 2) dL_act_26 (by decide) ?_
  refine r_icmp_ne 41 dL_act_27 (by decide) (fun c_3 => ?_) (fun c_3 => absurd c_3 (by decide))
  refine r_iload_n dL_act_41 rfl 1 rfl ?_
  refine r_iconst (v := 3) dL_act_42 (by decide) ?_
  refine r_icmp_ne 54 dL_act_43 (by decide) (fun c_4 => absurd (by decide) c_4) (fun c_4 => ?_)
  refine r_aload_n dL_act_46 rfl 0 rfl ?_
  refine r_iload_n dL_act_47 rfl 2 rfl ?_
  have hx9 : ∀ (E9 : String) (G9 : GH), (E9 = "java/lang/IllegalStateException" ∧ G9 = G) → WX mL_act (d + 1) b0 (fun r G' => r = some (.int (-1663000)) ∧ G' = G) (fun _ _ => False) G9 0 0 48 [(0, .ref (ad 0 0)), (1, .int 3), (2, .int x1), (3, .int x2), (4, .int x3), (5, .int x4)] E9 := by
    intro E9 G9 hx
    obtain ⟨rfl, rfl⟩ := hx
    refine r_catch [⟨0, 286, 287, 74⟩, ⟨0, 286, 292, 77⟩] ⟨0, 286, 297, 80⟩ [] rfl (fun z hz => by
      simp only [List.mem_cons, List.not_mem_nil, or_false] at hz
      rcases hz with hz | hz
      · rw [hz]; exact ⟨by decide, "java/lang/IndexOutOfBoundsException", t_201, by decide +kernel⟩
      · rw [hz]; exact ⟨by decide, "java/lang/IllegalArgumentException", t_202, by decide +kernel⟩) (by decide) (by decide) t_203 (by decide +kernel) (fun q => ?_)
    show WP mL_act _ _ _ _ _ _ _ 297 [(0, .ref (ad 0 0)), (1, .int 3), (2, .int x1), (3, .int x2), (4, .int x3), (5, .int x4)] [.ref q]
    refine r_astore [(6, .ref q), (0, .ref (ad 0 0)), (1, .int 3), (2, .int x1), (3, .int x2), (4, .int x3), (5, .int x4)] dL_act_297 (by decide) rfl ?_
    refine r_ldc dL_act_299 con_82 ?_
    refine r_ireti dL_act_301 rfl ?_
    exact ⟨rfl, rfl⟩
  refine r_callV (st := []) [.int x1] 0 0 dL_act_48 kX8_clause nX8_clause lRL_23 (hW.g 0 0 rfl) rfl hC rfl rfl (Nat.le_of_ble_eq_true rfl) (Nat.le_of_ble_eq_true rfl) (Nat.le_of_ble_eq_true rfl) hx9 ?_
  intro r G9 hr
  exact hr.elim
set_option maxRecDepth 100000 in
set_option maxHeartbeats 4000000 in
theorem a_text_0 {d b0 : Nat} {G : GH} {A B : ST} {ad : AD} (hW : World A B ad G) {st : ST} {v : Int32} {x1 x2 x3 x4 : Int32} (hC : CT mX8_text d b0 G [.ref (ad 0 0), .int x1, .int x2] 20 400 (OPo (v) st B ad A) (fun _ _ => False)) : CT mL_act (d + 1) b0 G [.ref (ad 0 0), .int 4, .int x1, .int x2, .int x3, .int x4] 20 400 (OPo (v) st B ad A) (fun _ _ => False) := by
  refine CT.introW (by decide +kernel) (List.cons_ne_nil _ _) (Nat.le_of_ble_eq_true rfl) ?_
  show WP mL_act _ _ _ _ _ 20 400 0 [(0, .ref (ad 0 0)), (1, .int 4), (2, .int x1), (3, .int x2), (4, .int x3), (5, .int x4)] []
  refine r_iload_n dL_act_0 rfl 1 rfl ?_
  refine r_if_ne 13 dL_act_1 (by decide) (fun c_1 => ?_) (fun c_1 => absurd c_1 (by decide))
  refine r_iload_n dL_act_13 rfl 1 rfl ?_
  refine r_iconst (v := 1) dL_act_14 (by decide) ?_
  refine r_icmp_ne 25 dL_act_15 (by decide) (fun c_2 => ?_) (fun c_2 => absurd c_2 (by decide))
  refine r_iload_n dL_act_25 rfl 1 rfl ?_
  refine r_iconst (v := 2) dL_act_26 (by decide) ?_
  refine r_icmp_ne 41 dL_act_27 (by decide) (fun c_3 => ?_) (fun c_3 => absurd c_3 (by decide))
  refine r_iload_n dL_act_41 rfl 1 rfl ?_
  refine r_iconst (v := 3) dL_act_42 (by decide) ?_
  refine r_icmp_ne 54 dL_act_43 (by decide) (fun c_4 => ?_) (fun c_4 => absurd c_4 (by decide))
  refine r_iload_n dL_act_54 rfl 1 rfl ?_
  refine r_iconst (v := 4) dL_act_55 (by decide) ?_
  refine r_icmp_ne 68 dL_act_56 (by decide) (fun c_5 => absurd (by decide) c_5) (fun c_5 => ?_)
  refine r_aload_n dL_act_59 rfl 0 rfl ?_
  refine r_iload_n dL_act_60 rfl 2 rfl ?_
  refine r_iload_n dL_act_61 rfl 3 rfl ?_
  refine r_callV (st := []) [.int x1, .int x2] 0 0 dL_act_62 kX8_text nX8_text lRL_27 (hW.g 0 0 rfl) rfl hC rfl rfl (Nat.le_of_ble_eq_true rfl) (Nat.le_of_ble_eq_true rfl) (Nat.le_of_ble_eq_true rfl) (fun _ _ h => h.elim) ?_
  intro r G9 hr
  obtain ⟨rfl, A9, ad9, hW9, hk9, hP9, hf9⟩ := hr
  show WP mL_act _ _ _ _ _ _ _ 65 [(0, .ref (ad 0 0)), (1, .int 4), (2, .int x1), (3, .int x2), (4, .int x3), (5, .int x4)] [.int v]
  refine r_goto 286 dL_act_65 (by decide) ?_
  refine r_ireti dL_act_286 rfl ?_
  exact ⟨rfl, A9, ad9, hW9, hk9, hP9, hf9⟩
set_option maxRecDepth 100000 in
set_option maxHeartbeats 4000000 in
theorem a_text_1 {d b0 : Nat} {G : GH} {A B : ST} {ad : AD} (hW : World A B ad G) {x1 x2 x3 x4 : Int32} (hC : CT mX8_text d b0 G [.ref (ad 0 0), .int x1, .int x2] 20 400 (fun _ _ => False) (fun E G' => E = "java/lang/IndexOutOfBoundsException" ∧ G' = G)) : CT mL_act (d + 1) b0 G [.ref (ad 0 0), .int 4, .int x1, .int x2, .int x3, .int x4] 20 400 (fun r G' => r = some (.int (-1661000)) ∧ G' = G) (fun _ _ => False) := by
  refine CT.introW (by decide +kernel) (List.cons_ne_nil _ _) (Nat.le_of_ble_eq_true rfl) ?_
  show WP mL_act _ _ _ _ _ 20 400 0 [(0, .ref (ad 0 0)), (1, .int 4), (2, .int x1), (3, .int x2), (4, .int x3), (5, .int x4)] []
  refine r_iload_n dL_act_0 rfl 1 rfl ?_
  refine r_if_ne 13 dL_act_1 (by decide) (fun c_1 => ?_) (fun c_1 => absurd c_1 (by decide))
  refine r_iload_n dL_act_13 rfl 1 rfl ?_
  refine r_iconst (v := 1) dL_act_14 (by decide) ?_
  refine r_icmp_ne 25 dL_act_15 (by decide) (fun c_2 => ?_) (fun c_2 => absurd c_2 (by decide))
  refine r_iload_n dL_act_25 rfl 1 rfl ?_
  refine r_iconst (v := 2) dL_act_26 (by decide) ?_
  refine r_icmp_ne 41 dL_act_27 (by decide) (fun c_3 => ?_) (fun c_3 => absurd c_3 (by decide))
  refine r_iload_n dL_act_41 rfl 1 rfl ?_
  refine r_iconst (v := 3) dL_act_42 (by decide) ?_
  refine r_icmp_ne 54 dL_act_43 (by decide) (fun c_4 => ?_) (fun c_4 => absurd c_4 (by decide))
  refine r_iload_n dL_act_54 rfl 1 rfl ?_
  refine r_iconst (v := 4) dL_act_55 (by decide) ?_
  refine r_icmp_ne 68 dL_act_56 (by decide) (fun c_5 => absurd (by decide) c_5) (fun c_5 => ?_)
  refine r_aload_n dL_act_59 rfl 0 rfl ?_
  refine r_iload_n dL_act_60 rfl 2 rfl ?_
  refine r_iload_n dL_act_61 rfl 3 rfl ?_
  have hx9 : ∀ (E9 : String) (G9 : GH), (E9 = "java/lang/IndexOutOfBoundsException" ∧ G9 = G) → WX mL_act (d + 1) b0 (fun r G' => r = some (.int (-1661000)) ∧ G' = G) (fun _ _ => False) G9 0 0 62 [(0, .ref (ad 0 0)), (1, .int 4), (2, .int x1), (3, .int x2), (4, .int x3), (5, .int x4)] E9 := by
    intro E9 G9 hx
    obtain ⟨rfl, rfl⟩ := hx
    refine r_catch [] ⟨0, 286, 287, 74⟩ [⟨0, 286, 292, 77⟩, ⟨0, 286, 297, 80⟩] rfl (fun z hz => by cases hz) (by decide) (by decide) t_201 (by decide +kernel) (fun q => ?_)
    show WP mL_act _ _ _ _ _ _ _ 287 [(0, .ref (ad 0 0)), (1, .int 4), (2, .int x1), (3, .int x2), (4, .int x3), (5, .int x4)] [.ref q]
    refine r_astore [(6, .ref q), (0, .ref (ad 0 0)), (1, .int 4), (2, .int x1), (3, .int x2), (4, .int x3), (5, .int x4)] dL_act_287 (by decide) rfl ?_
    refine r_ldc dL_act_289 con_76 ?_
    refine r_ireti dL_act_291 rfl ?_
    exact ⟨rfl, rfl⟩
  refine r_callV (st := []) [.int x1, .int x2] 0 0 dL_act_62 kX8_text nX8_text lRL_27 (hW.g 0 0 rfl) rfl hC rfl rfl (Nat.le_of_ble_eq_true rfl) (Nat.le_of_ble_eq_true rfl) (Nat.le_of_ble_eq_true rfl) hx9 ?_
  intro r G9 hr
  exact hr.elim
set_option maxRecDepth 100000 in
set_option maxHeartbeats 4000000 in
theorem a_text_3 {d b0 : Nat} {G : GH} {A B : ST} {ad : AD} (hW : World A B ad G) {x1 x2 x3 x4 : Int32} (hC : CT mX8_text d b0 G [.ref (ad 0 0), .int x1, .int x2] 20 400 (fun _ _ => False) (fun E G' => E = "java/lang/IllegalStateException" ∧ G' = G)) : CT mL_act (d + 1) b0 G [.ref (ad 0 0), .int 4, .int x1, .int x2, .int x3, .int x4] 20 400 (fun r G' => r = some (.int (-1663000)) ∧ G' = G) (fun _ _ => False) := by
  refine CT.introW (by decide +kernel) (List.cons_ne_nil _ _) (Nat.le_of_ble_eq_true rfl) ?_
  show WP mL_act _ _ _ _ _ 20 400 0 [(0, .ref (ad 0 0)), (1, .int 4), (2, .int x1), (3, .int x2), (4, .int x3), (5, .int x4)] []
  refine r_iload_n dL_act_0 rfl 1 rfl ?_
  refine r_if_ne 13 dL_act_1 (by decide) (fun c_1 => ?_) (fun c_1 => absurd c_1 (by decide))
  refine r_iload_n dL_act_13 rfl 1 rfl ?_
  refine r_iconst (v := 1) dL_act_14 (by decide) ?_
  refine r_icmp_ne 25 dL_act_15 (by decide) (fun c_2 => ?_) (fun c_2 => absurd c_2 (by decide))
  refine r_iload_n dL_act_25 rfl 1 rfl ?_
  refine r_iconst (v := 2) dL_act_26 (by decide) ?_
  refine r_icmp_ne 41 dL_act_27 (by decide) (fun c_3 => ?_) (fun c_3 => absurd c_3 (by decide))
  refine r_iload_n dL_act_41 rfl 1 rfl ?_
  refine r_iconst (v := 3) dL_act_42 (by decide) ?_
  refine r_icmp_ne 54 dL_act_43 (by decide) (fun c_4 => ?_) (fun c_4 => absurd c_4 (by decide))
  refine r_iload_n dL_act_54 rfl 1 rfl ?_
  refine r_iconst (v := 4) dL_act_55 (by decide) ?_
  refine r_icmp_ne 68 dL_act_56 (by decide) (fun c_5 => absurd (by decide) c_5) (fun c_5 => ?_)
  refine r_aload_n dL_act_59 rfl 0 rfl ?_
  refine r_iload_n dL_act_60 rfl 2 rfl ?_
  refine r_iload_n dL_act_61 rfl 3 rfl ?_
  have hx9 : ∀ (E9 : String) (G9 : GH), (E9 = "java/lang/IllegalStateException" ∧ G9 = G) → WX mL_act (d + 1) b0 (fun r G' => r = some (.int (-1663000)) ∧ G' = G) (fun _ _ => False) G9 0 0 62 [(0, .ref (ad 0 0)), (1, .int 4), (2, .int x1), (3, .int x2), (4, .int x3), (5, .int x4)] E9 := by
    intro E9 G9 hx
    obtain ⟨rfl, rfl⟩ := hx
    refine r_catch [⟨0, 286, 287, 74⟩, ⟨0, 286, 292, 77⟩] ⟨0, 286, 297, 80⟩ [] rfl (fun z hz => by
      simp only [List.mem_cons, List.not_mem_nil, or_false] at hz
      rcases hz with hz | hz
      · rw [hz]; exact ⟨by decide, "java/lang/IndexOutOfBoundsException", t_201, by decide +kernel⟩
      · rw [hz]; exact ⟨by decide, "java/lang/IllegalArgumentException", t_202, by decide +kernel⟩) (by decide) (by decide) t_203 (by decide +kernel) (fun q => ?_)
    show WP mL_act _ _ _ _ _ _ _ 297 [(0, .ref (ad 0 0)), (1, .int 4), (2, .int x1), (3, .int x2), (4, .int x3), (5, .int x4)] [.ref q]
    refine r_astore [(6, .ref q), (0, .ref (ad 0 0)), (1, .int 4), (2, .int x1), (3, .int x2), (4, .int x3), (5, .int x4)] dL_act_297 (by decide) rfl ?_
    refine r_ldc dL_act_299 con_82 ?_
    refine r_ireti dL_act_301 rfl ?_
    exact ⟨rfl, rfl⟩
  refine r_callV (st := []) [.int x1, .int x2] 0 0 dL_act_62 kX8_text nX8_text lRL_27 (hW.g 0 0 rfl) rfl hC rfl rfl (Nat.le_of_ble_eq_true rfl) (Nat.le_of_ble_eq_true rfl) (Nat.le_of_ble_eq_true rfl) hx9 ?_
  intro r G9 hr
  exact hr.elim
set_option maxRecDepth 100000 in
set_option maxHeartbeats 4000000 in
theorem a_approve_0 {d b0 : Nat} {G : GH} {A B : ST} {ad : AD} (hW : World A B ad G) {st : ST} {b : Bool} {x1 x2 x3 x4 : Int32} (hC : CT mX8_approve d b0 G [.ref (ad 0 0), .int x1, .int x2] 20 400 (OPo (b2i b) st B ad A) (fun _ _ => False)) : CT mL_act (d + 1) b0 G [.ref (ad 0 0), .int 5, .int x1, .int x2, .int x3, .int x4] 20 400 (OPo (b2i b) st B ad A) (fun _ _ => False) := by
  refine CT.introW (by decide +kernel) (List.cons_ne_nil _ _) (Nat.le_of_ble_eq_true rfl) ?_
  show WP mL_act _ _ _ _ _ 20 400 0 [(0, .ref (ad 0 0)), (1, .int 5), (2, .int x1), (3, .int x2), (4, .int x3), (5, .int x4)] []
  refine r_iload_n dL_act_0 rfl 1 rfl ?_
  refine r_if_ne 13 dL_act_1 (by decide) (fun c_1 => ?_) (fun c_1 => absurd c_1 (by decide))
  refine r_iload_n dL_act_13 rfl 1 rfl ?_
  refine r_iconst (v := 1) dL_act_14 (by decide) ?_
  refine r_icmp_ne 25 dL_act_15 (by decide) (fun c_2 => ?_) (fun c_2 => absurd c_2 (by decide))
  refine r_iload_n dL_act_25 rfl 1 rfl ?_
  refine r_iconst (v := 2) dL_act_26 (by decide) ?_
  refine r_icmp_ne 41 dL_act_27 (by decide) (fun c_3 => ?_) (fun c_3 => absurd c_3 (by decide))
  refine r_iload_n dL_act_41 rfl 1 rfl ?_
  refine r_iconst (v := 3) dL_act_42 (by decide) ?_
  refine r_icmp_ne 54 dL_act_43 (by decide) (fun c_4 => ?_) (fun c_4 => absurd c_4 (by decide))
  refine r_iload_n dL_act_54 rfl 1 rfl ?_
  refine r_iconst (v := 4) dL_act_55 (by decide) ?_
  refine r_icmp_ne 68 dL_act_56 (by decide) (fun c_5 => ?_) (fun c_5 => absurd c_5 (by decide))
  refine r_iload_n dL_act_68 rfl 1 rfl ?_
  refine r_iconst (v := 5) dL_act_69 (by decide) ?_
  refine r_icmp_ne 90 dL_act_70 (by decide) (fun c_6 => absurd (by decide) c_6) (fun c_6 => ?_)
  refine r_aload_n dL_act_73 rfl 0 rfl ?_
  refine r_iload_n dL_act_74 rfl 2 rfl ?_
  refine r_iload_n dL_act_75 rfl 3 rfl ?_
  refine r_callV (st := []) [.int x1, .int x2] 0 0 dL_act_76 kX8_approve nX8_approve lRL_31 (hW.g 0 0 rfl) rfl hC rfl rfl (Nat.le_of_ble_eq_true rfl) (Nat.le_of_ble_eq_true rfl) (Nat.le_of_ble_eq_true rfl) (fun _ _ h => h.elim) ?_
  intro r G9 hr
  obtain ⟨rfl, A9, ad9, hW9, hk9, hP9, hf9⟩ := hr
  show WP mL_act _ _ _ _ _ _ _ 79 [(0, .ref (ad 0 0)), (1, .int 5), (2, .int x1), (3, .int x2), (4, .int x3), (5, .int x4)] [.int (b2i b)]
  refine r_if_eq 86 dL_act_79 (by decide) (fun c_7 => ?_) (fun c_7 => ?_)
  · refine r_iconst (v := 0) dL_act_86 (by decide) ?_
    refine r_goto 286 dL_act_87 (by decide) ?_
    refine r_ireti dL_act_286 rfl ?_
    have hb : b = false := b2i_e0 c_7
    exact ⟨by rw [hb]; rfl, A9, ad9, hW9, hk9, hP9, hf9⟩
  · refine r_iconst (v := 1) dL_act_82 (by decide) ?_
    refine r_goto 286 dL_act_83 (by decide) ?_
    refine r_ireti dL_act_286 rfl ?_
    have hb : b = true := b2i_ne0 c_7
    exact ⟨by rw [hb]; rfl, A9, ad9, hW9, hk9, hP9, hf9⟩
set_option maxRecDepth 100000 in
set_option maxHeartbeats 4000000 in
theorem a_approve_1 {d b0 : Nat} {G : GH} {A B : ST} {ad : AD} (hW : World A B ad G) {x1 x2 x3 x4 : Int32} (hC : CT mX8_approve d b0 G [.ref (ad 0 0), .int x1, .int x2] 20 400 (fun _ _ => False) (fun E G' => E = "java/lang/IndexOutOfBoundsException" ∧ G' = G)) : CT mL_act (d + 1) b0 G [.ref (ad 0 0), .int 5, .int x1, .int x2, .int x3, .int x4] 20 400 (fun r G' => r = some (.int (-1661000)) ∧ G' = G) (fun _ _ => False) := by
  refine CT.introW (by decide +kernel) (List.cons_ne_nil _ _) (Nat.le_of_ble_eq_true rfl) ?_
  show WP mL_act _ _ _ _ _ 20 400 0 [(0, .ref (ad 0 0)), (1, .int 5), (2, .int x1), (3, .int x2), (4, .int x3), (5, .int x4)] []
  refine r_iload_n dL_act_0 rfl 1 rfl ?_
  refine r_if_ne 13 dL_act_1 (by decide) (fun c_1 => ?_) (fun c_1 => absurd c_1 (by decide))
  refine r_iload_n dL_act_13 rfl 1 rfl ?_
  refine r_iconst (v := 1) dL_act_14 (by decide) ?_
  refine r_icmp_ne 25 dL_act_15 (by decide) (fun c_2 => ?_) (fun c_2 => absurd c_2 (by decide))
  refine r_iload_n dL_act_25 rfl 1 rfl ?_
  refine r_iconst (v := 2) dL_act_26 (by decide) ?_
  refine r_icmp_ne 41 dL_act_27 (by decide) (fun c_3 => ?_) (fun c_3 => absurd c_3 (by decide))
  refine r_iload_n dL_act_41 rfl 1 rfl ?_
  refine r_iconst (v := 3) dL_act_42 (by decide) ?_
  refine r_icmp_ne 54 dL_act_43 (by decide) (fun c_4 => ?_) (fun c_4 => absurd c_4 (by decide))
  refine r_iload_n dL_act_54 rfl 1 rfl ?_
  refine r_iconst (v := 4) dL_act_55 (by decide) ?_
  refine r_icmp_ne 68 dL_act_56 (by decide) (fun c_5 => ?_) (fun c_5 => absurd c_5 (by decide))
  refine r_iload_n dL_act_68 rfl 1 rfl ?_
  refine r_iconst (v := 5) dL_act_69 (by decide) ?_
  refine r_icmp_ne 90 dL_act_70 (by decide) (fun c_6 => absurd (by decide) c_6) (fun c_6 => ?_)
  refine r_aload_n dL_act_73 rfl 0 rfl ?_
  refine r_iload_n dL_act_74 rfl 2 rfl ?_
  refine r_iload_n dL_act_75 rfl 3 rfl ?_
  have hx9 : ∀ (E9 : String) (G9 : GH), (E9 = "java/lang/IndexOutOfBoundsException" ∧ G9 = G) → WX mL_act (d + 1) b0 (fun r G' => r = some (.int (-1661000)) ∧ G' = G) (fun _ _ => False) G9 0 0 76 [(0, .ref (ad 0 0)), (1, .int 5), (2, .int x1), (3, .int x2), (4, .int x3), (5, .int x4)] E9 := by
    intro E9 G9 hx
    obtain ⟨rfl, rfl⟩ := hx
    refine r_catch [] ⟨0, 286, 287, 74⟩ [⟨0, 286, 292, 77⟩, ⟨0, 286, 297, 80⟩] rfl (fun z hz => by cases hz) (by decide) (by decide) t_201 (by decide +kernel) (fun q => ?_)
    show WP mL_act _ _ _ _ _ _ _ 287 [(0, .ref (ad 0 0)), (1, .int 5), (2, .int x1), (3, .int x2), (4, .int x3), (5, .int x4)] [.ref q]
    refine r_astore [(6, .ref q), (0, .ref (ad 0 0)), (1, .int 5), (2, .int x1), (3, .int x2), (4, .int x3), (5, .int x4)] dL_act_287 (by decide) rfl ?_
    refine r_ldc dL_act_289 con_76 ?_
    refine r_ireti dL_act_291 rfl ?_
    exact ⟨rfl, rfl⟩
  refine r_callV (st := []) [.int x1, .int x2] 0 0 dL_act_76 kX8_approve nX8_approve lRL_31 (hW.g 0 0 rfl) rfl hC rfl rfl (Nat.le_of_ble_eq_true rfl) (Nat.le_of_ble_eq_true rfl) (Nat.le_of_ble_eq_true rfl) hx9 ?_
  intro r G9 hr
  exact hr.elim
set_option maxRecDepth 100000 in
set_option maxHeartbeats 4000000 in
theorem a_approve_3 {d b0 : Nat} {G : GH} {A B : ST} {ad : AD} (hW : World A B ad G) {x1 x2 x3 x4 : Int32} (hC : CT mX8_approve d b0 G [.ref (ad 0 0), .int x1, .int x2] 20 400 (fun _ _ => False) (fun E G' => E = "java/lang/IllegalStateException" ∧ G' = G)) : CT mL_act (d + 1) b0 G [.ref (ad 0 0), .int 5, .int x1, .int x2, .int x3, .int x4] 20 400 (fun r G' => r = some (.int (-1663000)) ∧ G' = G) (fun _ _ => False) := by
  refine CT.introW (by decide +kernel) (List.cons_ne_nil _ _) (Nat.le_of_ble_eq_true rfl) ?_
  show WP mL_act _ _ _ _ _ 20 400 0 [(0, .ref (ad 0 0)), (1, .int 5), (2, .int x1), (3, .int x2), (4, .int x3), (5, .int x4)] []
  refine r_iload_n dL_act_0 rfl 1 rfl ?_
  refine r_if_ne 13 dL_act_1 (by decide) (fun c_1 => ?_) (fun c_1 => absurd c_1 (by decide))
  refine r_iload_n dL_act_13 rfl 1 rfl ?_
  refine r_iconst (v := 1) dL_act_14 (by decide) ?_
  refine r_icmp_ne 25 dL_act_15 (by decide) (fun c_2 => ?_) (fun c_2 => absurd c_2 (by decide))
  refine r_iload_n dL_act_25 rfl 1 rfl ?_
  refine r_iconst (v := 2) dL_act_26 (by decide) ?_
  refine r_icmp_ne 41 dL_act_27 (by decide) (fun c_3 => ?_) (fun c_3 => absurd c_3 (by decide))
  refine r_iload_n dL_act_41 rfl 1 rfl ?_
  refine r_iconst (v := 3) dL_act_42 (by decide) ?_
  refine r_icmp_ne 54 dL_act_43 (by decide) (fun c_4 => ?_) (fun c_4 => absurd c_4 (by decide))
  refine r_iload_n dL_act_54 rfl 1 rfl ?_
  refine r_iconst (v := 4) dL_act_55 (by decide) ?_
  refine r_icmp_ne 68 dL_act_56 (by decide) (fun c_5 => ?_) (fun c_5 => absurd c_5 (by decide))
  refine r_iload_n dL_act_68 rfl 1 rfl ?_
  refine r_iconst (v := 5) dL_act_69 (by decide) ?_
  refine r_icmp_ne 90 dL_act_70 (by decide) (fun c_6 => absurd (by decide) c_6) (fun c_6 => ?_)
  refine r_aload_n dL_act_73 rfl 0 rfl ?_
  refine r_iload_n dL_act_74 rfl 2 rfl ?_
  refine r_iload_n dL_act_75 rfl 3 rfl ?_
  have hx9 : ∀ (E9 : String) (G9 : GH), (E9 = "java/lang/IllegalStateException" ∧ G9 = G) → WX mL_act (d + 1) b0 (fun r G' => r = some (.int (-1663000)) ∧ G' = G) (fun _ _ => False) G9 0 0 76 [(0, .ref (ad 0 0)), (1, .int 5), (2, .int x1), (3, .int x2), (4, .int x3), (5, .int x4)] E9 := by
    intro E9 G9 hx
    obtain ⟨rfl, rfl⟩ := hx
    refine r_catch [⟨0, 286, 287, 74⟩, ⟨0, 286, 292, 77⟩] ⟨0, 286, 297, 80⟩ [] rfl (fun z hz => by
      simp only [List.mem_cons, List.not_mem_nil, or_false] at hz
      rcases hz with hz | hz
      · rw [hz]; exact ⟨by decide, "java/lang/IndexOutOfBoundsException", t_201, by decide +kernel⟩
      · rw [hz]; exact ⟨by decide, "java/lang/IllegalArgumentException", t_202, by decide +kernel⟩) (by decide) (by decide) t_203 (by decide +kernel) (fun q => ?_)
    show WP mL_act _ _ _ _ _ _ _ 297 [(0, .ref (ad 0 0)), (1, .int 5), (2, .int x1), (3, .int x2), (4, .int x3), (5, .int x4)] [.ref q]
    refine r_astore [(6, .ref q), (0, .ref (ad 0 0)), (1, .int 5), (2, .int x1), (3, .int x2), (4, .int x3), (5, .int x4)] dL_act_297 (by decide) rfl ?_
    refine r_ldc dL_act_299 con_82 ?_
    refine r_ireti dL_act_301 rfl ?_
    exact ⟨rfl, rfl⟩
  refine r_callV (st := []) [.int x1, .int x2] 0 0 dL_act_76 kX8_approve nX8_approve lRL_31 (hW.g 0 0 rfl) rfl hC rfl rfl (Nat.le_of_ble_eq_true rfl) (Nat.le_of_ble_eq_true rfl) (Nat.le_of_ble_eq_true rfl) hx9 ?_
  intro r G9 hr
  exact hr.elim
set_option maxRecDepth 100000 in
set_option maxHeartbeats 4000000 in
theorem a_relate_0 {d b0 : Nat} {G : GH} {A B : ST} {ad : AD} (hW : World A B ad G) {st : ST} {v : Int32} {x1 x2 x3 x4 : Int32} (hC : CT mX8_relate d b0 G [.ref (ad 0 0), .int x1, .int x2, .int x3, .int x4] 20 400 (OPo (v) st B ad A) (fun _ _ => False)) : CT mL_act (d + 1) b0 G [.ref (ad 0 0), .int 6, .int x1, .int x2, .int x3, .int x4] 20 400 (OPo (v) st B ad A) (fun _ _ => False) := by
  refine CT.introW (by decide +kernel) (List.cons_ne_nil _ _) (Nat.le_of_ble_eq_true rfl) ?_
  show WP mL_act _ _ _ _ _ 20 400 0 [(0, .ref (ad 0 0)), (1, .int 6), (2, .int x1), (3, .int x2), (4, .int x3), (5, .int x4)] []
  refine r_iload_n dL_act_0 rfl 1 rfl ?_
  refine r_if_ne 13 dL_act_1 (by decide) (fun c_1 => ?_) (fun c_1 => absurd c_1 (by decide))
  refine r_iload_n dL_act_13 rfl 1 rfl ?_
  refine r_iconst (v := 1) dL_act_14 (by decide) ?_
  refine r_icmp_ne 25 dL_act_15 (by decide) (fun c_2 => ?_) (fun c_2 => absurd c_2 (by decide))
  refine r_iload_n dL_act_25 rfl 1 rfl ?_
  refine r_iconst (v := 2) dL_act_26 (by decide) ?_
  refine r_icmp_ne 41 dL_act_27 (by decide) (fun c_3 => ?_) (fun c_3 => absurd c_3 (by decide))
  refine r_iload_n dL_act_41 rfl 1 rfl ?_
  refine r_iconst (v := 3) dL_act_42 (by decide) ?_
  refine r_icmp_ne 54 dL_act_43 (by decide) (fun c_4 => ?_) (fun c_4 => absurd c_4 (by decide))
  refine r_iload_n dL_act_54 rfl 1 rfl ?_
  refine r_iconst (v := 4) dL_act_55 (by decide) ?_
  refine r_icmp_ne 68 dL_act_56 (by decide) (fun c_5 => ?_) (fun c_5 => absurd c_5 (by decide))
  refine r_iload_n dL_act_68 rfl 1 rfl ?_
  refine r_iconst (v := 5) dL_act_69 (by decide) ?_
  refine r_icmp_ne 90 dL_act_70 (by decide) (fun c_6 => ?_) (fun c_6 => absurd c_6 (by decide))
  refine r_iload_n dL_act_90 rfl 1 rfl ?_
  refine r_bipush (v := 6) dL_act_91 (by decide) ?_
  refine r_icmp_ne 109 dL_act_93 (by decide) (fun c_7 => absurd (by decide) c_7) (fun c_7 => ?_)
  refine r_aload_n dL_act_96 rfl 0 rfl ?_
  refine r_iload_n dL_act_97 rfl 2 rfl ?_
  refine r_iload_n dL_act_98 rfl 3 rfl ?_
  refine r_iload dL_act_99 4 rfl ?_
  refine r_iload dL_act_101 5 rfl ?_
  refine r_callV (st := []) [.int x1, .int x2, .int x3, .int x4] 0 0 dL_act_103 kX8_relate nX8_relate lRL_35 (hW.g 0 0 rfl) rfl hC rfl rfl (Nat.le_of_ble_eq_true rfl) (Nat.le_of_ble_eq_true rfl) (Nat.le_of_ble_eq_true rfl) (fun _ _ h => h.elim) ?_
  intro r G9 hr
  obtain ⟨rfl, A9, ad9, hW9, hk9, hP9, hf9⟩ := hr
  show WP mL_act _ _ _ _ _ _ _ 106 [(0, .ref (ad 0 0)), (1, .int 6), (2, .int x1), (3, .int x2), (4, .int x3), (5, .int x4)] [.int v]
  refine r_goto 286 dL_act_106 (by decide) ?_
  refine r_ireti dL_act_286 rfl ?_
  exact ⟨rfl, A9, ad9, hW9, hk9, hP9, hf9⟩
set_option maxRecDepth 100000 in
set_option maxHeartbeats 4000000 in
theorem a_relate_1 {d b0 : Nat} {G : GH} {A B : ST} {ad : AD} (hW : World A B ad G) {x1 x2 x3 x4 : Int32} (hC : CT mX8_relate d b0 G [.ref (ad 0 0), .int x1, .int x2, .int x3, .int x4] 20 400 (fun _ _ => False) (fun E G' => E = "java/lang/IndexOutOfBoundsException" ∧ G' = G)) : CT mL_act (d + 1) b0 G [.ref (ad 0 0), .int 6, .int x1, .int x2, .int x3, .int x4] 20 400 (fun r G' => r = some (.int (-1661000)) ∧ G' = G) (fun _ _ => False) := by
  refine CT.introW (by decide +kernel) (List.cons_ne_nil _ _) (Nat.le_of_ble_eq_true rfl) ?_
  show WP mL_act _ _ _ _ _ 20 400 0 [(0, .ref (ad 0 0)), (1, .int 6), (2, .int x1), (3, .int x2), (4, .int x3), (5, .int x4)] []
  refine r_iload_n dL_act_0 rfl 1 rfl ?_
  refine r_if_ne 13 dL_act_1 (by decide) (fun c_1 => ?_) (fun c_1 => absurd c_1 (by decide))
  refine r_iload_n dL_act_13 rfl 1 rfl ?_
  refine r_iconst (v := 1) dL_act_14 (by decide) ?_
  refine r_icmp_ne 25 dL_act_15 (by decide) (fun c_2 => ?_) (fun c_2 => absurd c_2 (by decide))
  refine r_iload_n dL_act_25 rfl 1 rfl ?_
  refine r_iconst (v := 2) dL_act_26 (by decide) ?_
  refine r_icmp_ne 41 dL_act_27 (by decide) (fun c_3 => ?_) (fun c_3 => absurd c_3 (by decide))
  refine r_iload_n dL_act_41 rfl 1 rfl ?_
  refine r_iconst (v := 3) dL_act_42 (by decide) ?_
  refine r_icmp_ne 54 dL_act_43 (by decide) (fun c_4 => ?_) (fun c_4 => absurd c_4 (by decide))
  refine r_iload_n dL_act_54 rfl 1 rfl ?_
  refine r_iconst (v := 4) dL_act_55 (by decide) ?_
  refine r_icmp_ne 68 dL_act_56 (by decide) (fun c_5 => ?_) (fun c_5 => absurd c_5 (by decide))
  refine r_iload_n dL_act_68 rfl 1 rfl ?_
  refine r_iconst (v := 5) dL_act_69 (by decide) ?_
  refine r_icmp_ne 90 dL_act_70 (by decide) (fun c_6 => ?_) (fun c_6 => absurd c_6 (by decide))
  refine r_iload_n dL_act_90 rfl 1 rfl ?_
  refine r_bipush (v := 6) dL_act_91 (by decide) ?_
  refine r_icmp_ne 109 dL_act_93 (by decide) (fun c_7 => absurd (by decide) c_7) (fun c_7 => ?_)
  refine r_aload_n dL_act_96 rfl 0 rfl ?_
  refine r_iload_n dL_act_97 rfl 2 rfl ?_
  refine r_iload_n dL_act_98 rfl 3 rfl ?_
  refine r_iload dL_act_99 4 rfl ?_
  refine r_iload dL_act_101 5 rfl ?_
  have hx9 : ∀ (E9 : String) (G9 : GH), (E9 = "java/lang/IndexOutOfBoundsException" ∧ G9 = G) → WX mL_act (d + 1) b0 (fun r G' => r = some (.int (-1661000)) ∧ G' = G) (fun _ _ => False) G9 0 0 103 [(0, .ref (ad 0 0)), (1, .int 6), (2, .int x1), (3, .int x2), (4, .int x3), (5, .int x4)] E9 := by
    intro E9 G9 hx
    obtain ⟨rfl, rfl⟩ := hx
    refine r_catch [] ⟨0, 286, 287, 74⟩ [⟨0, 286, 292, 77⟩, ⟨0, 286, 297, 80⟩] rfl (fun z hz => by cases hz) (by decide) (by decide) t_201 (by decide +kernel) (fun q => ?_)
    show WP mL_act _ _ _ _ _ _ _ 287 [(0, .ref (ad 0 0)), (1, .int 6), (2, .int x1), (3, .int x2), (4, .int x3), (5, .int x4)] [.ref q]
    refine r_astore [(6, .ref q), (0, .ref (ad 0 0)), (1, .int 6), (2, .int x1), (3, .int x2), (4, .int x3), (5, .int x4)] dL_act_287 (by decide) rfl ?_
    refine r_ldc dL_act_289 con_76 ?_
    refine r_ireti dL_act_291 rfl ?_
    exact ⟨rfl, rfl⟩
  refine r_callV (st := []) [.int x1, .int x2, .int x3, .int x4] 0 0 dL_act_103 kX8_relate nX8_relate lRL_35 (hW.g 0 0 rfl) rfl hC rfl rfl (Nat.le_of_ble_eq_true rfl) (Nat.le_of_ble_eq_true rfl) (Nat.le_of_ble_eq_true rfl) hx9 ?_
  intro r G9 hr
  exact hr.elim
set_option maxRecDepth 100000 in
set_option maxHeartbeats 4000000 in
theorem a_relate_2 {d b0 : Nat} {G : GH} {A B : ST} {ad : AD} (hW : World A B ad G) {x1 x2 x3 x4 : Int32} (hC : CT mX8_relate d b0 G [.ref (ad 0 0), .int x1, .int x2, .int x3, .int x4] 20 400 (fun _ _ => False) (fun E G' => E = "java/lang/IllegalArgumentException" ∧ G' = G)) : CT mL_act (d + 1) b0 G [.ref (ad 0 0), .int 6, .int x1, .int x2, .int x3, .int x4] 20 400 (fun r G' => r = some (.int (-1662000)) ∧ G' = G) (fun _ _ => False) := by
  refine CT.introW (by decide +kernel) (List.cons_ne_nil _ _) (Nat.le_of_ble_eq_true rfl) ?_
  show WP mL_act _ _ _ _ _ 20 400 0 [(0, .ref (ad 0 0)), (1, .int 6), (2, .int x1), (3, .int x2), (4, .int x3), (5, .int x4)] []
  refine r_iload_n dL_act_0 rfl 1 rfl ?_
  refine r_if_ne 13 dL_act_1 (by decide) (fun c_1 => ?_) (fun c_1 => absurd c_1 (by decide))
  refine r_iload_n dL_act_13 rfl 1 rfl ?_
  refine r_iconst (v := 1) dL_act_14 (by decide) ?_
  refine r_icmp_ne 25 dL_act_15 (by decide) (fun c_2 => ?_) (fun c_2 => absurd c_2 (by decide))
  refine r_iload_n dL_act_25 rfl 1 rfl ?_
  refine r_iconst (v := 2) dL_act_26 (by decide) ?_
  refine r_icmp_ne 41 dL_act_27 (by decide) (fun c_3 => ?_) (fun c_3 => absurd c_3 (by decide))
  refine r_iload_n dL_act_41 rfl 1 rfl ?_
  refine r_iconst (v := 3) dL_act_42 (by decide) ?_
  refine r_icmp_ne 54 dL_act_43 (by decide) (fun c_4 => ?_) (fun c_4 => absurd c_4 (by decide))
  refine r_iload_n dL_act_54 rfl 1 rfl ?_
  refine r_iconst (v := 4) dL_act_55 (by decide) ?_
  refine r_icmp_ne 68 dL_act_56 (by decide) (fun c_5 => ?_) (fun c_5 => absurd c_5 (by decide))
  refine r_iload_n dL_act_68 rfl 1 rfl ?_
  refine r_iconst (v := 5) dL_act_69 (by decide) ?_
  refine r_icmp_ne 90 dL_act_70 (by decide) (fun c_6 => ?_) (fun c_6 => absurd c_6 (by decide))
  refine r_iload_n dL_act_90 rfl 1 rfl ?_
  refine r_bipush (v := 6) dL_act_91 (by decide) ?_
  refine r_icmp_ne 109 dL_act_93 (by decide) (fun c_7 => absurd (by decide) c_7) (fun c_7 => ?_)
  refine r_aload_n dL_act_96 rfl 0 rfl ?_
  refine r_iload_n dL_act_97 rfl 2 rfl ?_
  refine r_iload_n dL_act_98 rfl 3 rfl ?_
  refine r_iload dL_act_99 4 rfl ?_
  refine r_iload dL_act_101 5 rfl ?_
  have hx9 : ∀ (E9 : String) (G9 : GH), (E9 = "java/lang/IllegalArgumentException" ∧ G9 = G) → WX mL_act (d + 1) b0 (fun r G' => r = some (.int (-1662000)) ∧ G' = G) (fun _ _ => False) G9 0 0 103 [(0, .ref (ad 0 0)), (1, .int 6), (2, .int x1), (3, .int x2), (4, .int x3), (5, .int x4)] E9 := by
    intro E9 G9 hx
    obtain ⟨rfl, rfl⟩ := hx
    refine r_catch [⟨0, 286, 287, 74⟩] ⟨0, 286, 292, 77⟩ [⟨0, 286, 297, 80⟩] rfl (fun z hz => by
      simp only [List.mem_cons, List.not_mem_nil, or_false] at hz
      rw [hz]; exact ⟨by decide, "java/lang/IndexOutOfBoundsException", t_201, by decide +kernel⟩) (by decide) (by decide) t_202 (by decide +kernel) (fun q => ?_)
    show WP mL_act _ _ _ _ _ _ _ 292 [(0, .ref (ad 0 0)), (1, .int 6), (2, .int x1), (3, .int x2), (4, .int x3), (5, .int x4)] [.ref q]
    refine r_astore [(6, .ref q), (0, .ref (ad 0 0)), (1, .int 6), (2, .int x1), (3, .int x2), (4, .int x3), (5, .int x4)] dL_act_292 (by decide) rfl ?_
    refine r_ldc dL_act_294 con_79 ?_
    refine r_ireti dL_act_296 rfl ?_
    exact ⟨rfl, rfl⟩
  refine r_callV (st := []) [.int x1, .int x2, .int x3, .int x4] 0 0 dL_act_103 kX8_relate nX8_relate lRL_35 (hW.g 0 0 rfl) rfl hC rfl rfl (Nat.le_of_ble_eq_true rfl) (Nat.le_of_ble_eq_true rfl) (Nat.le_of_ble_eq_true rfl) hx9 ?_
  intro r G9 hr
  exact hr.elim
set_option maxRecDepth 100000 in
set_option maxHeartbeats 4000000 in
theorem a_isLinked_0 {d b0 : Nat} {G : GH} {A B : ST} {ad : AD} (hW : World A B ad G) {st : ST} {b : Bool} {x1 x2 x3 x4 : Int32} (hC : CT mX8_isLinked d b0 G [.ref (ad 0 0), .int x1] 20 400 (OPo (b2i b) st B ad A) (fun _ _ => False)) : CT mL_act (d + 1) b0 G [.ref (ad 0 0), .int 7, .int x1, .int x2, .int x3, .int x4] 20 400 (OPo (b2i b) st B ad A) (fun _ _ => False) := by
  refine CT.introW (by decide +kernel) (List.cons_ne_nil _ _) (Nat.le_of_ble_eq_true rfl) ?_
  show WP mL_act _ _ _ _ _ 20 400 0 [(0, .ref (ad 0 0)), (1, .int 7), (2, .int x1), (3, .int x2), (4, .int x3), (5, .int x4)] []
  refine r_iload_n dL_act_0 rfl 1 rfl ?_
  refine r_if_ne 13 dL_act_1 (by decide) (fun c_1 => ?_) (fun c_1 => absurd c_1 (by decide))
  refine r_iload_n dL_act_13 rfl 1 rfl ?_
  refine r_iconst (v := 1) dL_act_14 (by decide) ?_
  refine r_icmp_ne 25 dL_act_15 (by decide) (fun c_2 => ?_) (fun c_2 => absurd c_2 (by decide))
  refine r_iload_n dL_act_25 rfl 1 rfl ?_
  refine r_iconst (v := 2) dL_act_26 (by decide) ?_
  refine r_icmp_ne 41 dL_act_27 (by decide) (fun c_3 => ?_) (fun c_3 => absurd c_3 (by decide))
  refine r_iload_n dL_act_41 rfl 1 rfl ?_
  refine r_iconst (v := 3) dL_act_42 (by decide) ?_
  refine r_icmp_ne 54 dL_act_43 (by decide) (fun c_4 => ?_) (fun c_4 => absurd c_4 (by decide))
  refine r_iload_n dL_act_54 rfl 1 rfl ?_
  refine r_iconst (v := 4) dL_act_55 (by decide) ?_
  refine r_icmp_ne 68 dL_act_56 (by decide) (fun c_5 => ?_) (fun c_5 => absurd c_5 (by decide))
  refine r_iload_n dL_act_68 rfl 1 rfl ?_
  refine r_iconst (v := 5) dL_act_69 (by decide) ?_
  refine r_icmp_ne 90 dL_act_70 (by decide) (fun c_6 => ?_) (fun c_6 => absurd c_6 (by decide))
  refine r_iload_n dL_act_90 rfl 1 rfl ?_
  refine r_bipush (v := 6) dL_act_91 (by decide) ?_
  refine r_icmp_ne 109 dL_act_93 (by decide) (fun c_7 => ?_) (fun c_7 => absurd c_7 (by decide))
  refine r_iload_n dL_act_109 rfl 1 rfl ?_
  refine r_bipush (v := 7) dL_act_110 (by decide) ?_
  refine r_icmp_ne 131 dL_act_112 (by decide) (fun c_8 => absurd (by decide) c_8) (fun c_8 => ?_)
  refine r_aload_n dL_act_115 rfl 0 rfl ?_
  refine r_iload_n dL_act_116 rfl 2 rfl ?_
  refine r_callV (st := []) [.int x1] 0 0 dL_act_117 kX8_isLinked nX8_isLinked lRL_39 (hW.g 0 0 rfl) rfl hC rfl rfl (Nat.le_of_ble_eq_true rfl) (Nat.le_of_ble_eq_true rfl) (Nat.le_of_ble_eq_true rfl) (fun _ _ h => h.elim) ?_
  intro r G9 hr
  obtain ⟨rfl, A9, ad9, hW9, hk9, hP9, hf9⟩ := hr
  show WP mL_act _ _ _ _ _ _ _ 120 [(0, .ref (ad 0 0)), (1, .int 7), (2, .int x1), (3, .int x2), (4, .int x3), (5, .int x4)] [.int (b2i b)]
  refine r_if_eq 127 dL_act_120 (by decide) (fun c_9 => ?_) (fun c_9 => ?_)
  · refine r_iconst (v := 0) dL_act_127 (by decide) ?_
    refine r_goto 286 dL_act_128 (by decide) ?_
    refine r_ireti dL_act_286 rfl ?_
    have hb : b = false := b2i_e0 c_9
    exact ⟨by rw [hb]; rfl, A9, ad9, hW9, hk9, hP9, hf9⟩
  · refine r_iconst (v := 1) dL_act_123 (by decide) ?_
    refine r_goto 286 dL_act_124 (by decide) ?_
    refine r_ireti dL_act_286 rfl ?_
    have hb : b = true := b2i_ne0 c_9
    exact ⟨by rw [hb]; rfl, A9, ad9, hW9, hk9, hP9, hf9⟩
set_option maxRecDepth 100000 in
set_option maxHeartbeats 4000000 in
theorem a_isLinked_1 {d b0 : Nat} {G : GH} {A B : ST} {ad : AD} (hW : World A B ad G) {x1 x2 x3 x4 : Int32} (hC : CT mX8_isLinked d b0 G [.ref (ad 0 0), .int x1] 20 400 (fun _ _ => False) (fun E G' => E = "java/lang/IndexOutOfBoundsException" ∧ G' = G)) : CT mL_act (d + 1) b0 G [.ref (ad 0 0), .int 7, .int x1, .int x2, .int x3, .int x4] 20 400 (fun r G' => r = some (.int (-1661000)) ∧ G' = G) (fun _ _ => False) := by
  refine CT.introW (by decide +kernel) (List.cons_ne_nil _ _) (Nat.le_of_ble_eq_true rfl) ?_
  show WP mL_act _ _ _ _ _ 20 400 0 [(0, .ref (ad 0 0)), (1, .int 7), (2, .int x1), (3, .int x2), (4, .int x3), (5, .int x4)] []
  refine r_iload_n dL_act_0 rfl 1 rfl ?_
  refine r_if_ne 13 dL_act_1 (by decide) (fun c_1 => ?_) (fun c_1 => absurd c_1 (by decide))
  refine r_iload_n dL_act_13 rfl 1 rfl ?_
  refine r_iconst (v := 1) dL_act_14 (by decide) ?_
  refine r_icmp_ne 25 dL_act_15 (by decide) (fun c_2 => ?_) (fun c_2 => absurd c_2 (by decide))
  refine r_iload_n dL_act_25 rfl 1 rfl ?_
  refine r_iconst (v := 2) dL_act_26 (by decide) ?_
  refine r_icmp_ne 41 dL_act_27 (by decide) (fun c_3 => ?_) (fun c_3 => absurd c_3 (by decide))
  refine r_iload_n dL_act_41 rfl 1 rfl ?_
  refine r_iconst (v := 3) dL_act_42 (by decide) ?_
  refine r_icmp_ne 54 dL_act_43 (by decide) (fun c_4 => ?_) (fun c_4 => absurd c_4 (by decide))
  refine r_iload_n dL_act_54 rfl 1 rfl ?_
  refine r_iconst (v := 4) dL_act_55 (by decide) ?_
  refine r_icmp_ne 68 dL_act_56 (by decide) (fun c_5 => ?_) (fun c_5 => absurd c_5 (by decide))
  refine r_iload_n dL_act_68 rfl 1 rfl ?_
  refine r_iconst (v := 5) dL_act_69 (by decide) ?_
  refine r_icmp_ne 90 dL_act_70 (by decide) (fun c_6 => ?_) (fun c_6 => absurd c_6 (by decide))
  refine r_iload_n dL_act_90 rfl 1 rfl ?_
  refine r_bipush (v := 6) dL_act_91 (by decide) ?_
  refine r_icmp_ne 109 dL_act_93 (by decide) (fun c_7 => ?_) (fun c_7 => absurd c_7 (by decide))
  refine r_iload_n dL_act_109 rfl 1 rfl ?_
  refine r_bipush (v := 7) dL_act_110 (by decide) ?_
  refine r_icmp_ne 131 dL_act_112 (by decide) (fun c_8 => absurd (by decide) c_8) (fun c_8 => ?_)
  refine r_aload_n dL_act_115 rfl 0 rfl ?_
  refine r_iload_n dL_act_116 rfl 2 rfl ?_
  have hx9 : ∀ (E9 : String) (G9 : GH), (E9 = "java/lang/IndexOutOfBoundsException" ∧ G9 = G) → WX mL_act (d + 1) b0 (fun r G' => r = some (.int (-1661000)) ∧ G' = G) (fun _ _ => False) G9 0 0 117 [(0, .ref (ad 0 0)), (1, .int 7), (2, .int x1), (3, .int x2), (4, .int x3), (5, .int x4)] E9 := by
    intro E9 G9 hx
    obtain ⟨rfl, rfl⟩ := hx
    refine r_catch [] ⟨0, 286, 287, 74⟩ [⟨0, 286, 292, 77⟩, ⟨0, 286, 297, 80⟩] rfl (fun z hz => by cases hz) (by decide) (by decide) t_201 (by decide +kernel) (fun q => ?_)
    show WP mL_act _ _ _ _ _ _ _ 287 [(0, .ref (ad 0 0)), (1, .int 7), (2, .int x1), (3, .int x2), (4, .int x3), (5, .int x4)] [.ref q]
    refine r_astore [(6, .ref q), (0, .ref (ad 0 0)), (1, .int 7), (2, .int x1), (3, .int x2), (4, .int x3), (5, .int x4)] dL_act_287 (by decide) rfl ?_
    refine r_ldc dL_act_289 con_76 ?_
    refine r_ireti dL_act_291 rfl ?_
    exact ⟨rfl, rfl⟩
  refine r_callV (st := []) [.int x1] 0 0 dL_act_117 kX8_isLinked nX8_isLinked lRL_39 (hW.g 0 0 rfl) rfl hC rfl rfl (Nat.le_of_ble_eq_true rfl) (Nat.le_of_ble_eq_true rfl) (Nat.le_of_ble_eq_true rfl) hx9 ?_
  intro r G9 hr
  exact hr.elim
set_option maxRecDepth 100000 in
set_option maxHeartbeats 4000000 in
theorem a_letter_0 {d b0 : Nat} {G : GH} {A B : ST} {ad : AD} (hW : World A B ad G) {st : ST} {v : Int32} {x1 x2 x3 x4 : Int32} (hC : CT mX8_letter d b0 G [.ref (ad 0 0)] 20 400 (OPo (v) st B ad A) (fun _ _ => False)) : CT mL_act (d + 1) b0 G [.ref (ad 0 0), .int 8, .int x1, .int x2, .int x3, .int x4] 20 400 (OPo (v) st B ad A) (fun _ _ => False) := by
  refine CT.introW (by decide +kernel) (List.cons_ne_nil _ _) (Nat.le_of_ble_eq_true rfl) ?_
  show WP mL_act _ _ _ _ _ 20 400 0 [(0, .ref (ad 0 0)), (1, .int 8), (2, .int x1), (3, .int x2), (4, .int x3), (5, .int x4)] []
  refine r_iload_n dL_act_0 rfl 1 rfl ?_
  refine r_if_ne 13 dL_act_1 (by decide) (fun c_1 => ?_) (fun c_1 => absurd c_1 (by decide))
  refine r_iload_n dL_act_13 rfl 1 rfl ?_
  refine r_iconst (v := 1) dL_act_14 (by decide) ?_
  refine r_icmp_ne 25 dL_act_15 (by decide) (fun c_2 => ?_) (fun c_2 => absurd c_2 (by decide))
  refine r_iload_n dL_act_25 rfl 1 rfl ?_
  refine r_iconst (v := 2) dL_act_26 (by decide) ?_
  refine r_icmp_ne 41 dL_act_27 (by decide) (fun c_3 => ?_) (fun c_3 => absurd c_3 (by decide))
  refine r_iload_n dL_act_41 rfl 1 rfl ?_
  refine r_iconst (v := 3) dL_act_42 (by decide) ?_
  refine r_icmp_ne 54 dL_act_43 (by decide) (fun c_4 => ?_) (fun c_4 => absurd c_4 (by decide))
  refine r_iload_n dL_act_54 rfl 1 rfl ?_
  refine r_iconst (v := 4) dL_act_55 (by decide) ?_
  refine r_icmp_ne 68 dL_act_56 (by decide) (fun c_5 => ?_) (fun c_5 => absurd c_5 (by decide))
  refine r_iload_n dL_act_68 rfl 1 rfl ?_
  refine r_iconst (v := 5) dL_act_69 (by decide) ?_
  refine r_icmp_ne 90 dL_act_70 (by decide) (fun c_6 => ?_) (fun c_6 => absurd c_6 (by decide))
  refine r_iload_n dL_act_90 rfl 1 rfl ?_
  refine r_bipush (v := 6) dL_act_91 (by decide) ?_
  refine r_icmp_ne 109 dL_act_93 (by decide) (fun c_7 => ?_) (fun c_7 => absurd c_7 (by decide))
  refine r_iload_n dL_act_109 rfl 1 rfl ?_
  refine r_bipush (v := 7) dL_act_110 (by decide) ?_
  refine r_icmp_ne 131 dL_act_112 (by decide) (fun c_8 => ?_) (fun c_8 => absurd c_8 (by decide))
  refine r_iload_n dL_act_131 rfl 1 rfl ?_
  refine r_bipush (v := 8) dL_act_132 (by decide) ?_
  refine r_icmp_ne 144 dL_act_134 (by decide) (fun c_9 => absurd (by decide) c_9) (fun c_9 => ?_)
  refine r_aload_n dL_act_137 rfl 0 rfl ?_
  refine r_callV (st := []) [] 0 0 dL_act_138 kX8_letter nX8_letter lRL_43 (hW.g 0 0 rfl) rfl hC rfl rfl (Nat.le_of_ble_eq_true rfl) (Nat.le_of_ble_eq_true rfl) (Nat.le_of_ble_eq_true rfl) (fun _ _ h => h.elim) ?_
  intro r G9 hr
  obtain ⟨rfl, A9, ad9, hW9, hk9, hP9, hf9⟩ := hr
  show WP mL_act _ _ _ _ _ _ _ 141 [(0, .ref (ad 0 0)), (1, .int 8), (2, .int x1), (3, .int x2), (4, .int x3), (5, .int x4)] [.int v]
  refine r_goto 286 dL_act_141 (by decide) ?_
  refine r_ireti dL_act_286 rfl ?_
  exact ⟨rfl, A9, ad9, hW9, hk9, hP9, hf9⟩
set_option maxRecDepth 100000 in
set_option maxHeartbeats 4000000 in
theorem a_letter_3 {d b0 : Nat} {G : GH} {A B : ST} {ad : AD} (hW : World A B ad G) {x1 x2 x3 x4 : Int32} (hC : CT mX8_letter d b0 G [.ref (ad 0 0)] 20 400 (fun _ _ => False) (fun E G' => E = "java/lang/IllegalStateException" ∧ G' = G)) : CT mL_act (d + 1) b0 G [.ref (ad 0 0), .int 8, .int x1, .int x2, .int x3, .int x4] 20 400 (fun r G' => r = some (.int (-1663000)) ∧ G' = G) (fun _ _ => False) := by
  refine CT.introW (by decide +kernel) (List.cons_ne_nil _ _) (Nat.le_of_ble_eq_true rfl) ?_
  show WP mL_act _ _ _ _ _ 20 400 0 [(0, .ref (ad 0 0)), (1, .int 8), (2, .int x1), (3, .int x2), (4, .int x3), (5, .int x4)] []
  refine r_iload_n dL_act_0 rfl 1 rfl ?_
  refine r_if_ne 13 dL_act_1 (by decide) (fun c_1 => ?_) (fun c_1 => absurd c_1 (by decide))
  refine r_iload_n dL_act_13 rfl 1 rfl ?_
  refine r_iconst (v := 1) dL_act_14 (by decide) ?_
  refine r_icmp_ne 25 dL_act_15 (by decide) (fun c_2 => ?_) (fun c_2 => absurd c_2 (by decide))
  refine r_iload_n dL_act_25 rfl 1 rfl ?_
  refine r_iconst (v := 2) dL_act_26 (by decide) ?_
  refine r_icmp_ne 41 dL_act_27 (by decide) (fun c_3 => ?_) (fun c_3 => absurd c_3 (by decide))
  refine r_iload_n dL_act_41 rfl 1 rfl ?_
  refine r_iconst (v := 3) dL_act_42 (by decide) ?_
  refine r_icmp_ne 54 dL_act_43 (by decide) (fun c_4 => ?_) (fun c_4 => absurd c_4 (by decide))
  refine r_iload_n dL_act_54 rfl 1 rfl ?_
  refine r_iconst (v := 4) dL_act_55 (by decide) ?_
  refine r_icmp_ne 68 dL_act_56 (by decide) (fun c_5 => ?_) (fun c_5 => absurd c_5 (by decide))
  refine r_iload_n dL_act_68 rfl 1 rfl ?_
  refine r_iconst (v := 5) dL_act_69 (by decide) ?_
  refine r_icmp_ne 90 dL_act_70 (by decide) (fun c_6 => ?_) (fun c_6 => absurd c_6 (by decide))
  refine r_iload_n dL_act_90 rfl 1 rfl ?_
  refine r_bipush (v := 6) dL_act_91 (by decide) ?_
  refine r_icmp_ne 109 dL_act_93 (by decide) (fun c_7 => ?_) (fun c_7 => absurd c_7 (by decide))
  refine r_iload_n dL_act_109 rfl 1 rfl ?_
  refine r_bipush (v := 7) dL_act_110 (by decide) ?_
  refine r_icmp_ne 131 dL_act_112 (by decide) (fun c_8 => ?_) (fun c_8 => absurd c_8 (by decide))
  refine r_iload_n dL_act_131 rfl 1 rfl ?_
  refine r_bipush (v := 8) dL_act_132 (by decide) ?_
  refine r_icmp_ne 144 dL_act_134 (by decide) (fun c_9 => absurd (by decide) c_9) (fun c_9 => ?_)
  refine r_aload_n dL_act_137 rfl 0 rfl ?_
  have hx9 : ∀ (E9 : String) (G9 : GH), (E9 = "java/lang/IllegalStateException" ∧ G9 = G) → WX mL_act (d + 1) b0 (fun r G' => r = some (.int (-1663000)) ∧ G' = G) (fun _ _ => False) G9 0 0 138 [(0, .ref (ad 0 0)), (1, .int 8), (2, .int x1), (3, .int x2), (4, .int x3), (5, .int x4)] E9 := by
    intro E9 G9 hx
    obtain ⟨rfl, rfl⟩ := hx
    refine r_catch [⟨0, 286, 287, 74⟩, ⟨0, 286, 292, 77⟩] ⟨0, 286, 297, 80⟩ [] rfl (fun z hz => by
      simp only [List.mem_cons, List.not_mem_nil, or_false] at hz
      rcases hz with hz | hz
      · rw [hz]; exact ⟨by decide, "java/lang/IndexOutOfBoundsException", t_201, by decide +kernel⟩
      · rw [hz]; exact ⟨by decide, "java/lang/IllegalArgumentException", t_202, by decide +kernel⟩) (by decide) (by decide) t_203 (by decide +kernel) (fun q => ?_)
    show WP mL_act _ _ _ _ _ _ _ 297 [(0, .ref (ad 0 0)), (1, .int 8), (2, .int x1), (3, .int x2), (4, .int x3), (5, .int x4)] [.ref q]
    refine r_astore [(6, .ref q), (0, .ref (ad 0 0)), (1, .int 8), (2, .int x1), (3, .int x2), (4, .int x3), (5, .int x4)] dL_act_297 (by decide) rfl ?_
    refine r_ldc dL_act_299 con_82 ?_
    refine r_ireti dL_act_301 rfl ?_
    exact ⟨rfl, rfl⟩
  refine r_callV (st := []) [] 0 0 dL_act_138 kX8_letter nX8_letter lRL_43 (hW.g 0 0 rfl) rfl hC rfl rfl (Nat.le_of_ble_eq_true rfl) (Nat.le_of_ble_eq_true rfl) (Nat.le_of_ble_eq_true rfl) hx9 ?_
  intro r G9 hr
  exact hr.elim
set_option maxRecDepth 100000 in
set_option maxHeartbeats 4000000 in
theorem a_put_0 {d b0 : Nat} {G : GH} {A B : ST} {ad : AD} (hW : World A B ad G) {st : ST} {v : Int32} {x1 x2 x3 x4 : Int32} (hC : CT mX8_put d b0 G [.ref (ad 0 0), .int x1, .int x2] 20 400 (OPo (v) st B ad A) (fun _ _ => False)) : CT mL_act (d + 1) b0 G [.ref (ad 0 0), .int 9, .int x1, .int x2, .int x3, .int x4] 20 400 (OPo (v) st B ad A) (fun _ _ => False) := by
  refine CT.introW (by decide +kernel) (List.cons_ne_nil _ _) (Nat.le_of_ble_eq_true rfl) ?_
  show WP mL_act _ _ _ _ _ 20 400 0 [(0, .ref (ad 0 0)), (1, .int 9), (2, .int x1), (3, .int x2), (4, .int x3), (5, .int x4)] []
  refine r_iload_n dL_act_0 rfl 1 rfl ?_
  refine r_if_ne 13 dL_act_1 (by decide) (fun c_1 => ?_) (fun c_1 => absurd c_1 (by decide))
  refine r_iload_n dL_act_13 rfl 1 rfl ?_
  refine r_iconst (v := 1) dL_act_14 (by decide) ?_
  refine r_icmp_ne 25 dL_act_15 (by decide) (fun c_2 => ?_) (fun c_2 => absurd c_2 (by decide))
  refine r_iload_n dL_act_25 rfl 1 rfl ?_
  refine r_iconst (v := 2) dL_act_26 (by decide) ?_
  refine r_icmp_ne 41 dL_act_27 (by decide) (fun c_3 => ?_) (fun c_3 => absurd c_3 (by decide))
  refine r_iload_n dL_act_41 rfl 1 rfl ?_
  refine r_iconst (v := 3) dL_act_42 (by decide) ?_
  refine r_icmp_ne 54 dL_act_43 (by decide) (fun c_4 => ?_) (fun c_4 => absurd c_4 (by decide))
  refine r_iload_n dL_act_54 rfl 1 rfl ?_
  refine r_iconst (v := 4) dL_act_55 (by decide) ?_
  refine r_icmp_ne 68 dL_act_56 (by decide) (fun c_5 => ?_) (fun c_5 => absurd c_5 (by decide))
  refine r_iload_n dL_act_68 rfl 1 rfl ?_
  refine r_iconst (v := 5) dL_act_69 (by decide) ?_
  refine r_icmp_ne 90 dL_act_70 (by decide) (fun c_6 => ?_) (fun c_6 => absurd c_6 (by decide))
  refine r_iload_n dL_act_90 rfl 1 rfl ?_
  refine r_bipush (v := 6) dL_act_91 (by decide) ?_
  refine r_icmp_ne 109 dL_act_93 (by decide) (fun c_7 => ?_) (fun c_7 => absurd c_7 (by decide))
  refine r_iload_n dL_act_109 rfl 1 rfl ?_
  refine r_bipush (v := 7) dL_act_110 (by decide) ?_
  refine r_icmp_ne 131 dL_act_112 (by decide) (fun c_8 => ?_) (fun c_8 => absurd c_8 (by decide))
  refine r_iload_n dL_act_131 rfl 1 rfl ?_
  refine r_bipush (v := 8) dL_act_132 (by decide) ?_
  refine r_icmp_ne 144 dL_act_134 (by decide) (fun c_9 => ?_) (fun c_9 => absurd c_9 (by decide))
  refine r_iload_n dL_act_144 rfl 1 rfl ?_
  refine r_bipush (v := 9) dL_act_145 (by decide) ?_
  refine r_icmp_ne 159 dL_act_147 (by decide) (fun c_10 => absurd (by decide) c_10) (fun c_10 => ?_)
  refine r_aload_n dL_act_150 rfl 0 rfl ?_
  refine r_iload_n dL_act_151 rfl 2 rfl ?_
  refine r_iload_n dL_act_152 rfl 3 rfl ?_
  refine r_callV (st := []) [.int x1, .int x2] 0 0 dL_act_153 kX8_put nX8_put lRL_46 (hW.g 0 0 rfl) rfl hC rfl rfl (Nat.le_of_ble_eq_true rfl) (Nat.le_of_ble_eq_true rfl) (Nat.le_of_ble_eq_true rfl) (fun _ _ h => h.elim) ?_
  intro r G9 hr
  obtain ⟨rfl, A9, ad9, hW9, hk9, hP9, hf9⟩ := hr
  show WP mL_act _ _ _ _ _ _ _ 156 [(0, .ref (ad 0 0)), (1, .int 9), (2, .int x1), (3, .int x2), (4, .int x3), (5, .int x4)] [.int v]
  refine r_goto 286 dL_act_156 (by decide) ?_
  refine r_ireti dL_act_286 rfl ?_
  exact ⟨rfl, A9, ad9, hW9, hk9, hP9, hf9⟩
set_option maxRecDepth 100000 in
set_option maxHeartbeats 4000000 in
theorem a_put_1 {d b0 : Nat} {G : GH} {A B : ST} {ad : AD} (hW : World A B ad G) {x1 x2 x3 x4 : Int32} (hC : CT mX8_put d b0 G [.ref (ad 0 0), .int x1, .int x2] 20 400 (fun _ _ => False) (fun E G' => E = "java/lang/IndexOutOfBoundsException" ∧ G' = G)) : CT mL_act (d + 1) b0 G [.ref (ad 0 0), .int 9, .int x1, .int x2, .int x3, .int x4] 20 400 (fun r G' => r = some (.int (-1661000)) ∧ G' = G) (fun _ _ => False) := by
  refine CT.introW (by decide +kernel) (List.cons_ne_nil _ _) (Nat.le_of_ble_eq_true rfl) ?_
  show WP mL_act _ _ _ _ _ 20 400 0 [(0, .ref (ad 0 0)), (1, .int 9), (2, .int x1), (3, .int x2), (4, .int x3), (5, .int x4)] []
  refine r_iload_n dL_act_0 rfl 1 rfl ?_
  refine r_if_ne 13 dL_act_1 (by decide) (fun c_1 => ?_) (fun c_1 => absurd c_1 (by decide))
  refine r_iload_n dL_act_13 rfl 1 rfl ?_
  refine r_iconst (v := 1) dL_act_14 (by decide) ?_
  refine r_icmp_ne 25 dL_act_15 (by decide) (fun c_2 => ?_) (fun c_2 => absurd c_2 (by decide))
  refine r_iload_n dL_act_25 rfl 1 rfl ?_
  refine r_iconst (v := 2) dL_act_26 (by decide) ?_
  refine r_icmp_ne 41 dL_act_27 (by decide) (fun c_3 => ?_) (fun c_3 => absurd c_3 (by decide))
  refine r_iload_n dL_act_41 rfl 1 rfl ?_
  refine r_iconst (v := 3) dL_act_42 (by decide) ?_
  refine r_icmp_ne 54 dL_act_43 (by decide) (fun c_4 => ?_) (fun c_4 => absurd c_4 (by decide))
  refine r_iload_n dL_act_54 rfl 1 rfl ?_
  refine r_iconst (v := 4) dL_act_55 (by decide) ?_
  refine r_icmp_ne 68 dL_act_56 (by decide) (fun c_5 => ?_) (fun c_5 => absurd c_5 (by decide))
  refine r_iload_n dL_act_68 rfl 1 rfl ?_
  refine r_iconst (v := 5) dL_act_69 (by decide) ?_
  refine r_icmp_ne 90 dL_act_70 (by decide) (fun c_6 => ?_) (fun c_6 => absurd c_6 (by decide))
  refine r_iload_n dL_act_90 rfl 1 rfl ?_
  refine r_bipush (v := 6) dL_act_91 (by decide) ?_
  refine r_icmp_ne 109 dL_act_93 (by decide) (fun c_7 => ?_) (fun c_7 => absurd c_7 (by decide))
  refine r_iload_n dL_act_109 rfl 1 rfl ?_
  refine r_bipush (v := 7) dL_act_110 (by decide) ?_
  refine r_icmp_ne 131 dL_act_112 (by decide) (fun c_8 => ?_) (fun c_8 => absurd c_8 (by decide))
  refine r_iload_n dL_act_131 rfl 1 rfl ?_
  refine r_bipush (v := 8) dL_act_132 (by decide) ?_
  refine r_icmp_ne 144 dL_act_134 (by decide) (fun c_9 => ?_) (fun c_9 => absurd c_9 (by decide))
  refine r_iload_n dL_act_144 rfl 1 rfl ?_
  refine r_bipush (v := 9) dL_act_145 (by decide) ?_
  refine r_icmp_ne 159 dL_act_147 (by decide) (fun c_10 => absurd (by decide) c_10) (fun c_10 => ?_)
  refine r_aload_n dL_act_150 rfl 0 rfl ?_
  refine r_iload_n dL_act_151 rfl 2 rfl ?_
  refine r_iload_n dL_act_152 rfl 3 rfl ?_
  have hx9 : ∀ (E9 : String) (G9 : GH), (E9 = "java/lang/IndexOutOfBoundsException" ∧ G9 = G) → WX mL_act (d + 1) b0 (fun r G' => r = some (.int (-1661000)) ∧ G' = G) (fun _ _ => False) G9 0 0 153 [(0, .ref (ad 0 0)), (1, .int 9), (2, .int x1), (3, .int x2), (4, .int x3), (5, .int x4)] E9 := by
    intro E9 G9 hx
    obtain ⟨rfl, rfl⟩ := hx
    refine r_catch [] ⟨0, 286, 287, 74⟩ [⟨0, 286, 292, 77⟩, ⟨0, 286, 297, 80⟩] rfl (fun z hz => by cases hz) (by decide) (by decide) t_201 (by decide +kernel) (fun q => ?_)
    show WP mL_act _ _ _ _ _ _ _ 287 [(0, .ref (ad 0 0)), (1, .int 9), (2, .int x1), (3, .int x2), (4, .int x3), (5, .int x4)] [.ref q]
    refine r_astore [(6, .ref q), (0, .ref (ad 0 0)), (1, .int 9), (2, .int x1), (3, .int x2), (4, .int x3), (5, .int x4)] dL_act_287 (by decide) rfl ?_
    refine r_ldc dL_act_289 con_76 ?_
    refine r_ireti dL_act_291 rfl ?_
    exact ⟨rfl, rfl⟩
  refine r_callV (st := []) [.int x1, .int x2] 0 0 dL_act_153 kX8_put nX8_put lRL_46 (hW.g 0 0 rfl) rfl hC rfl rfl (Nat.le_of_ble_eq_true rfl) (Nat.le_of_ble_eq_true rfl) (Nat.le_of_ble_eq_true rfl) hx9 ?_
  intro r G9 hr
  exact hr.elim
set_option maxRecDepth 100000 in
set_option maxHeartbeats 4000000 in
theorem a_put_3 {d b0 : Nat} {G : GH} {A B : ST} {ad : AD} (hW : World A B ad G) {x1 x2 x3 x4 : Int32} (hC : CT mX8_put d b0 G [.ref (ad 0 0), .int x1, .int x2] 20 400 (fun _ _ => False) (fun E G' => E = "java/lang/IllegalStateException" ∧ G' = G)) : CT mL_act (d + 1) b0 G [.ref (ad 0 0), .int 9, .int x1, .int x2, .int x3, .int x4] 20 400 (fun r G' => r = some (.int (-1663000)) ∧ G' = G) (fun _ _ => False) := by
  refine CT.introW (by decide +kernel) (List.cons_ne_nil _ _) (Nat.le_of_ble_eq_true rfl) ?_
  show WP mL_act _ _ _ _ _ 20 400 0 [(0, .ref (ad 0 0)), (1, .int 9), (2, .int x1), (3, .int x2), (4, .int x3), (5, .int x4)] []
  refine r_iload_n dL_act_0 rfl 1 rfl ?_
  refine r_if_ne 13 dL_act_1 (by decide) (fun c_1 => ?_) (fun c_1 => absurd c_1 (by decide))
  refine r_iload_n dL_act_13 rfl 1 rfl ?_
  refine r_iconst (v := 1) dL_act_14 (by decide) ?_
  refine r_icmp_ne 25 dL_act_15 (by decide) (fun c_2 => ?_) (fun c_2 => absurd c_2 (by decide))
  refine r_iload_n dL_act_25 rfl 1 rfl ?_
  refine r_iconst (v := 2) dL_act_26 (by decide) ?_
  refine r_icmp_ne 41 dL_act_27 (by decide) (fun c_3 => ?_) (fun c_3 => absurd c_3 (by decide))
  refine r_iload_n dL_act_41 rfl 1 rfl ?_
  refine r_iconst (v := 3) dL_act_42 (by decide) ?_
  refine r_icmp_ne 54 dL_act_43 (by decide) (fun c_4 => ?_) (fun c_4 => absurd c_4 (by decide))
  refine r_iload_n dL_act_54 rfl 1 rfl ?_
  refine r_iconst (v := 4) dL_act_55 (by decide) ?_
  refine r_icmp_ne 68 dL_act_56 (by decide) (fun c_5 => ?_) (fun c_5 => absurd c_5 (by decide))
  refine r_iload_n dL_act_68 rfl 1 rfl ?_
  refine r_iconst (v := 5) dL_act_69 (by decide) ?_
  refine r_icmp_ne 90 dL_act_70 (by decide) (fun c_6 => ?_) (fun c_6 => absurd c_6 (by decide))
  refine r_iload_n dL_act_90 rfl 1 rfl ?_
  refine r_bipush (v := 6) dL_act_91 (by decide) ?_
  refine r_icmp_ne 109 dL_act_93 (by decide) (fun c_7 => ?_) (fun c_7 => absurd c_7 (by decide))
  refine r_iload_n dL_act_109 rfl 1 rfl ?_
  refine r_bipush (v := 7) dL_act_110 (by decide) ?_
  refine r_icmp_ne 131 dL_act_112 (by decide) (fun c_8 => ?_) (fun c_8 => absurd c_8 (by decide))
  refine r_iload_n dL_act_131 rfl 1 rfl ?_
  refine r_bipush (v := 8) dL_act_132 (by decide) ?_
  refine r_icmp_ne 144 dL_act_134 (by decide) (fun c_9 => ?_) (fun c_9 => absurd c_9 (by decide))
  refine r_iload_n dL_act_144 rfl 1 rfl ?_
  refine r_bipush (v := 9) dL_act_145 (by decide) ?_
  refine r_icmp_ne 159 dL_act_147 (by decide) (fun c_10 => absurd (by decide) c_10) (fun c_10 => ?_)
  refine r_aload_n dL_act_150 rfl 0 rfl ?_
  refine r_iload_n dL_act_151 rfl 2 rfl ?_
  refine r_iload_n dL_act_152 rfl 3 rfl ?_
  have hx9 : ∀ (E9 : String) (G9 : GH), (E9 = "java/lang/IllegalStateException" ∧ G9 = G) → WX mL_act (d + 1) b0 (fun r G' => r = some (.int (-1663000)) ∧ G' = G) (fun _ _ => False) G9 0 0 153 [(0, .ref (ad 0 0)), (1, .int 9), (2, .int x1), (3, .int x2), (4, .int x3), (5, .int x4)] E9 := by
    intro E9 G9 hx
    obtain ⟨rfl, rfl⟩ := hx
    refine r_catch [⟨0, 286, 287, 74⟩, ⟨0, 286, 292, 77⟩] ⟨0, 286, 297, 80⟩ [] rfl (fun z hz => by
      simp only [List.mem_cons, List.not_mem_nil, or_false] at hz
      rcases hz with hz | hz
      · rw [hz]; exact ⟨by decide, "java/lang/IndexOutOfBoundsException", t_201, by decide +kernel⟩
      · rw [hz]; exact ⟨by decide, "java/lang/IllegalArgumentException", t_202, by decide +kernel⟩) (by decide) (by decide) t_203 (by decide +kernel) (fun q => ?_)
    show WP mL_act _ _ _ _ _ _ _ 297 [(0, .ref (ad 0 0)), (1, .int 9), (2, .int x1), (3, .int x2), (4, .int x3), (5, .int x4)] [.ref q]
    refine r_astore [(6, .ref q), (0, .ref (ad 0 0)), (1, .int 9), (2, .int x1), (3, .int x2), (4, .int x3), (5, .int x4)] dL_act_297 (by decide) rfl ?_
    refine r_ldc dL_act_299 con_82 ?_
    refine r_ireti dL_act_301 rfl ?_
    exact ⟨rfl, rfl⟩
  refine r_callV (st := []) [.int x1, .int x2] 0 0 dL_act_153 kX8_put nX8_put lRL_46 (hW.g 0 0 rfl) rfl hC rfl rfl (Nat.le_of_ble_eq_true rfl) (Nat.le_of_ble_eq_true rfl) (Nat.le_of_ble_eq_true rfl) hx9 ?_
  intro r G9 hr
  exact hr.elim
set_option maxRecDepth 100000 in
set_option maxHeartbeats 4000000 in
theorem a_data_0 {d b0 : Nat} {G : GH} {A B : ST} {ad : AD} (hW : World A B ad G) {st : ST} {v : Int32} {x1 x2 x3 x4 : Int32} (hC : CT mX8_data d b0 G [.ref (ad 0 0), .int x1, .int x2] 20 400 (OPo (v) st B ad A) (fun _ _ => False)) : CT mL_act (d + 1) b0 G [.ref (ad 0 0), .int 10, .int x1, .int x2, .int x3, .int x4] 20 400 (OPo (v) st B ad A) (fun _ _ => False) := by
  refine CT.introW (by decide +kernel) (List.cons_ne_nil _ _) (Nat.le_of_ble_eq_true rfl) ?_
  show WP mL_act _ _ _ _ _ 20 400 0 [(0, .ref (ad 0 0)), (1, .int 10), (2, .int x1), (3, .int x2), (4, .int x3), (5, .int x4)] []
  refine r_iload_n dL_act_0 rfl 1 rfl ?_
  refine r_if_ne 13 dL_act_1 (by decide) (fun c_1 => ?_) (fun c_1 => absurd c_1 (by decide))
  refine r_iload_n dL_act_13 rfl 1 rfl ?_
  refine r_iconst (v := 1) dL_act_14 (by decide) ?_
  refine r_icmp_ne 25 dL_act_15 (by decide) (fun c_2 => ?_) (fun c_2 => absurd c_2 (by decide))
  refine r_iload_n dL_act_25 rfl 1 rfl ?_
  refine r_iconst (v := 2) dL_act_26 (by decide) ?_
  refine r_icmp_ne 41 dL_act_27 (by decide) (fun c_3 => ?_) (fun c_3 => absurd c_3 (by decide))
  refine r_iload_n dL_act_41 rfl 1 rfl ?_
  refine r_iconst (v := 3) dL_act_42 (by decide) ?_
  refine r_icmp_ne 54 dL_act_43 (by decide) (fun c_4 => ?_) (fun c_4 => absurd c_4 (by decide))
  refine r_iload_n dL_act_54 rfl 1 rfl ?_
  refine r_iconst (v := 4) dL_act_55 (by decide) ?_
  refine r_icmp_ne 68 dL_act_56 (by decide) (fun c_5 => ?_) (fun c_5 => absurd c_5 (by decide))
  refine r_iload_n dL_act_68 rfl 1 rfl ?_
  refine r_iconst (v := 5) dL_act_69 (by decide) ?_
  refine r_icmp_ne 90 dL_act_70 (by decide) (fun c_6 => ?_) (fun c_6 => absurd c_6 (by decide))
  refine r_iload_n dL_act_90 rfl 1 rfl ?_
  refine r_bipush (v := 6) dL_act_91 (by decide) ?_
  refine r_icmp_ne 109 dL_act_93 (by decide) (fun c_7 => ?_) (fun c_7 => absurd c_7 (by decide))
  refine r_iload_n dL_act_109 rfl 1 rfl ?_
  refine r_bipush (v := 7) dL_act_110 (by decide) ?_
  refine r_icmp_ne 131 dL_act_112 (by decide) (fun c_8 => ?_) (fun c_8 => absurd c_8 (by decide))
  refine r_iload_n dL_act_131 rfl 1 rfl ?_
  refine r_bipush (v := 8) dL_act_132 (by decide) ?_
  refine r_icmp_ne 144 dL_act_134 (by decide) (fun c_9 => ?_) (fun c_9 => absurd c_9 (by decide))
  refine r_iload_n dL_act_144 rfl 1 rfl ?_
  refine r_bipush (v := 9) dL_act_145 (by decide) ?_
  refine r_icmp_ne 159 dL_act_147 (by decide) (fun c_10 => ?_) (fun c_10 => absurd c_10 (by decide))
  refine r_iload_n dL_act_159 rfl 1 rfl ?_
  refine r_bipush (v := 10) dL_act_160 (by decide) ?_
  refine r_icmp_ne 174 dL_act_162 (by decide) (fun c_11 => absurd (by decide) c_11) (fun c_11 => ?_)
  refine r_aload_n dL_act_165 rfl 0 rfl ?_
  refine r_iload_n dL_act_166 rfl 2 rfl ?_
  refine r_iload_n dL_act_167 rfl 3 rfl ?_
  refine r_callV (st := []) [.int x1, .int x2] 0 0 dL_act_168 kX8_data nX8_data lRL_49 (hW.g 0 0 rfl) rfl hC rfl rfl (Nat.le_of_ble_eq_true rfl) (Nat.le_of_ble_eq_true rfl) (Nat.le_of_ble_eq_true rfl) (fun _ _ h => h.elim) ?_
  intro r G9 hr
  obtain ⟨rfl, A9, ad9, hW9, hk9, hP9, hf9⟩ := hr
  show WP mL_act _ _ _ _ _ _ _ 171 [(0, .ref (ad 0 0)), (1, .int 10), (2, .int x1), (3, .int x2), (4, .int x3), (5, .int x4)] [.int v]
  refine r_goto 286 dL_act_171 (by decide) ?_
  refine r_ireti dL_act_286 rfl ?_
  exact ⟨rfl, A9, ad9, hW9, hk9, hP9, hf9⟩
set_option maxRecDepth 100000 in
set_option maxHeartbeats 4000000 in
theorem a_data_1 {d b0 : Nat} {G : GH} {A B : ST} {ad : AD} (hW : World A B ad G) {x1 x2 x3 x4 : Int32} (hC : CT mX8_data d b0 G [.ref (ad 0 0), .int x1, .int x2] 20 400 (fun _ _ => False) (fun E G' => E = "java/lang/IndexOutOfBoundsException" ∧ G' = G)) : CT mL_act (d + 1) b0 G [.ref (ad 0 0), .int 10, .int x1, .int x2, .int x3, .int x4] 20 400 (fun r G' => r = some (.int (-1661000)) ∧ G' = G) (fun _ _ => False) := by
  refine CT.introW (by decide +kernel) (List.cons_ne_nil _ _) (Nat.le_of_ble_eq_true rfl) ?_
  show WP mL_act _ _ _ _ _ 20 400 0 [(0, .ref (ad 0 0)), (1, .int 10), (2, .int x1), (3, .int x2), (4, .int x3), (5, .int x4)] []
  refine r_iload_n dL_act_0 rfl 1 rfl ?_
  refine r_if_ne 13 dL_act_1 (by decide) (fun c_1 => ?_) (fun c_1 => absurd c_1 (by decide))
  refine r_iload_n dL_act_13 rfl 1 rfl ?_
  refine r_iconst (v := 1) dL_act_14 (by decide) ?_
  refine r_icmp_ne 25 dL_act_15 (by decide) (fun c_2 => ?_) (fun c_2 => absurd c_2 (by decide))
  refine r_iload_n dL_act_25 rfl 1 rfl ?_
  refine r_iconst (v := 2) dL_act_26 (by decide) ?_
  refine r_icmp_ne 41 dL_act_27 (by decide) (fun c_3 => ?_) (fun c_3 => absurd c_3 (by decide))
  refine r_iload_n dL_act_41 rfl 1 rfl ?_
  refine r_iconst (v := 3) dL_act_42 (by decide) ?_
  refine r_icmp_ne 54 dL_act_43 (by decide) (fun c_4 => ?_) (fun c_4 => absurd c_4 (by decide))
  refine r_iload_n dL_act_54 rfl 1 rfl ?_
  refine r_iconst (v := 4) dL_act_55 (by decide) ?_
  refine r_icmp_ne 68 dL_act_56 (by decide) (fun c_5 => ?_) (fun c_5 => absurd c_5 (by decide))
  refine r_iload_n dL_act_68 rfl 1 rfl ?_
  refine r_iconst (v := 5) dL_act_69 (by decide) ?_
  refine r_icmp_ne 90 dL_act_70 (by decide) (fun c_6 => ?_) (fun c_6 => absurd c_6 (by decide))
  refine r_iload_n dL_act_90 rfl 1 rfl ?_
  refine r_bipush (v := 6) dL_act_91 (by decide) ?_
  refine r_icmp_ne 109 dL_act_93 (by decide) (fun c_7 => ?_) (fun c_7 => absurd c_7 (by decide))
  refine r_iload_n dL_act_109 rfl 1 rfl ?_
  refine r_bipush (v := 7) dL_act_110 (by decide) ?_
  refine r_icmp_ne 131 dL_act_112 (by decide) (fun c_8 => ?_) (fun c_8 => absurd c_8 (by decide))
  refine r_iload_n dL_act_131 rfl 1 rfl ?_
  refine r_bipush (v := 8) dL_act_132 (by decide) ?_
  refine r_icmp_ne 144 dL_act_134 (by decide) (fun c_9 => ?_) (fun c_9 => absurd c_9 (by decide))
  refine r_iload_n dL_act_144 rfl 1 rfl ?_
  refine r_bipush (v := 9) dL_act_145 (by decide) ?_
  refine r_icmp_ne 159 dL_act_147 (by decide) (fun c_10 => ?_) (fun c_10 => absurd c_10 (by decide))
  refine r_iload_n dL_act_159 rfl 1 rfl ?_
  refine r_bipush (v := 10) dL_act_160 (by decide) ?_
  refine r_icmp_ne 174 dL_act_162 (by decide) (fun c_11 => absurd (by decide) c_11) (fun c_11 => ?_)
  refine r_aload_n dL_act_165 rfl 0 rfl ?_
  refine r_iload_n dL_act_166 rfl 2 rfl ?_
  refine r_iload_n dL_act_167 rfl 3 rfl ?_
  have hx9 : ∀ (E9 : String) (G9 : GH), (E9 = "java/lang/IndexOutOfBoundsException" ∧ G9 = G) → WX mL_act (d + 1) b0 (fun r G' => r = some (.int (-1661000)) ∧ G' = G) (fun _ _ => False) G9 0 0 168 [(0, .ref (ad 0 0)), (1, .int 10), (2, .int x1), (3, .int x2), (4, .int x3), (5, .int x4)] E9 := by
    intro E9 G9 hx
    obtain ⟨rfl, rfl⟩ := hx
    refine r_catch [] ⟨0, 286, 287, 74⟩ [⟨0, 286, 292, 77⟩, ⟨0, 286, 297, 80⟩] rfl (fun z hz => by cases hz) (by decide) (by decide) t_201 (by decide +kernel) (fun q => ?_)
    show WP mL_act _ _ _ _ _ _ _ 287 [(0, .ref (ad 0 0)), (1, .int 10), (2, .int x1), (3, .int x2), (4, .int x3), (5, .int x4)] [.ref q]
    refine r_astore [(6, .ref q), (0, .ref (ad 0 0)), (1, .int 10), (2, .int x1), (3, .int x2), (4, .int x3), (5, .int x4)] dL_act_287 (by decide) rfl ?_
    refine r_ldc dL_act_289 con_76 ?_
    refine r_ireti dL_act_291 rfl ?_
    exact ⟨rfl, rfl⟩
  refine r_callV (st := []) [.int x1, .int x2] 0 0 dL_act_168 kX8_data nX8_data lRL_49 (hW.g 0 0 rfl) rfl hC rfl rfl (Nat.le_of_ble_eq_true rfl) (Nat.le_of_ble_eq_true rfl) (Nat.le_of_ble_eq_true rfl) hx9 ?_
  intro r G9 hr
  exact hr.elim
set_option maxRecDepth 100000 in
set_option maxHeartbeats 4000000 in
theorem a_data_3 {d b0 : Nat} {G : GH} {A B : ST} {ad : AD} (hW : World A B ad G) {x1 x2 x3 x4 : Int32} (hC : CT mX8_data d b0 G [.ref (ad 0 0), .int x1, .int x2] 20 400 (fun _ _ => False) (fun E G' => E = "java/lang/IllegalStateException" ∧ G' = G)) : CT mL_act (d + 1) b0 G [.ref (ad 0 0), .int 10, .int x1, .int x2, .int x3, .int x4] 20 400 (fun r G' => r = some (.int (-1663000)) ∧ G' = G) (fun _ _ => False) := by
  refine CT.introW (by decide +kernel) (List.cons_ne_nil _ _) (Nat.le_of_ble_eq_true rfl) ?_
  show WP mL_act _ _ _ _ _ 20 400 0 [(0, .ref (ad 0 0)), (1, .int 10), (2, .int x1), (3, .int x2), (4, .int x3), (5, .int x4)] []
  refine r_iload_n dL_act_0 rfl 1 rfl ?_
  refine r_if_ne 13 dL_act_1 (by decide) (fun c_1 => ?_) (fun c_1 => absurd c_1 (by decide))
  refine r_iload_n dL_act_13 rfl 1 rfl ?_
  refine r_iconst (v := 1) dL_act_14 (by decide) ?_
  refine r_icmp_ne 25 dL_act_15 (by decide) (fun c_2 => ?_) (fun c_2 => absurd c_2 (by decide))
  refine r_iload_n dL_act_25 rfl 1 rfl ?_
  refine r_iconst (v := 2) dL_act_26 (by decide) ?_
  refine r_icmp_ne 41 dL_act_27 (by decide) (fun c_3 => ?_) (fun c_3 => absurd c_3 (by decide))
  refine r_iload_n dL_act_41 rfl 1 rfl ?_
  refine r_iconst (v := 3) dL_act_42 (by decide) ?_
  refine r_icmp_ne 54 dL_act_43 (by decide) (fun c_4 => ?_) (fun c_4 => absurd c_4 (by decide))
  refine r_iload_n dL_act_54 rfl 1 rfl ?_
  refine r_iconst (v := 4) dL_act_55 (by decide) ?_
  refine r_icmp_ne 68 dL_act_56 (by decide) (fun c_5 => ?_) (fun c_5 => absurd c_5 (by decide))
  refine r_iload_n dL_act_68 rfl 1 rfl ?_
  refine r_iconst (v := 5) dL_act_69 (by decide) ?_
  refine r_icmp_ne 90 dL_act_70 (by decide) (fun c_6 => ?_) (fun c_6 => absurd c_6 (by decide))
  refine r_iload_n dL_act_90 rfl 1 rfl ?_
  refine r_bipush (v := 6) dL_act_91 (by decide) ?_
  refine r_icmp_ne 109 dL_act_93 (by decide) (fun c_7 => ?_) (fun c_7 => absurd c_7 (by decide))
  refine r_iload_n dL_act_109 rfl 1 rfl ?_
  refine r_bipush (v := 7) dL_act_110 (by decide) ?_
  refine r_icmp_ne 131 dL_act_112 (by decide) (fun c_8 => ?_) (fun c_8 => absurd c_8 (by decide))
  refine r_iload_n dL_act_131 rfl 1 rfl ?_
  refine r_bipush (v := 8) dL_act_132 (by decide) ?_
  refine r_icmp_ne 144 dL_act_134 (by decide) (fun c_9 => ?_) (fun c_9 => absurd c_9 (by decide))
  refine r_iload_n dL_act_144 rfl 1 rfl ?_
  refine r_bipush (v := 9) dL_act_145 (by decide) ?_
  refine r_icmp_ne 159 dL_act_147 (by decide) (fun c_10 => ?_) (fun c_10 => absurd c_10 (by decide))
  refine r_iload_n dL_act_159 rfl 1 rfl ?_
  refine r_bipush (v := 10) dL_act_160 (by decide) ?_
  refine r_icmp_ne 174 dL_act_162 (by decide) (fun c_11 => absurd (by decide) c_11) (fun c_11 => ?_)
  refine r_aload_n dL_act_165 rfl 0 rfl ?_
  refine r_iload_n dL_act_166 rfl 2 rfl ?_
  refine r_iload_n dL_act_167 rfl 3 rfl ?_
  have hx9 : ∀ (E9 : String) (G9 : GH), (E9 = "java/lang/IllegalStateException" ∧ G9 = G) → WX mL_act (d + 1) b0 (fun r G' => r = some (.int (-1663000)) ∧ G' = G) (fun _ _ => False) G9 0 0 168 [(0, .ref (ad 0 0)), (1, .int 10), (2, .int x1), (3, .int x2), (4, .int x3), (5, .int x4)] E9 := by
    intro E9 G9 hx
    obtain ⟨rfl, rfl⟩ := hx
    refine r_catch [⟨0, 286, 287, 74⟩, ⟨0, 286, 292, 77⟩] ⟨0, 286, 297, 80⟩ [] rfl (fun z hz => by
      simp only [List.mem_cons, List.not_mem_nil, or_false] at hz
      rcases hz with hz | hz
      · rw [hz]; exact ⟨by decide, "java/lang/IndexOutOfBoundsException", t_201, by decide +kernel⟩
      · rw [hz]; exact ⟨by decide, "java/lang/IllegalArgumentException", t_202, by decide +kernel⟩) (by decide) (by decide) t_203 (by decide +kernel) (fun q => ?_)
    show WP mL_act _ _ _ _ _ _ _ 297 [(0, .ref (ad 0 0)), (1, .int 10), (2, .int x1), (3, .int x2), (4, .int x3), (5, .int x4)] [.ref q]
    refine r_astore [(6, .ref q), (0, .ref (ad 0 0)), (1, .int 10), (2, .int x1), (3, .int x2), (4, .int x3), (5, .int x4)] dL_act_297 (by decide) rfl ?_
    refine r_ldc dL_act_299 con_82 ?_
    refine r_ireti dL_act_301 rfl ?_
    exact ⟨rfl, rfl⟩
  refine r_callV (st := []) [.int x1, .int x2] 0 0 dL_act_168 kX8_data nX8_data lRL_49 (hW.g 0 0 rfl) rfl hC rfl rfl (Nat.le_of_ble_eq_true rfl) (Nat.le_of_ble_eq_true rfl) (Nat.le_of_ble_eq_true rfl) hx9 ?_
  intro r G9 hr
  exact hr.elim
set_option maxRecDepth 100000 in
set_option maxHeartbeats 4000000 in
theorem a_fill_0 {d b0 : Nat} {G : GH} {A B : ST} {ad : AD} (hW : World A B ad G) {st : ST} {v : Int32} {x1 x2 x3 x4 : Int32} (hC : CT mX8_fill d b0 G [.ref (ad 0 0), .int x1, .int x2, .int x3] 20 400 (OPo (v) st B ad A) (fun _ _ => False)) : CT mL_act (d + 1) b0 G [.ref (ad 0 0), .int 11, .int x1, .int x2, .int x3, .int x4] 20 400 (OPo (v) st B ad A) (fun _ _ => False) := by
  refine CT.introW (by decide +kernel) (List.cons_ne_nil _ _) (Nat.le_of_ble_eq_true rfl) ?_
  show WP mL_act _ _ _ _ _ 20 400 0 [(0, .ref (ad 0 0)), (1, .int 11), (2, .int x1), (3, .int x2), (4, .int x3), (5, .int x4)] []
  refine r_iload_n dL_act_0 rfl 1 rfl ?_
  refine r_if_ne 13 dL_act_1 (by decide) (fun c_1 => ?_) (fun c_1 => absurd c_1 (by decide))
  refine r_iload_n dL_act_13 rfl 1 rfl ?_
  refine r_iconst (v := 1) dL_act_14 (by decide) ?_
  refine r_icmp_ne 25 dL_act_15 (by decide) (fun c_2 => ?_) (fun c_2 => absurd c_2 (by decide))
  refine r_iload_n dL_act_25 rfl 1 rfl ?_
  refine r_iconst (v := 2) dL_act_26 (by decide) ?_
  refine r_icmp_ne 41 dL_act_27 (by decide) (fun c_3 => ?_) (fun c_3 => absurd c_3 (by decide))
  refine r_iload_n dL_act_41 rfl 1 rfl ?_
  refine r_iconst (v := 3) dL_act_42 (by decide) ?_
  refine r_icmp_ne 54 dL_act_43 (by decide) (fun c_4 => ?_) (fun c_4 => absurd c_4 (by decide))
  refine r_iload_n dL_act_54 rfl 1 rfl ?_
  refine r_iconst (v := 4) dL_act_55 (by decide) ?_
  refine r_icmp_ne 68 dL_act_56 (by decide) (fun c_5 => ?_) (fun c_5 => absurd c_5 (by decide))
  refine r_iload_n dL_act_68 rfl 1 rfl ?_
  refine r_iconst (v := 5) dL_act_69 (by decide) ?_
  refine r_icmp_ne 90 dL_act_70 (by decide) (fun c_6 => ?_) (fun c_6 => absurd c_6 (by decide))
  refine r_iload_n dL_act_90 rfl 1 rfl ?_
  refine r_bipush (v := 6) dL_act_91 (by decide) ?_
  refine r_icmp_ne 109 dL_act_93 (by decide) (fun c_7 => ?_) (fun c_7 => absurd c_7 (by decide))
  refine r_iload_n dL_act_109 rfl 1 rfl ?_
  refine r_bipush (v := 7) dL_act_110 (by decide) ?_
  refine r_icmp_ne 131 dL_act_112 (by decide) (fun c_8 => ?_) (fun c_8 => absurd c_8 (by decide))
  refine r_iload_n dL_act_131 rfl 1 rfl ?_
  refine r_bipush (v := 8) dL_act_132 (by decide) ?_
  refine r_icmp_ne 144 dL_act_134 (by decide) (fun c_9 => ?_) (fun c_9 => absurd c_9 (by decide))
  refine r_iload_n dL_act_144 rfl 1 rfl ?_
  refine r_bipush (v := 9) dL_act_145 (by decide) ?_
  refine r_icmp_ne 159 dL_act_147 (by decide) (fun c_10 => ?_) (fun c_10 => absurd c_10 (by decide))
  refine r_iload_n dL_act_159 rfl 1 rfl ?_
  refine r_bipush (v := 10) dL_act_160 (by decide) ?_
  refine r_icmp_ne 174 dL_act_162 (by decide) (fun c_11 => ?_) (fun c_11 => absurd c_11 (by decide))
  refine r_iload_n dL_act_174 rfl 1 rfl ?_
  refine r_bipush (v := 11) dL_act_175 (by decide) ?_
  refine r_icmp_ne 191 dL_act_177 (by decide) (fun c_12 => absurd (by decide) c_12) (fun c_12 => ?_)
  refine r_aload_n dL_act_180 rfl 0 rfl ?_
  refine r_iload_n dL_act_181 rfl 2 rfl ?_
  refine r_iload_n dL_act_182 rfl 3 rfl ?_
  refine r_iload dL_act_183 4 rfl ?_
  refine r_callV (st := []) [.int x1, .int x2, .int x3] 0 0 dL_act_185 kX8_fill nX8_fill lRL_52 (hW.g 0 0 rfl) rfl hC rfl rfl (Nat.le_of_ble_eq_true rfl) (Nat.le_of_ble_eq_true rfl) (Nat.le_of_ble_eq_true rfl) (fun _ _ h => h.elim) ?_
  intro r G9 hr
  obtain ⟨rfl, A9, ad9, hW9, hk9, hP9, hf9⟩ := hr
  show WP mL_act _ _ _ _ _ _ _ 188 [(0, .ref (ad 0 0)), (1, .int 11), (2, .int x1), (3, .int x2), (4, .int x3), (5, .int x4)] [.int v]
  refine r_goto 286 dL_act_188 (by decide) ?_
  refine r_ireti dL_act_286 rfl ?_
  exact ⟨rfl, A9, ad9, hW9, hk9, hP9, hf9⟩
set_option maxRecDepth 100000 in
set_option maxHeartbeats 4000000 in
theorem a_fill_1 {d b0 : Nat} {G : GH} {A B : ST} {ad : AD} (hW : World A B ad G) {x1 x2 x3 x4 : Int32} (hC : CT mX8_fill d b0 G [.ref (ad 0 0), .int x1, .int x2, .int x3] 20 400 (fun _ _ => False) (fun E G' => E = "java/lang/IndexOutOfBoundsException" ∧ G' = G)) : CT mL_act (d + 1) b0 G [.ref (ad 0 0), .int 11, .int x1, .int x2, .int x3, .int x4] 20 400 (fun r G' => r = some (.int (-1661000)) ∧ G' = G) (fun _ _ => False) := by
  refine CT.introW (by decide +kernel) (List.cons_ne_nil _ _) (Nat.le_of_ble_eq_true rfl) ?_
  show WP mL_act _ _ _ _ _ 20 400 0 [(0, .ref (ad 0 0)), (1, .int 11), (2, .int x1), (3, .int x2), (4, .int x3), (5, .int x4)] []
  refine r_iload_n dL_act_0 rfl 1 rfl ?_
  refine r_if_ne 13 dL_act_1 (by decide) (fun c_1 => ?_) (fun c_1 => absurd c_1 (by decide))
  refine r_iload_n dL_act_13 rfl 1 rfl ?_
  refine r_iconst (v := 1) dL_act_14 (by decide) ?_
  refine r_icmp_ne 25 dL_act_15 (by decide) (fun c_2 => ?_) (fun c_2 => absurd c_2 (by decide))
  refine r_iload_n dL_act_25 rfl 1 rfl ?_
  refine r_iconst (v := 2) dL_act_26 (by decide) ?_
  refine r_icmp_ne 41 dL_act_27 (by decide) (fun c_3 => ?_) (fun c_3 => absurd c_3 (by decide))
  refine r_iload_n dL_act_41 rfl 1 rfl ?_
  refine r_iconst (v := 3) dL_act_42 (by decide) ?_
  refine r_icmp_ne 54 dL_act_43 (by decide) (fun c_4 => ?_) (fun c_4 => absurd c_4 (by decide))
  refine r_iload_n dL_act_54 rfl 1 rfl ?_
  refine r_iconst (v := 4) dL_act_55 (by decide) ?_
  refine r_icmp_ne 68 dL_act_56 (by decide) (fun c_5 => ?_) (fun c_5 => absurd c_5 (by decide))
  refine r_iload_n dL_act_68 rfl 1 rfl ?_
  refine r_iconst (v := 5) dL_act_69 (by decide) ?_
  refine r_icmp_ne 90 dL_act_70 (by decide) (fun c_6 => ?_) (fun c_6 => absurd c_6 (by decide))
  refine r_iload_n dL_act_90 rfl 1 rfl ?_
  refine r_bipush (v := 6) dL_act_91 (by decide) ?_
  refine r_icmp_ne 109 dL_act_93 (by decide) (fun c_7 => ?_) (fun c_7 => absurd c_7 (by decide))
  refine r_iload_n dL_act_109 rfl 1 rfl ?_
  refine r_bipush (v := 7) dL_act_110 (by decide) ?_
  refine r_icmp_ne 131 dL_act_112 (by decide) (fun c_8 => ?_) (fun c_8 => absurd c_8 (by decide))
  refine r_iload_n dL_act_131 rfl 1 rfl ?_
  refine r_bipush (v := 8) dL_act_132 (by decide) ?_
  refine r_icmp_ne 144 dL_act_134 (by decide) (fun c_9 => ?_) (fun c_9 => absurd c_9 (by decide))
  refine r_iload_n dL_act_144 rfl 1 rfl ?_
  refine r_bipush (v := 9) dL_act_145 (by decide) ?_
  refine r_icmp_ne 159 dL_act_147 (by decide) (fun c_10 => ?_) (fun c_10 => absurd c_10 (by decide))
  refine r_iload_n dL_act_159 rfl 1 rfl ?_
  refine r_bipush (v := 10) dL_act_160 (by decide) ?_
  refine r_icmp_ne 174 dL_act_162 (by decide) (fun c_11 => ?_) (fun c_11 => absurd c_11 (by decide))
  refine r_iload_n dL_act_174 rfl 1 rfl ?_
  refine r_bipush (v := 11) dL_act_175 (by decide) ?_
  refine r_icmp_ne 191 dL_act_177 (by decide) (fun c_12 => absurd (by decide) c_12) (fun c_12 => ?_)
  refine r_aload_n dL_act_180 rfl 0 rfl ?_
  refine r_iload_n dL_act_181 rfl 2 rfl ?_
  refine r_iload_n dL_act_182 rfl 3 rfl ?_
  refine r_iload dL_act_183 4 rfl ?_
  have hx9 : ∀ (E9 : String) (G9 : GH), (E9 = "java/lang/IndexOutOfBoundsException" ∧ G9 = G) → WX mL_act (d + 1) b0 (fun r G' => r = some (.int (-1661000)) ∧ G' = G) (fun _ _ => False) G9 0 0 185 [(0, .ref (ad 0 0)), (1, .int 11), (2, .int x1), (3, .int x2), (4, .int x3), (5, .int x4)] E9 := by
    intro E9 G9 hx
    obtain ⟨rfl, rfl⟩ := hx
    refine r_catch [] ⟨0, 286, 287, 74⟩ [⟨0, 286, 292, 77⟩, ⟨0, 286, 297, 80⟩] rfl (fun z hz => by cases hz) (by decide) (by decide) t_201 (by decide +kernel) (fun q => ?_)
    show WP mL_act _ _ _ _ _ _ _ 287 [(0, .ref (ad 0 0)), (1, .int 11), (2, .int x1), (3, .int x2), (4, .int x3), (5, .int x4)] [.ref q]
    refine r_astore [(6, .ref q), (0, .ref (ad 0 0)), (1, .int 11), (2, .int x1), (3, .int x2), (4, .int x3), (5, .int x4)] dL_act_287 (by decide) rfl ?_
    refine r_ldc dL_act_289 con_76 ?_
    refine r_ireti dL_act_291 rfl ?_
    exact ⟨rfl, rfl⟩
  refine r_callV (st := []) [.int x1, .int x2, .int x3] 0 0 dL_act_185 kX8_fill nX8_fill lRL_52 (hW.g 0 0 rfl) rfl hC rfl rfl (Nat.le_of_ble_eq_true rfl) (Nat.le_of_ble_eq_true rfl) (Nat.le_of_ble_eq_true rfl) hx9 ?_
  intro r G9 hr
  exact hr.elim
set_option maxRecDepth 100000 in
set_option maxHeartbeats 4000000 in
theorem a_price_0 {d b0 : Nat} {G : GH} {A B : ST} {ad : AD} (hW : World A B ad G) {st : ST} {v : Int32} {x1 x2 x3 x4 : Int32} (hC : CT mX8_price d b0 G [.ref (ad 0 0), .int x1, .int x2] 20 400 (OPo (v) st B ad A) (fun _ _ => False)) : CT mL_act (d + 1) b0 G [.ref (ad 0 0), .int 12, .int x1, .int x2, .int x3, .int x4] 20 400 (OPo (v) st B ad A) (fun _ _ => False) := by
  refine CT.introW (by decide +kernel) (List.cons_ne_nil _ _) (Nat.le_of_ble_eq_true rfl) ?_
  show WP mL_act _ _ _ _ _ 20 400 0 [(0, .ref (ad 0 0)), (1, .int 12), (2, .int x1), (3, .int x2), (4, .int x3), (5, .int x4)] []
  refine r_iload_n dL_act_0 rfl 1 rfl ?_
  refine r_if_ne 13 dL_act_1 (by decide) (fun c_1 => ?_) (fun c_1 => absurd c_1 (by decide))
  refine r_iload_n dL_act_13 rfl 1 rfl ?_
  refine r_iconst (v := 1) dL_act_14 (by decide) ?_
  refine r_icmp_ne 25 dL_act_15 (by decide) (fun c_2 => ?_) (fun c_2 => absurd c_2 (by decide))
  refine r_iload_n dL_act_25 rfl 1 rfl ?_
  refine r_iconst (v := 2) dL_act_26 (by decide) ?_
  refine r_icmp_ne 41 dL_act_27 (by decide) (fun c_3 => ?_) (fun c_3 => absurd c_3 (by decide))
  refine r_iload_n dL_act_41 rfl 1 rfl ?_
  refine r_iconst (v := 3) dL_act_42 (by decide) ?_
  refine r_icmp_ne 54 dL_act_43 (by decide) (fun c_4 => ?_) (fun c_4 => absurd c_4 (by decide))
  refine r_iload_n dL_act_54 rfl 1 rfl ?_
  refine r_iconst (v := 4) dL_act_55 (by decide) ?_
  refine r_icmp_ne 68 dL_act_56 (by decide) (fun c_5 => ?_) (fun c_5 => absurd c_5 (by decide))
  refine r_iload_n dL_act_68 rfl 1 rfl ?_
  refine r_iconst (v := 5) dL_act_69 (by decide) ?_
  refine r_icmp_ne 90 dL_act_70 (by decide) (fun c_6 => ?_) (fun c_6 => absurd c_6 (by decide))
  refine r_iload_n dL_act_90 rfl 1 rfl ?_
  refine r_bipush (v := 6) dL_act_91 (by decide) ?_
  refine r_icmp_ne 109 dL_act_93 (by decide) (fun c_7 => ?_) (fun c_7 => absurd c_7 (by decide))
  refine r_iload_n dL_act_109 rfl 1 rfl ?_
  refine r_bipush (v := 7) dL_act_110 (by decide) ?_
  refine r_icmp_ne 131 dL_act_112 (by decide) (fun c_8 => ?_) (fun c_8 => absurd c_8 (by decide))
  refine r_iload_n dL_act_131 rfl 1 rfl ?_
  refine r_bipush (v := 8) dL_act_132 (by decide) ?_
  refine r_icmp_ne 144 dL_act_134 (by decide) (fun c_9 => ?_) (fun c_9 => absurd c_9 (by decide))
  refine r_iload_n dL_act_144 rfl 1 rfl ?_
  refine r_bipush (v := 9) dL_act_145 (by decide) ?_
  refine r_icmp_ne 159 dL_act_147 (by decide) (fun c_10 => ?_) (fun c_10 => absurd c_10 (by decide))
  refine r_iload_n dL_act_159 rfl 1 rfl ?_
  refine r_bipush (v := 10) dL_act_160 (by decide) ?_
  refine r_icmp_ne 174 dL_act_162 (by decide) (fun c_11 => ?_) (fun c_11 => absurd c_11 (by decide))
  refine r_iload_n dL_act_174 rfl 1 rfl ?_
  refine r_bipush (v := 11) dL_act_175 (by decide) ?_
  refine r_icmp_ne 191 dL_act_177 (by decide) (fun c_12 => ?_) (fun c_12 => absurd c_12 (by decide))
  refine r_iload_n dL_act_191 rfl 1 rfl ?_
  refine r_bipush (v := 12) dL_act_192 (by decide) ?_
  refine r_icmp_ne 206 dL_act_194 (by decide) (fun c_13 => absurd (by decide) c_13) (fun c_13 => ?_)
  refine r_aload_n dL_act_197 rfl 0 rfl ?_
  refine r_iload_n dL_act_198 rfl 2 rfl ?_
  refine r_iload_n dL_act_199 rfl 3 rfl ?_
  refine r_callV (st := []) [.int x1, .int x2] 0 0 dL_act_200 kX8_price nX8_price lRL_55 (hW.g 0 0 rfl) rfl hC rfl rfl (Nat.le_of_ble_eq_true rfl) (Nat.le_of_ble_eq_true rfl) (Nat.le_of_ble_eq_true rfl) (fun _ _ h => h.elim) ?_
  intro r G9 hr
  obtain ⟨rfl, A9, ad9, hW9, hk9, hP9, hf9⟩ := hr
  show WP mL_act _ _ _ _ _ _ _ 203 [(0, .ref (ad 0 0)), (1, .int 12), (2, .int x1), (3, .int x2), (4, .int x3), (5, .int x4)] [.int v]
  refine r_goto 286 dL_act_203 (by decide) ?_
  refine r_ireti dL_act_286 rfl ?_
  exact ⟨rfl, A9, ad9, hW9, hk9, hP9, hf9⟩
set_option maxRecDepth 100000 in
set_option maxHeartbeats 4000000 in
theorem a_price_1 {d b0 : Nat} {G : GH} {A B : ST} {ad : AD} (hW : World A B ad G) {x1 x2 x3 x4 : Int32} (hC : CT mX8_price d b0 G [.ref (ad 0 0), .int x1, .int x2] 20 400 (fun _ _ => False) (fun E G' => E = "java/lang/IndexOutOfBoundsException" ∧ G' = G)) : CT mL_act (d + 1) b0 G [.ref (ad 0 0), .int 12, .int x1, .int x2, .int x3, .int x4] 20 400 (fun r G' => r = some (.int (-1661000)) ∧ G' = G) (fun _ _ => False) := by
  refine CT.introW (by decide +kernel) (List.cons_ne_nil _ _) (Nat.le_of_ble_eq_true rfl) ?_
  show WP mL_act _ _ _ _ _ 20 400 0 [(0, .ref (ad 0 0)), (1, .int 12), (2, .int x1), (3, .int x2), (4, .int x3), (5, .int x4)] []
  refine r_iload_n dL_act_0 rfl 1 rfl ?_
  refine r_if_ne 13 dL_act_1 (by decide) (fun c_1 => ?_) (fun c_1 => absurd c_1 (by decide))
  refine r_iload_n dL_act_13 rfl 1 rfl ?_
  refine r_iconst (v := 1) dL_act_14 (by decide) ?_
  refine r_icmp_ne 25 dL_act_15 (by decide) (fun c_2 => ?_) (fun c_2 => absurd c_2 (by decide))
  refine r_iload_n dL_act_25 rfl 1 rfl ?_
  refine r_iconst (v := 2) dL_act_26 (by decide) ?_
  refine r_icmp_ne 41 dL_act_27 (by decide) (fun c_3 => ?_) (fun c_3 => absurd c_3 (by decide))
  refine r_iload_n dL_act_41 rfl 1 rfl ?_
  refine r_iconst (v := 3) dL_act_42 (by decide) ?_
  refine r_icmp_ne 54 dL_act_43 (by decide) (fun c_4 => ?_) (fun c_4 => absurd c_4 (by decide))
  refine r_iload_n dL_act_54 rfl 1 rfl ?_
  refine r_iconst (v := 4) dL_act_55 (by decide) ?_
  refine r_icmp_ne 68 dL_act_56 (by decide) (fun c_5 => ?_) (fun c_5 => absurd c_5 (by decide))
  refine r_iload_n dL_act_68 rfl 1 rfl ?_
  refine r_iconst (v := 5) dL_act_69 (by decide) ?_
  refine r_icmp_ne 90 dL_act_70 (by decide) (fun c_6 => ?_) (fun c_6 => absurd c_6 (by decide))
  refine r_iload_n dL_act_90 rfl 1 rfl ?_
  refine r_bipush (v := 6) dL_act_91 (by decide) ?_
  refine r_icmp_ne 109 dL_act_93 (by decide) (fun c_7 => ?_) (fun c_7 => absurd c_7 (by decide))
  refine r_iload_n dL_act_109 rfl 1 rfl ?_
  refine r_bipush (v := 7) dL_act_110 (by decide) ?_
  refine r_icmp_ne 131 dL_act_112 (by decide) (fun c_8 => ?_) (fun c_8 => absurd c_8 (by decide))
  refine r_iload_n dL_act_131 rfl 1 rfl ?_
  refine r_bipush (v := 8) dL_act_132 (by decide) ?_
  refine r_icmp_ne 144 dL_act_134 (by decide) (fun c_9 => ?_) (fun c_9 => absurd c_9 (by decide))
  refine r_iload_n dL_act_144 rfl 1 rfl ?_
  refine r_bipush (v := 9) dL_act_145 (by decide) ?_
  refine r_icmp_ne 159 dL_act_147 (by decide) (fun c_10 => ?_) (fun c_10 => absurd c_10 (by decide))
  refine r_iload_n dL_act_159 rfl 1 rfl ?_
  refine r_bipush (v := 10) dL_act_160 (by decide) ?_
  refine r_icmp_ne 174 dL_act_162 (by decide) (fun c_11 => ?_) (fun c_11 => absurd c_11 (by decide))
  refine r_iload_n dL_act_174 rfl 1 rfl ?_
  refine r_bipush (v := 11) dL_act_175 (by decide) ?_
  refine r_icmp_ne 191 dL_act_177 (by decide) (fun c_12 => ?_) (fun c_12 => absurd c_12 (by decide))
  refine r_iload_n dL_act_191 rfl 1 rfl ?_
  refine r_bipush (v := 12) dL_act_192 (by decide) ?_
  refine r_icmp_ne 206 dL_act_194 (by decide) (fun c_13 => absurd (by decide) c_13) (fun c_13 => ?_)
  refine r_aload_n dL_act_197 rfl 0 rfl ?_
  refine r_iload_n dL_act_198 rfl 2 rfl ?_
  refine r_iload_n dL_act_199 rfl 3 rfl ?_
  have hx9 : ∀ (E9 : String) (G9 : GH), (E9 = "java/lang/IndexOutOfBoundsException" ∧ G9 = G) → WX mL_act (d + 1) b0 (fun r G' => r = some (.int (-1661000)) ∧ G' = G) (fun _ _ => False) G9 0 0 200 [(0, .ref (ad 0 0)), (1, .int 12), (2, .int x1), (3, .int x2), (4, .int x3), (5, .int x4)] E9 := by
    intro E9 G9 hx
    obtain ⟨rfl, rfl⟩ := hx
    refine r_catch [] ⟨0, 286, 287, 74⟩ [⟨0, 286, 292, 77⟩, ⟨0, 286, 297, 80⟩] rfl (fun z hz => by cases hz) (by decide) (by decide) t_201 (by decide +kernel) (fun q => ?_)
    show WP mL_act _ _ _ _ _ _ _ 287 [(0, .ref (ad 0 0)), (1, .int 12), (2, .int x1), (3, .int x2), (4, .int x3), (5, .int x4)] [.ref q]
    refine r_astore [(6, .ref q), (0, .ref (ad 0 0)), (1, .int 12), (2, .int x1), (3, .int x2), (4, .int x3), (5, .int x4)] dL_act_287 (by decide) rfl ?_
    refine r_ldc dL_act_289 con_76 ?_
    refine r_ireti dL_act_291 rfl ?_
    exact ⟨rfl, rfl⟩
  refine r_callV (st := []) [.int x1, .int x2] 0 0 dL_act_200 kX8_price nX8_price lRL_55 (hW.g 0 0 rfl) rfl hC rfl rfl (Nat.le_of_ble_eq_true rfl) (Nat.le_of_ble_eq_true rfl) (Nat.le_of_ble_eq_true rfl) hx9 ?_
  intro r G9 hr
  exact hr.elim
set_option maxRecDepth 100000 in
set_option maxHeartbeats 4000000 in
theorem a_price_2 {d b0 : Nat} {G : GH} {A B : ST} {ad : AD} (hW : World A B ad G) {x1 x2 x3 x4 : Int32} (hC : CT mX8_price d b0 G [.ref (ad 0 0), .int x1, .int x2] 20 400 (fun _ _ => False) (fun E G' => E = "java/lang/IllegalArgumentException" ∧ G' = G)) : CT mL_act (d + 1) b0 G [.ref (ad 0 0), .int 12, .int x1, .int x2, .int x3, .int x4] 20 400 (fun r G' => r = some (.int (-1662000)) ∧ G' = G) (fun _ _ => False) := by
  refine CT.introW (by decide +kernel) (List.cons_ne_nil _ _) (Nat.le_of_ble_eq_true rfl) ?_
  show WP mL_act _ _ _ _ _ 20 400 0 [(0, .ref (ad 0 0)), (1, .int 12), (2, .int x1), (3, .int x2), (4, .int x3), (5, .int x4)] []
  refine r_iload_n dL_act_0 rfl 1 rfl ?_
  refine r_if_ne 13 dL_act_1 (by decide) (fun c_1 => ?_) (fun c_1 => absurd c_1 (by decide))
  refine r_iload_n dL_act_13 rfl 1 rfl ?_
  refine r_iconst (v := 1) dL_act_14 (by decide) ?_
  refine r_icmp_ne 25 dL_act_15 (by decide) (fun c_2 => ?_) (fun c_2 => absurd c_2 (by decide))
  refine r_iload_n dL_act_25 rfl 1 rfl ?_
  refine r_iconst (v := 2) dL_act_26 (by decide) ?_
  refine r_icmp_ne 41 dL_act_27 (by decide) (fun c_3 => ?_) (fun c_3 => absurd c_3 (by decide))
  refine r_iload_n dL_act_41 rfl 1 rfl ?_
  refine r_iconst (v := 3) dL_act_42 (by decide) ?_
  refine r_icmp_ne 54 dL_act_43 (by decide) (fun c_4 => ?_) (fun c_4 => absurd c_4 (by decide))
  refine r_iload_n dL_act_54 rfl 1 rfl ?_
  refine r_iconst (v := 4) dL_act_55 (by decide) ?_
  refine r_icmp_ne 68 dL_act_56 (by decide) (fun c_5 => ?_) (fun c_5 => absurd c_5 (by decide))
  refine r_iload_n dL_act_68 rfl 1 rfl ?_
  refine r_iconst (v := 5) dL_act_69 (by decide) ?_
  refine r_icmp_ne 90 dL_act_70 (by decide) (fun c_6 => ?_) (fun c_6 => absurd c_6 (by decide))
  refine r_iload_n dL_act_90 rfl 1 rfl ?_
  refine r_bipush (v := 6) dL_act_91 (by decide) ?_
  refine r_icmp_ne 109 dL_act_93 (by decide) (fun c_7 => ?_) (fun c_7 => absurd c_7 (by decide))
  refine r_iload_n dL_act_109 rfl 1 rfl ?_
  refine r_bipush (v := 7) dL_act_110 (by decide) ?_
  refine r_icmp_ne 131 dL_act_112 (by decide) (fun c_8 => ?_) (fun c_8 => absurd c_8 (by decide))
  refine r_iload_n dL_act_131 rfl 1 rfl ?_
  refine r_bipush (v := 8) dL_act_132 (by decide) ?_
  refine r_icmp_ne 144 dL_act_134 (by decide) (fun c_9 => ?_) (fun c_9 => absurd c_9 (by decide))
  refine r_iload_n dL_act_144 rfl 1 rfl ?_
  refine r_bipush (v := 9) dL_act_145 (by decide) ?_
  refine r_icmp_ne 159 dL_act_147 (by decide) (fun c_10 => ?_) (fun c_10 => absurd c_10 (by decide))
  refine r_iload_n dL_act_159 rfl 1 rfl ?_
  refine r_bipush (v := 10) dL_act_160 (by decide) ?_
  refine r_icmp_ne 174 dL_act_162 (by decide) (fun c_11 => ?_) (fun c_11 => absurd c_11 (by decide))
  refine r_iload_n dL_act_174 rfl 1 rfl ?_
  refine r_bipush (v := 11) dL_act_175 (by decide) ?_
  refine r_icmp_ne 191 dL_act_177 (by decide) (fun c_12 => ?_) (fun c_12 => absurd c_12 (by decide))
  refine r_iload_n dL_act_191 rfl 1 rfl ?_
  refine r_bipush (v := 12) dL_act_192 (by decide) ?_
  refine r_icmp_ne 206 dL_act_194 (by decide) (fun c_13 => absurd (by decide) c_13) (fun c_13 => ?_)
  refine r_aload_n dL_act_197 rfl 0 rfl ?_
  refine r_iload_n dL_act_198 rfl 2 rfl ?_
  refine r_iload_n dL_act_199 rfl 3 rfl ?_
  have hx9 : ∀ (E9 : String) (G9 : GH), (E9 = "java/lang/IllegalArgumentException" ∧ G9 = G) → WX mL_act (d + 1) b0 (fun r G' => r = some (.int (-1662000)) ∧ G' = G) (fun _ _ => False) G9 0 0 200 [(0, .ref (ad 0 0)), (1, .int 12), (2, .int x1), (3, .int x2), (4, .int x3), (5, .int x4)] E9 := by
    intro E9 G9 hx
    obtain ⟨rfl, rfl⟩ := hx
    refine r_catch [⟨0, 286, 287, 74⟩] ⟨0, 286, 292, 77⟩ [⟨0, 286, 297, 80⟩] rfl (fun z hz => by
      simp only [List.mem_cons, List.not_mem_nil, or_false] at hz
      rw [hz]; exact ⟨by decide, "java/lang/IndexOutOfBoundsException", t_201, by decide +kernel⟩) (by decide) (by decide) t_202 (by decide +kernel) (fun q => ?_)
    show WP mL_act _ _ _ _ _ _ _ 292 [(0, .ref (ad 0 0)), (1, .int 12), (2, .int x1), (3, .int x2), (4, .int x3), (5, .int x4)] [.ref q]
    refine r_astore [(6, .ref q), (0, .ref (ad 0 0)), (1, .int 12), (2, .int x1), (3, .int x2), (4, .int x3), (5, .int x4)] dL_act_292 (by decide) rfl ?_
    refine r_ldc dL_act_294 con_79 ?_
    refine r_ireti dL_act_296 rfl ?_
    exact ⟨rfl, rfl⟩
  refine r_callV (st := []) [.int x1, .int x2] 0 0 dL_act_200 kX8_price nX8_price lRL_55 (hW.g 0 0 rfl) rfl hC rfl rfl (Nat.le_of_ble_eq_true rfl) (Nat.le_of_ble_eq_true rfl) (Nat.le_of_ble_eq_true rfl) hx9 ?_
  intro r G9 hr
  exact hr.elim
set_option maxRecDepth 100000 in
set_option maxHeartbeats 4000000 in
theorem a_faultOf_0 {d b0 : Nat} {G : GH} {A B : ST} {ad : AD} (hW : World A B ad G) {st : ST} {v : Int32} {x1 x2 x3 x4 : Int32} (hC : CT mX8_faultOf d b0 G [.ref (ad 0 0), .int x1, .int x2, .int x3, .int x4] 20 400 (OPo (v) st B ad A) (fun _ _ => False)) : CT mL_act (d + 1) b0 G [.ref (ad 0 0), .int 13, .int x1, .int x2, .int x3, .int x4] 20 400 (OPo (v) st B ad A) (fun _ _ => False) := by
  refine CT.introW (by decide +kernel) (List.cons_ne_nil _ _) (Nat.le_of_ble_eq_true rfl) ?_
  show WP mL_act _ _ _ _ _ 20 400 0 [(0, .ref (ad 0 0)), (1, .int 13), (2, .int x1), (3, .int x2), (4, .int x3), (5, .int x4)] []
  refine r_iload_n dL_act_0 rfl 1 rfl ?_
  refine r_if_ne 13 dL_act_1 (by decide) (fun c_1 => ?_) (fun c_1 => absurd c_1 (by decide))
  refine r_iload_n dL_act_13 rfl 1 rfl ?_
  refine r_iconst (v := 1) dL_act_14 (by decide) ?_
  refine r_icmp_ne 25 dL_act_15 (by decide) (fun c_2 => ?_) (fun c_2 => absurd c_2 (by decide))
  refine r_iload_n dL_act_25 rfl 1 rfl ?_
  refine r_iconst (v := 2) dL_act_26 (by decide) ?_
  refine r_icmp_ne 41 dL_act_27 (by decide) (fun c_3 => ?_) (fun c_3 => absurd c_3 (by decide))
  refine r_iload_n dL_act_41 rfl 1 rfl ?_
  refine r_iconst (v := 3) dL_act_42 (by decide) ?_
  refine r_icmp_ne 54 dL_act_43 (by decide) (fun c_4 => ?_) (fun c_4 => absurd c_4 (by decide))
  refine r_iload_n dL_act_54 rfl 1 rfl ?_
  refine r_iconst (v := 4) dL_act_55 (by decide) ?_
  refine r_icmp_ne 68 dL_act_56 (by decide) (fun c_5 => ?_) (fun c_5 => absurd c_5 (by decide))
  refine r_iload_n dL_act_68 rfl 1 rfl ?_
  refine r_iconst (v := 5) dL_act_69 (by decide) ?_
  refine r_icmp_ne 90 dL_act_70 (by decide) (fun c_6 => ?_) (fun c_6 => absurd c_6 (by decide))
  refine r_iload_n dL_act_90 rfl 1 rfl ?_
  refine r_bipush (v := 6) dL_act_91 (by decide) ?_
  refine r_icmp_ne 109 dL_act_93 (by decide) (fun c_7 => ?_) (fun c_7 => absurd c_7 (by decide))
  refine r_iload_n dL_act_109 rfl 1 rfl ?_
  refine r_bipush (v := 7) dL_act_110 (by decide) ?_
  refine r_icmp_ne 131 dL_act_112 (by decide) (fun c_8 => ?_) (fun c_8 => absurd c_8 (by decide))
  refine r_iload_n dL_act_131 rfl 1 rfl ?_
  refine r_bipush (v := 8) dL_act_132 (by decide) ?_
  refine r_icmp_ne 144 dL_act_134 (by decide) (fun c_9 => ?_) (fun c_9 => absurd c_9 (by decide))
  refine r_iload_n dL_act_144 rfl 1 rfl ?_
  refine r_bipush (v := 9) dL_act_145 (by decide) ?_
  refine r_icmp_ne 159 dL_act_147 (by decide) (fun c_10 => ?_) (fun c_10 => absurd c_10 (by decide))
  refine r_iload_n dL_act_159 rfl 1 rfl ?_
  refine r_bipush (v := 10) dL_act_160 (by decide) ?_
  refine r_icmp_ne 174 dL_act_162 (by decide) (fun c_11 => ?_) (fun c_11 => absurd c_11 (by decide))
  refine r_iload_n dL_act_174 rfl 1 rfl ?_
  refine r_bipush (v := 11) dL_act_175 (by decide) ?_
  refine r_icmp_ne 191 dL_act_177 (by decide) (fun c_12 => ?_) (fun c_12 => absurd c_12 (by decide))
  refine r_iload_n dL_act_191 rfl 1 rfl ?_
  refine r_bipush (v := 12) dL_act_192 (by decide) ?_
  refine r_icmp_ne 206 dL_act_194 (by decide) (fun c_13 => ?_) (fun c_13 => absurd c_13 (by decide))
  refine r_iload_n dL_act_206 rfl 1 rfl ?_
  refine r_bipush (v := 13) dL_act_207 (by decide) ?_
  refine r_icmp_ne 225 dL_act_209 (by decide) (fun c_14 => absurd (by decide) c_14) (fun c_14 => ?_)
  refine r_aload_n dL_act_212 rfl 0 rfl ?_
  refine r_iload_n dL_act_213 rfl 2 rfl ?_
  refine r_iload_n dL_act_214 rfl 3 rfl ?_
  refine r_iload dL_act_215 4 rfl ?_
  refine r_iload dL_act_217 5 rfl ?_
  refine r_callV (st := []) [.int x1, .int x2, .int x3, .int x4] 0 0 dL_act_219 kX8_faultOf nX8_faultOf lRL_58 (hW.g 0 0 rfl) rfl hC rfl rfl (Nat.le_of_ble_eq_true rfl) (Nat.le_of_ble_eq_true rfl) (Nat.le_of_ble_eq_true rfl) (fun _ _ h => h.elim) ?_
  intro r G9 hr
  obtain ⟨rfl, A9, ad9, hW9, hk9, hP9, hf9⟩ := hr
  show WP mL_act _ _ _ _ _ _ _ 222 [(0, .ref (ad 0 0)), (1, .int 13), (2, .int x1), (3, .int x2), (4, .int x3), (5, .int x4)] [.int v]
  refine r_goto 286 dL_act_222 (by decide) ?_
  refine r_ireti dL_act_286 rfl ?_
  exact ⟨rfl, A9, ad9, hW9, hk9, hP9, hf9⟩
set_option maxRecDepth 100000 in
set_option maxHeartbeats 4000000 in
theorem a_faultOf_1 {d b0 : Nat} {G : GH} {A B : ST} {ad : AD} (hW : World A B ad G) {x1 x2 x3 x4 : Int32} (hC : CT mX8_faultOf d b0 G [.ref (ad 0 0), .int x1, .int x2, .int x3, .int x4] 20 400 (fun _ _ => False) (fun E G' => E = "java/lang/IndexOutOfBoundsException" ∧ G' = G)) : CT mL_act (d + 1) b0 G [.ref (ad 0 0), .int 13, .int x1, .int x2, .int x3, .int x4] 20 400 (fun r G' => r = some (.int (-1661000)) ∧ G' = G) (fun _ _ => False) := by
  refine CT.introW (by decide +kernel) (List.cons_ne_nil _ _) (Nat.le_of_ble_eq_true rfl) ?_
  show WP mL_act _ _ _ _ _ 20 400 0 [(0, .ref (ad 0 0)), (1, .int 13), (2, .int x1), (3, .int x2), (4, .int x3), (5, .int x4)] []
  refine r_iload_n dL_act_0 rfl 1 rfl ?_
  refine r_if_ne 13 dL_act_1 (by decide) (fun c_1 => ?_) (fun c_1 => absurd c_1 (by decide))
  refine r_iload_n dL_act_13 rfl 1 rfl ?_
  refine r_iconst (v := 1) dL_act_14 (by decide) ?_
  refine r_icmp_ne 25 dL_act_15 (by decide) (fun c_2 => ?_) (fun c_2 => absurd c_2 (by decide))
  refine r_iload_n dL_act_25 rfl 1 rfl ?_
  refine r_iconst (v := 2) dL_act_26 (by decide) ?_
  refine r_icmp_ne 41 dL_act_27 (by decide) (fun c_3 => ?_) (fun c_3 => absurd c_3 (by decide))
  refine r_iload_n dL_act_41 rfl 1 rfl ?_
  refine r_iconst (v := 3) dL_act_42 (by decide) ?_
  refine r_icmp_ne 54 dL_act_43 (by decide) (fun c_4 => ?_) (fun c_4 => absurd c_4 (by decide))
  refine r_iload_n dL_act_54 rfl 1 rfl ?_
  refine r_iconst (v := 4) dL_act_55 (by decide) ?_
  refine r_icmp_ne 68 dL_act_56 (by decide) (fun c_5 => ?_) (fun c_5 => absurd c_5 (by decide))
  refine r_iload_n dL_act_68 rfl 1 rfl ?_
  refine r_iconst (v := 5) dL_act_69 (by decide) ?_
  refine r_icmp_ne 90 dL_act_70 (by decide) (fun c_6 => ?_) (fun c_6 => absurd c_6 (by decide))
  refine r_iload_n dL_act_90 rfl 1 rfl ?_
  refine r_bipush (v := 6) dL_act_91 (by decide) ?_
  refine r_icmp_ne 109 dL_act_93 (by decide) (fun c_7 => ?_) (fun c_7 => absurd c_7 (by decide))
  refine r_iload_n dL_act_109 rfl 1 rfl ?_
  refine r_bipush (v := 7) dL_act_110 (by decide) ?_
  refine r_icmp_ne 131 dL_act_112 (by decide) (fun c_8 => ?_) (fun c_8 => absurd c_8 (by decide))
  refine r_iload_n dL_act_131 rfl 1 rfl ?_
  refine r_bipush (v := 8) dL_act_132 (by decide) ?_
  refine r_icmp_ne 144 dL_act_134 (by decide) (fun c_9 => ?_) (fun c_9 => absurd c_9 (by decide))
  refine r_iload_n dL_act_144 rfl 1 rfl ?_
  refine r_bipush (v := 9) dL_act_145 (by decide) ?_
  refine r_icmp_ne 159 dL_act_147 (by decide) (fun c_10 => ?_) (fun c_10 => absurd c_10 (by decide))
  refine r_iload_n dL_act_159 rfl 1 rfl ?_
  refine r_bipush (v := 10) dL_act_160 (by decide) ?_
  refine r_icmp_ne 174 dL_act_162 (by decide) (fun c_11 => ?_) (fun c_11 => absurd c_11 (by decide))
  refine r_iload_n dL_act_174 rfl 1 rfl ?_
  refine r_bipush (v := 11) dL_act_175 (by decide) ?_
  refine r_icmp_ne 191 dL_act_177 (by decide) (fun c_12 => ?_) (fun c_12 => absurd c_12 (by decide))
  refine r_iload_n dL_act_191 rfl 1 rfl ?_
  refine r_bipush (v := 12) dL_act_192 (by decide) ?_
  refine r_icmp_ne 206 dL_act_194 (by decide) (fun c_13 => ?_) (fun c_13 => absurd c_13 (by decide))
  refine r_iload_n dL_act_206 rfl 1 rfl ?_
  refine r_bipush (v := 13) dL_act_207 (by decide) ?_
  refine r_icmp_ne 225 dL_act_209 (by decide) (fun c_14 => absurd (by decide) c_14) (fun c_14 => ?_)
  refine r_aload_n dL_act_212 rfl 0 rfl ?_
  refine r_iload_n dL_act_213 rfl 2 rfl ?_
  refine r_iload_n dL_act_214 rfl 3 rfl ?_
  refine r_iload dL_act_215 4 rfl ?_
  refine r_iload dL_act_217 5 rfl ?_
  have hx9 : ∀ (E9 : String) (G9 : GH), (E9 = "java/lang/IndexOutOfBoundsException" ∧ G9 = G) → WX mL_act (d + 1) b0 (fun r G' => r = some (.int (-1661000)) ∧ G' = G) (fun _ _ => False) G9 0 0 219 [(0, .ref (ad 0 0)), (1, .int 13), (2, .int x1), (3, .int x2), (4, .int x3), (5, .int x4)] E9 := by
    intro E9 G9 hx
    obtain ⟨rfl, rfl⟩ := hx
    refine r_catch [] ⟨0, 286, 287, 74⟩ [⟨0, 286, 292, 77⟩, ⟨0, 286, 297, 80⟩] rfl (fun z hz => by cases hz) (by decide) (by decide) t_201 (by decide +kernel) (fun q => ?_)
    show WP mL_act _ _ _ _ _ _ _ 287 [(0, .ref (ad 0 0)), (1, .int 13), (2, .int x1), (3, .int x2), (4, .int x3), (5, .int x4)] [.ref q]
    refine r_astore [(6, .ref q), (0, .ref (ad 0 0)), (1, .int 13), (2, .int x1), (3, .int x2), (4, .int x3), (5, .int x4)] dL_act_287 (by decide) rfl ?_
    refine r_ldc dL_act_289 con_76 ?_
    refine r_ireti dL_act_291 rfl ?_
    exact ⟨rfl, rfl⟩
  refine r_callV (st := []) [.int x1, .int x2, .int x3, .int x4] 0 0 dL_act_219 kX8_faultOf nX8_faultOf lRL_58 (hW.g 0 0 rfl) rfl hC rfl rfl (Nat.le_of_ble_eq_true rfl) (Nat.le_of_ble_eq_true rfl) (Nat.le_of_ble_eq_true rfl) hx9 ?_
  intro r G9 hr
  exact hr.elim
set_option maxRecDepth 100000 in
set_option maxHeartbeats 4000000 in
theorem a_faultOf_2 {d b0 : Nat} {G : GH} {A B : ST} {ad : AD} (hW : World A B ad G) {x1 x2 x3 x4 : Int32} (hC : CT mX8_faultOf d b0 G [.ref (ad 0 0), .int x1, .int x2, .int x3, .int x4] 20 400 (fun _ _ => False) (fun E G' => E = "java/lang/IllegalArgumentException" ∧ G' = G)) : CT mL_act (d + 1) b0 G [.ref (ad 0 0), .int 13, .int x1, .int x2, .int x3, .int x4] 20 400 (fun r G' => r = some (.int (-1662000)) ∧ G' = G) (fun _ _ => False) := by
  refine CT.introW (by decide +kernel) (List.cons_ne_nil _ _) (Nat.le_of_ble_eq_true rfl) ?_
  show WP mL_act _ _ _ _ _ 20 400 0 [(0, .ref (ad 0 0)), (1, .int 13), (2, .int x1), (3, .int x2), (4, .int x3), (5, .int x4)] []
  refine r_iload_n dL_act_0 rfl 1 rfl ?_
  refine r_if_ne 13 dL_act_1 (by decide) (fun c_1 => ?_) (fun c_1 => absurd c_1 (by decide))
  refine r_iload_n dL_act_13 rfl 1 rfl ?_
  refine r_iconst (v := 1) dL_act_14 (by decide) ?_
  refine r_icmp_ne 25 dL_act_15 (by decide) (fun c_2 => ?_) (fun c_2 => absurd c_2 (by decide))
  refine r_iload_n dL_act_25 rfl 1 rfl ?_
  refine r_iconst (v := 2) dL_act_26 (by decide) ?_
  refine r_icmp_ne 41 dL_act_27 (by decide) (fun c_3 => ?_) (fun c_3 => absurd c_3 (by decide))
  refine r_iload_n dL_act_41 rfl 1 rfl ?_
  refine r_iconst (v := 3) dL_act_42 (by decide) ?_
  refine r_icmp_ne 54 dL_act_43 (by decide) (fun c_4 => ?_) (fun c_4 => absurd c_4 (by decide))
  refine r_iload_n dL_act_54 rfl 1 rfl ?_
  refine r_iconst (v := 4) dL_act_55 (by decide) ?_
  refine r_icmp_ne 68 dL_act_56 (by decide) (fun c_5 => ?_) (fun c_5 => absurd c_5 (by decide))
  refine r_iload_n dL_act_68 rfl 1 rfl ?_
  refine r_iconst (v := 5) dL_act_69 (by decide) ?_
  refine r_icmp_ne 90 dL_act_70 (by decide) (fun c_6 => ?_) (fun c_6 => absurd c_6 (by decide))
  refine r_iload_n dL_act_90 rfl 1 rfl ?_
  refine r_bipush (v := 6) dL_act_91 (by decide) ?_
  refine r_icmp_ne 109 dL_act_93 (by decide) (fun c_7 => ?_) (fun c_7 => absurd c_7 (by decide))
  refine r_iload_n dL_act_109 rfl 1 rfl ?_
  refine r_bipush (v := 7) dL_act_110 (by decide) ?_
  refine r_icmp_ne 131 dL_act_112 (by decide) (fun c_8 => ?_) (fun c_8 => absurd c_8 (by decide))
  refine r_iload_n dL_act_131 rfl 1 rfl ?_
  refine r_bipush (v := 8) dL_act_132 (by decide) ?_
  refine r_icmp_ne 144 dL_act_134 (by decide) (fun c_9 => ?_) (fun c_9 => absurd c_9 (by decide))
  refine r_iload_n dL_act_144 rfl 1 rfl ?_
  refine r_bipush (v := 9) dL_act_145 (by decide) ?_
  refine r_icmp_ne 159 dL_act_147 (by decide) (fun c_10 => ?_) (fun c_10 => absurd c_10 (by decide))
  refine r_iload_n dL_act_159 rfl 1 rfl ?_
  refine r_bipush (v := 10) dL_act_160 (by decide) ?_
  refine r_icmp_ne 174 dL_act_162 (by decide) (fun c_11 => ?_) (fun c_11 => absurd c_11 (by decide))
  refine r_iload_n dL_act_174 rfl 1 rfl ?_
  refine r_bipush (v := 11) dL_act_175 (by decide) ?_
  refine r_icmp_ne 191 dL_act_177 (by decide) (fun c_12 => ?_) (fun c_12 => absurd c_12 (by decide))
  refine r_iload_n dL_act_191 rfl 1 rfl ?_
  refine r_bipush (v := 12) dL_act_192 (by decide) ?_
  refine r_icmp_ne 206 dL_act_194 (by decide) (fun c_13 => ?_) (fun c_13 => absurd c_13 (by decide))
  refine r_iload_n dL_act_206 rfl 1 rfl ?_
  refine r_bipush (v := 13) dL_act_207 (by decide) ?_
  refine r_icmp_ne 225 dL_act_209 (by decide) (fun c_14 => absurd (by decide) c_14) (fun c_14 => ?_)
  refine r_aload_n dL_act_212 rfl 0 rfl ?_
  refine r_iload_n dL_act_213 rfl 2 rfl ?_
  refine r_iload_n dL_act_214 rfl 3 rfl ?_
  refine r_iload dL_act_215 4 rfl ?_
  refine r_iload dL_act_217 5 rfl ?_
  have hx9 : ∀ (E9 : String) (G9 : GH), (E9 = "java/lang/IllegalArgumentException" ∧ G9 = G) → WX mL_act (d + 1) b0 (fun r G' => r = some (.int (-1662000)) ∧ G' = G) (fun _ _ => False) G9 0 0 219 [(0, .ref (ad 0 0)), (1, .int 13), (2, .int x1), (3, .int x2), (4, .int x3), (5, .int x4)] E9 := by
    intro E9 G9 hx
    obtain ⟨rfl, rfl⟩ := hx
    refine r_catch [⟨0, 286, 287, 74⟩] ⟨0, 286, 292, 77⟩ [⟨0, 286, 297, 80⟩] rfl (fun z hz => by
      simp only [List.mem_cons, List.not_mem_nil, or_false] at hz
      rw [hz]; exact ⟨by decide, "java/lang/IndexOutOfBoundsException", t_201, by decide +kernel⟩) (by decide) (by decide) t_202 (by decide +kernel) (fun q => ?_)
    show WP mL_act _ _ _ _ _ _ _ 292 [(0, .ref (ad 0 0)), (1, .int 13), (2, .int x1), (3, .int x2), (4, .int x3), (5, .int x4)] [.ref q]
    refine r_astore [(6, .ref q), (0, .ref (ad 0 0)), (1, .int 13), (2, .int x1), (3, .int x2), (4, .int x3), (5, .int x4)] dL_act_292 (by decide) rfl ?_
    refine r_ldc dL_act_294 con_79 ?_
    refine r_ireti dL_act_296 rfl ?_
    exact ⟨rfl, rfl⟩
  refine r_callV (st := []) [.int x1, .int x2, .int x3, .int x4] 0 0 dL_act_219 kX8_faultOf nX8_faultOf lRL_58 (hW.g 0 0 rfl) rfl hC rfl rfl (Nat.le_of_ble_eq_true rfl) (Nat.le_of_ble_eq_true rfl) (Nat.le_of_ble_eq_true rfl) hx9 ?_
  intro r G9 hr
  exact hr.elim
set_option maxRecDepth 100000 in
set_option maxHeartbeats 4000000 in
theorem a_sign_0 {d b0 : Nat} {G : GH} {A B : ST} {ad : AD} (hW : World A B ad G) {st : ST} {v : Int32} {x1 x2 x3 x4 : Int32} (hC : CT mX8_sign d b0 G [.ref (ad 0 0), .int x1, .int x2, .int x3, .int x4] 20 400 (OPo (v) st B ad A) (fun _ _ => False)) : CT mL_act (d + 1) b0 G [.ref (ad 0 0), .int 14, .int x1, .int x2, .int x3, .int x4] 20 400 (OPo (v) st B ad A) (fun _ _ => False) := by
  refine CT.introW (by decide +kernel) (List.cons_ne_nil _ _) (Nat.le_of_ble_eq_true rfl) ?_
  show WP mL_act _ _ _ _ _ 20 400 0 [(0, .ref (ad 0 0)), (1, .int 14), (2, .int x1), (3, .int x2), (4, .int x3), (5, .int x4)] []
  refine r_iload_n dL_act_0 rfl 1 rfl ?_
  refine r_if_ne 13 dL_act_1 (by decide) (fun c_1 => ?_) (fun c_1 => absurd c_1 (by decide))
  refine r_iload_n dL_act_13 rfl 1 rfl ?_
  refine r_iconst (v := 1) dL_act_14 (by decide) ?_
  refine r_icmp_ne 25 dL_act_15 (by decide) (fun c_2 => ?_) (fun c_2 => absurd c_2 (by decide))
  refine r_iload_n dL_act_25 rfl 1 rfl ?_
  refine r_iconst (v := 2) dL_act_26 (by decide) ?_
  refine r_icmp_ne 41 dL_act_27 (by decide) (fun c_3 => ?_) (fun c_3 => absurd c_3 (by decide))
  refine r_iload_n dL_act_41 rfl 1 rfl ?_
  refine r_iconst (v := 3) dL_act_42 (by decide) ?_
  refine r_icmp_ne 54 dL_act_43 (by decide) (fun c_4 => ?_) (fun c_4 => absurd c_4 (by decide))
  refine r_iload_n dL_act_54 rfl 1 rfl ?_
  refine r_iconst (v := 4) dL_act_55 (by decide) ?_
  refine r_icmp_ne 68 dL_act_56 (by decide) (fun c_5 => ?_) (fun c_5 => absurd c_5 (by decide))
  refine r_iload_n dL_act_68 rfl 1 rfl ?_
  refine r_iconst (v := 5) dL_act_69 (by decide) ?_
  refine r_icmp_ne 90 dL_act_70 (by decide) (fun c_6 => ?_) (fun c_6 => absurd c_6 (by decide))
  refine r_iload_n dL_act_90 rfl 1 rfl ?_
  refine r_bipush (v := 6) dL_act_91 (by decide) ?_
  refine r_icmp_ne 109 dL_act_93 (by decide) (fun c_7 => ?_) (fun c_7 => absurd c_7 (by decide))
  refine r_iload_n dL_act_109 rfl 1 rfl ?_
  refine r_bipush (v := 7) dL_act_110 (by decide) ?_
  refine r_icmp_ne 131 dL_act_112 (by decide) (fun c_8 => ?_) (fun c_8 => absurd c_8 (by decide))
  refine r_iload_n dL_act_131 rfl 1 rfl ?_
  refine r_bipush (v := 8) dL_act_132 (by decide) ?_
  refine r_icmp_ne 144 dL_act_134 (by decide) (fun c_9 => ?_) (fun c_9 => absurd c_9 (by decide))
  refine r_iload_n dL_act_144 rfl 1 rfl ?_
  refine r_bipush (v := 9) dL_act_145 (by decide) ?_
  refine r_icmp_ne 159 dL_act_147 (by decide) (fun c_10 => ?_) (fun c_10 => absurd c_10 (by decide))
  refine r_iload_n dL_act_159 rfl 1 rfl ?_
  refine r_bipush (v := 10) dL_act_160 (by decide) ?_
  refine r_icmp_ne 174 dL_act_162 (by decide) (fun c_11 => ?_) (fun c_11 => absurd c_11 (by decide))
  refine r_iload_n dL_act_174 rfl 1 rfl ?_
  refine r_bipush (v := 11) dL_act_175 (by decide) ?_
  refine r_icmp_ne 191 dL_act_177 (by decide) (fun c_12 => ?_) (fun c_12 => absurd c_12 (by decide))
  refine r_iload_n dL_act_191 rfl 1 rfl ?_
  refine r_bipush (v := 12) dL_act_192 (by decide) ?_
  refine r_icmp_ne 206 dL_act_194 (by decide) (fun c_13 => ?_) (fun c_13 => absurd c_13 (by decide))
  refine r_iload_n dL_act_206 rfl 1 rfl ?_
  refine r_bipush (v := 13) dL_act_207 (by decide) ?_
  refine r_icmp_ne 225 dL_act_209 (by decide) (fun c_14 => ?_) (fun c_14 => absurd c_14 (by decide))
  refine r_iload_n dL_act_225 rfl 1 rfl ?_
  refine r_bipush (v := 14) dL_act_226 (by decide) ?_
  refine r_icmp_ne 244 dL_act_228 (by decide) (fun c_15 => absurd (by decide) c_15) (fun c_15 => ?_)
  refine r_aload_n dL_act_231 rfl 0 rfl ?_
  refine r_iload_n dL_act_232 rfl 2 rfl ?_
  refine r_iload_n dL_act_233 rfl 3 rfl ?_
  refine r_iload dL_act_234 4 rfl ?_
  refine r_iload dL_act_236 5 rfl ?_
  refine r_callV (st := []) [.int x1, .int x2, .int x3, .int x4] 0 0 dL_act_238 kX8_sign nX8_sign lRL_61 (hW.g 0 0 rfl) rfl hC rfl rfl (Nat.le_of_ble_eq_true rfl) (Nat.le_of_ble_eq_true rfl) (Nat.le_of_ble_eq_true rfl) (fun _ _ h => h.elim) ?_
  intro r G9 hr
  obtain ⟨rfl, A9, ad9, hW9, hk9, hP9, hf9⟩ := hr
  show WP mL_act _ _ _ _ _ _ _ 241 [(0, .ref (ad 0 0)), (1, .int 14), (2, .int x1), (3, .int x2), (4, .int x3), (5, .int x4)] [.int v]
  refine r_goto 286 dL_act_241 (by decide) ?_
  refine r_ireti dL_act_286 rfl ?_
  exact ⟨rfl, A9, ad9, hW9, hk9, hP9, hf9⟩
set_option maxRecDepth 100000 in
set_option maxHeartbeats 4000000 in
theorem a_sign_1 {d b0 : Nat} {G : GH} {A B : ST} {ad : AD} (hW : World A B ad G) {x1 x2 x3 x4 : Int32} (hC : CT mX8_sign d b0 G [.ref (ad 0 0), .int x1, .int x2, .int x3, .int x4] 20 400 (fun _ _ => False) (fun E G' => E = "java/lang/IndexOutOfBoundsException" ∧ G' = G)) : CT mL_act (d + 1) b0 G [.ref (ad 0 0), .int 14, .int x1, .int x2, .int x3, .int x4] 20 400 (fun r G' => r = some (.int (-1661000)) ∧ G' = G) (fun _ _ => False) := by
  refine CT.introW (by decide +kernel) (List.cons_ne_nil _ _) (Nat.le_of_ble_eq_true rfl) ?_
  show WP mL_act _ _ _ _ _ 20 400 0 [(0, .ref (ad 0 0)), (1, .int 14), (2, .int x1), (3, .int x2), (4, .int x3), (5, .int x4)] []
  refine r_iload_n dL_act_0 rfl 1 rfl ?_
  refine r_if_ne 13 dL_act_1 (by decide) (fun c_1 => ?_) (fun c_1 => absurd c_1 (by decide))
  refine r_iload_n dL_act_13 rfl 1 rfl ?_
  refine r_iconst (v := 1) dL_act_14 (by decide) ?_
  refine r_icmp_ne 25 dL_act_15 (by decide) (fun c_2 => ?_) (fun c_2 => absurd c_2 (by decide))
  refine r_iload_n dL_act_25 rfl 1 rfl ?_
  refine r_iconst (v := 2) dL_act_26 (by decide) ?_
  refine r_icmp_ne 41 dL_act_27 (by decide) (fun c_3 => ?_) (fun c_3 => absurd c_3 (by decide))
  refine r_iload_n dL_act_41 rfl 1 rfl ?_
  refine r_iconst (v := 3) dL_act_42 (by decide) ?_
  refine r_icmp_ne 54 dL_act_43 (by decide) (fun c_4 => ?_) (fun c_4 => absurd c_4 (by decide))
  refine r_iload_n dL_act_54 rfl 1 rfl ?_
  refine r_iconst (v := 4) dL_act_55 (by decide) ?_
  refine r_icmp_ne 68 dL_act_56 (by decide) (fun c_5 => ?_) (fun c_5 => absurd c_5 (by decide))
  refine r_iload_n dL_act_68 rfl 1 rfl ?_
  refine r_iconst (v := 5) dL_act_69 (by decide) ?_
  refine r_icmp_ne 90 dL_act_70 (by decide) (fun c_6 => ?_) (fun c_6 => absurd c_6 (by decide))
  refine r_iload_n dL_act_90 rfl 1 rfl ?_
  refine r_bipush (v := 6) dL_act_91 (by decide) ?_
  refine r_icmp_ne 109 dL_act_93 (by decide) (fun c_7 => ?_) (fun c_7 => absurd c_7 (by decide))
  refine r_iload_n dL_act_109 rfl 1 rfl ?_
  refine r_bipush (v := 7) dL_act_110 (by decide) ?_
  refine r_icmp_ne 131 dL_act_112 (by decide) (fun c_8 => ?_) (fun c_8 => absurd c_8 (by decide))
  refine r_iload_n dL_act_131 rfl 1 rfl ?_
  refine r_bipush (v := 8) dL_act_132 (by decide) ?_
  refine r_icmp_ne 144 dL_act_134 (by decide) (fun c_9 => ?_) (fun c_9 => absurd c_9 (by decide))
  refine r_iload_n dL_act_144 rfl 1 rfl ?_
  refine r_bipush (v := 9) dL_act_145 (by decide) ?_
  refine r_icmp_ne 159 dL_act_147 (by decide) (fun c_10 => ?_) (fun c_10 => absurd c_10 (by decide))
  refine r_iload_n dL_act_159 rfl 1 rfl ?_
  refine r_bipush (v := 10) dL_act_160 (by decide) ?_
  refine r_icmp_ne 174 dL_act_162 (by decide) (fun c_11 => ?_) (fun c_11 => absurd c_11 (by decide))
  refine r_iload_n dL_act_174 rfl 1 rfl ?_
  refine r_bipush (v := 11) dL_act_175 (by decide) ?_
  refine r_icmp_ne 191 dL_act_177 (by decide) (fun c_12 => ?_) (fun c_12 => absurd c_12 (by decide))
  refine r_iload_n dL_act_191 rfl 1 rfl ?_
  refine r_bipush (v := 12) dL_act_192 (by decide) ?_
  refine r_icmp_ne 206 dL_act_194 (by decide) (fun c_13 => ?_) (fun c_13 => absurd c_13 (by decide))
  refine r_iload_n dL_act_206 rfl 1 rfl ?_
  refine r_bipush (v := 13) dL_act_207 (by decide) ?_
  refine r_icmp_ne 225 dL_act_209 (by decide) (fun c_14 => ?_) (fun c_14 => absurd c_14 (by decide))
  refine r_iload_n dL_act_225 rfl 1 rfl ?_
  refine r_bipush (v := 14) dL_act_226 (by decide) ?_
  refine r_icmp_ne 244 dL_act_228 (by decide) (fun c_15 => absurd (by decide) c_15) (fun c_15 => ?_)
  refine r_aload_n dL_act_231 rfl 0 rfl ?_
  refine r_iload_n dL_act_232 rfl 2 rfl ?_
  refine r_iload_n dL_act_233 rfl 3 rfl ?_
  refine r_iload dL_act_234 4 rfl ?_
  refine r_iload dL_act_236 5 rfl ?_
  have hx9 : ∀ (E9 : String) (G9 : GH), (E9 = "java/lang/IndexOutOfBoundsException" ∧ G9 = G) → WX mL_act (d + 1) b0 (fun r G' => r = some (.int (-1661000)) ∧ G' = G) (fun _ _ => False) G9 0 0 238 [(0, .ref (ad 0 0)), (1, .int 14), (2, .int x1), (3, .int x2), (4, .int x3), (5, .int x4)] E9 := by
    intro E9 G9 hx
    obtain ⟨rfl, rfl⟩ := hx
    refine r_catch [] ⟨0, 286, 287, 74⟩ [⟨0, 286, 292, 77⟩, ⟨0, 286, 297, 80⟩] rfl (fun z hz => by cases hz) (by decide) (by decide) t_201 (by decide +kernel) (fun q => ?_)
    show WP mL_act _ _ _ _ _ _ _ 287 [(0, .ref (ad 0 0)), (1, .int 14), (2, .int x1), (3, .int x2), (4, .int x3), (5, .int x4)] [.ref q]
    refine r_astore [(6, .ref q), (0, .ref (ad 0 0)), (1, .int 14), (2, .int x1), (3, .int x2), (4, .int x3), (5, .int x4)] dL_act_287 (by decide) rfl ?_
    refine r_ldc dL_act_289 con_76 ?_
    refine r_ireti dL_act_291 rfl ?_
    exact ⟨rfl, rfl⟩
  refine r_callV (st := []) [.int x1, .int x2, .int x3, .int x4] 0 0 dL_act_238 kX8_sign nX8_sign lRL_61 (hW.g 0 0 rfl) rfl hC rfl rfl (Nat.le_of_ble_eq_true rfl) (Nat.le_of_ble_eq_true rfl) (Nat.le_of_ble_eq_true rfl) hx9 ?_
  intro r G9 hr
  exact hr.elim
set_option maxRecDepth 100000 in
set_option maxHeartbeats 4000000 in
theorem a_signAnew_0 {d b0 : Nat} {G : GH} {A B : ST} {ad : AD} (hW : World A B ad G) {st : ST} {v : Int32} {x1 x2 x3 x4 : Int32} (hC : CT mX8_signAnew d b0 G [.ref (ad 0 0), .int x1, .int x2, .int x3, .int x4] 20 400 (OPo (v) st B ad A) (fun _ _ => False)) : CT mL_act (d + 1) b0 G [.ref (ad 0 0), .int 15, .int x1, .int x2, .int x3, .int x4] 20 400 (OPo (v) st B ad A) (fun _ _ => False) := by
  refine CT.introW (by decide +kernel) (List.cons_ne_nil _ _) (Nat.le_of_ble_eq_true rfl) ?_
  show WP mL_act _ _ _ _ _ 20 400 0 [(0, .ref (ad 0 0)), (1, .int 15), (2, .int x1), (3, .int x2), (4, .int x3), (5, .int x4)] []
  refine r_iload_n dL_act_0 rfl 1 rfl ?_
  refine r_if_ne 13 dL_act_1 (by decide) (fun c_1 => ?_) (fun c_1 => absurd c_1 (by decide))
  refine r_iload_n dL_act_13 rfl 1 rfl ?_
  refine r_iconst (v := 1) dL_act_14 (by decide) ?_
  refine r_icmp_ne 25 dL_act_15 (by decide) (fun c_2 => ?_) (fun c_2 => absurd c_2 (by decide))
  refine r_iload_n dL_act_25 rfl 1 rfl ?_
  refine r_iconst (v := 2) dL_act_26 (by decide) ?_
  refine r_icmp_ne 41 dL_act_27 (by decide) (fun c_3 => ?_) (fun c_3 => absurd c_3 (by decide))
  refine r_iload_n dL_act_41 rfl 1 rfl ?_
  refine r_iconst (v := 3) dL_act_42 (by decide) ?_
  refine r_icmp_ne 54 dL_act_43 (by decide) (fun c_4 => ?_) (fun c_4 => absurd c_4 (by decide))
  refine r_iload_n dL_act_54 rfl 1 rfl ?_
  refine r_iconst (v := 4) dL_act_55 (by decide) ?_
  refine r_icmp_ne 68 dL_act_56 (by decide) (fun c_5 => ?_) (fun c_5 => absurd c_5 (by decide))
  refine r_iload_n dL_act_68 rfl 1 rfl ?_
  refine r_iconst (v := 5) dL_act_69 (by decide) ?_
  refine r_icmp_ne 90 dL_act_70 (by decide) (fun c_6 => ?_) (fun c_6 => absurd c_6 (by decide))
  refine r_iload_n dL_act_90 rfl 1 rfl ?_
  refine r_bipush (v := 6) dL_act_91 (by decide) ?_
  refine r_icmp_ne 109 dL_act_93 (by decide) (fun c_7 => ?_) (fun c_7 => absurd c_7 (by decide))
  refine r_iload_n dL_act_109 rfl 1 rfl ?_
  refine r_bipush (v := 7) dL_act_110 (by decide) ?_
  refine r_icmp_ne 131 dL_act_112 (by decide) (fun c_8 => ?_) (fun c_8 => absurd c_8 (by decide))
  refine r_iload_n dL_act_131 rfl 1 rfl ?_
  refine r_bipush (v := 8) dL_act_132 (by decide) ?_
  refine r_icmp_ne 144 dL_act_134 (by decide) (fun c_9 => ?_) (fun c_9 => absurd c_9 (by decide))
  refine r_iload_n dL_act_144 rfl 1 rfl ?_
  refine r_bipush (v := 9) dL_act_145 (by decide) ?_
  refine r_icmp_ne 159 dL_act_147 (by decide) (fun c_10 => ?_) (fun c_10 => absurd c_10 (by decide))
  refine r_iload_n dL_act_159 rfl 1 rfl ?_
  refine r_bipush (v := 10) dL_act_160 (by decide) ?_
  refine r_icmp_ne 174 dL_act_162 (by decide) (fun c_11 => ?_) (fun c_11 => absurd c_11 (by decide))
  refine r_iload_n dL_act_174 rfl 1 rfl ?_
  refine r_bipush (v := 11) dL_act_175 (by decide) ?_
  refine r_icmp_ne 191 dL_act_177 (by decide) (fun c_12 => ?_) (fun c_12 => absurd c_12 (by decide))
  refine r_iload_n dL_act_191 rfl 1 rfl ?_
  refine r_bipush (v := 12) dL_act_192 (by decide) ?_
  refine r_icmp_ne 206 dL_act_194 (by decide) (fun c_13 => ?_) (fun c_13 => absurd c_13 (by decide))
  refine r_iload_n dL_act_206 rfl 1 rfl ?_
  refine r_bipush (v := 13) dL_act_207 (by decide) ?_
  refine r_icmp_ne 225 dL_act_209 (by decide) (fun c_14 => ?_) (fun c_14 => absurd c_14 (by decide))
  refine r_iload_n dL_act_225 rfl 1 rfl ?_
  refine r_bipush (v := 14) dL_act_226 (by decide) ?_
  refine r_icmp_ne 244 dL_act_228 (by decide) (fun c_15 => ?_) (fun c_15 => absurd c_15 (by decide))
  refine r_iload_n dL_act_244 rfl 1 rfl ?_
  refine r_bipush (v := 15) dL_act_245 (by decide) ?_
  refine r_icmp_ne 263 dL_act_247 (by decide) (fun c_16 => absurd (by decide) c_16) (fun c_16 => ?_)
  refine r_aload_n dL_act_250 rfl 0 rfl ?_
  refine r_iload_n dL_act_251 rfl 2 rfl ?_
  refine r_iload_n dL_act_252 rfl 3 rfl ?_
  refine r_iload dL_act_253 4 rfl ?_
  refine r_iload dL_act_255 5 rfl ?_
  refine r_callV (st := []) [.int x1, .int x2, .int x3, .int x4] 0 0 dL_act_257 kX8_signAnew nX8_signAnew lRL_65 (hW.g 0 0 rfl) rfl hC rfl rfl (Nat.le_of_ble_eq_true rfl) (Nat.le_of_ble_eq_true rfl) (Nat.le_of_ble_eq_true rfl) (fun _ _ h => h.elim) ?_
  intro r G9 hr
  obtain ⟨rfl, A9, ad9, hW9, hk9, hP9, hf9⟩ := hr
  show WP mL_act _ _ _ _ _ _ _ 260 [(0, .ref (ad 0 0)), (1, .int 15), (2, .int x1), (3, .int x2), (4, .int x3), (5, .int x4)] [.int v]
  refine r_goto 286 dL_act_260 (by decide) ?_
  refine r_ireti dL_act_286 rfl ?_
  exact ⟨rfl, A9, ad9, hW9, hk9, hP9, hf9⟩
set_option maxRecDepth 100000 in
set_option maxHeartbeats 4000000 in
theorem a_signAnew_1 {d b0 : Nat} {G : GH} {A B : ST} {ad : AD} (hW : World A B ad G) {x1 x2 x3 x4 : Int32} (hC : CT mX8_signAnew d b0 G [.ref (ad 0 0), .int x1, .int x2, .int x3, .int x4] 20 400 (fun _ _ => False) (fun E G' => E = "java/lang/IndexOutOfBoundsException" ∧ G' = G)) : CT mL_act (d + 1) b0 G [.ref (ad 0 0), .int 15, .int x1, .int x2, .int x3, .int x4] 20 400 (fun r G' => r = some (.int (-1661000)) ∧ G' = G) (fun _ _ => False) := by
  refine CT.introW (by decide +kernel) (List.cons_ne_nil _ _) (Nat.le_of_ble_eq_true rfl) ?_
  show WP mL_act _ _ _ _ _ 20 400 0 [(0, .ref (ad 0 0)), (1, .int 15), (2, .int x1), (3, .int x2), (4, .int x3), (5, .int x4)] []
  refine r_iload_n dL_act_0 rfl 1 rfl ?_
  refine r_if_ne 13 dL_act_1 (by decide) (fun c_1 => ?_) (fun c_1 => absurd c_1 (by decide))
  refine r_iload_n dL_act_13 rfl 1 rfl ?_
  refine r_iconst (v := 1) dL_act_14 (by decide) ?_
  refine r_icmp_ne 25 dL_act_15 (by decide) (fun c_2 => ?_) (fun c_2 => absurd c_2 (by decide))
  refine r_iload_n dL_act_25 rfl 1 rfl ?_
  refine r_iconst (v := 2) dL_act_26 (by decide) ?_
  refine r_icmp_ne 41 dL_act_27 (by decide) (fun c_3 => ?_) (fun c_3 => absurd c_3 (by decide))
  refine r_iload_n dL_act_41 rfl 1 rfl ?_
  refine r_iconst (v := 3) dL_act_42 (by decide) ?_
  refine r_icmp_ne 54 dL_act_43 (by decide) (fun c_4 => ?_) (fun c_4 => absurd c_4 (by decide))
  refine r_iload_n dL_act_54 rfl 1 rfl ?_
  refine r_iconst (v := 4) dL_act_55 (by decide) ?_
  refine r_icmp_ne 68 dL_act_56 (by decide) (fun c_5 => ?_) (fun c_5 => absurd c_5 (by decide))
  refine r_iload_n dL_act_68 rfl 1 rfl ?_
  refine r_iconst (v := 5) dL_act_69 (by decide) ?_
  refine r_icmp_ne 90 dL_act_70 (by decide) (fun c_6 => ?_) (fun c_6 => absurd c_6 (by decide))
  refine r_iload_n dL_act_90 rfl 1 rfl ?_
  refine r_bipush (v := 6) dL_act_91 (by decide) ?_
  refine r_icmp_ne 109 dL_act_93 (by decide) (fun c_7 => ?_) (fun c_7 => absurd c_7 (by decide))
  refine r_iload_n dL_act_109 rfl 1 rfl ?_
  refine r_bipush (v := 7) dL_act_110 (by decide) ?_
  refine r_icmp_ne 131 dL_act_112 (by decide) (fun c_8 => ?_) (fun c_8 => absurd c_8 (by decide))
  refine r_iload_n dL_act_131 rfl 1 rfl ?_
  refine r_bipush (v := 8) dL_act_132 (by decide) ?_
  refine r_icmp_ne 144 dL_act_134 (by decide) (fun c_9 => ?_) (fun c_9 => absurd c_9 (by decide))
  refine r_iload_n dL_act_144 rfl 1 rfl ?_
  refine r_bipush (v := 9) dL_act_145 (by decide) ?_
  refine r_icmp_ne 159 dL_act_147 (by decide) (fun c_10 => ?_) (fun c_10 => absurd c_10 (by decide))
  refine r_iload_n dL_act_159 rfl 1 rfl ?_
  refine r_bipush (v := 10) dL_act_160 (by decide) ?_
  refine r_icmp_ne 174 dL_act_162 (by decide) (fun c_11 => ?_) (fun c_11 => absurd c_11 (by decide))
  refine r_iload_n dL_act_174 rfl 1 rfl ?_
  refine r_bipush (v := 11) dL_act_175 (by decide) ?_
  refine r_icmp_ne 191 dL_act_177 (by decide) (fun c_12 => ?_) (fun c_12 => absurd c_12 (by decide))
  refine r_iload_n dL_act_191 rfl 1 rfl ?_
  refine r_bipush (v := 12) dL_act_192 (by decide) ?_
  refine r_icmp_ne 206 dL_act_194 (by decide) (fun c_13 => ?_) (fun c_13 => absurd c_13 (by decide))
  refine r_iload_n dL_act_206 rfl 1 rfl ?_
  refine r_bipush (v := 13) dL_act_207 (by decide) ?_
  refine r_icmp_ne 225 dL_act_209 (by decide) (fun c_14 => ?_) (fun c_14 => absurd c_14 (by decide))
  refine r_iload_n dL_act_225 rfl 1 rfl ?_
  refine r_bipush (v := 14) dL_act_226 (by decide) ?_
  refine r_icmp_ne 244 dL_act_228 (by decide) (fun c_15 => ?_) (fun c_15 => absurd c_15 (by decide))
  refine r_iload_n dL_act_244 rfl 1 rfl ?_
  refine r_bipush (v := 15) dL_act_245 (by decide) ?_
  refine r_icmp_ne 263 dL_act_247 (by decide) (fun c_16 => absurd (by decide) c_16) (fun c_16 => ?_)
  refine r_aload_n dL_act_250 rfl 0 rfl ?_
  refine r_iload_n dL_act_251 rfl 2 rfl ?_
  refine r_iload_n dL_act_252 rfl 3 rfl ?_
  refine r_iload dL_act_253 4 rfl ?_
  refine r_iload dL_act_255 5 rfl ?_
  have hx9 : ∀ (E9 : String) (G9 : GH), (E9 = "java/lang/IndexOutOfBoundsException" ∧ G9 = G) → WX mL_act (d + 1) b0 (fun r G' => r = some (.int (-1661000)) ∧ G' = G) (fun _ _ => False) G9 0 0 257 [(0, .ref (ad 0 0)), (1, .int 15), (2, .int x1), (3, .int x2), (4, .int x3), (5, .int x4)] E9 := by
    intro E9 G9 hx
    obtain ⟨rfl, rfl⟩ := hx
    refine r_catch [] ⟨0, 286, 287, 74⟩ [⟨0, 286, 292, 77⟩, ⟨0, 286, 297, 80⟩] rfl (fun z hz => by cases hz) (by decide) (by decide) t_201 (by decide +kernel) (fun q => ?_)
    show WP mL_act _ _ _ _ _ _ _ 287 [(0, .ref (ad 0 0)), (1, .int 15), (2, .int x1), (3, .int x2), (4, .int x3), (5, .int x4)] [.ref q]
    refine r_astore [(6, .ref q), (0, .ref (ad 0 0)), (1, .int 15), (2, .int x1), (3, .int x2), (4, .int x3), (5, .int x4)] dL_act_287 (by decide) rfl ?_
    refine r_ldc dL_act_289 con_76 ?_
    refine r_ireti dL_act_291 rfl ?_
    exact ⟨rfl, rfl⟩
  refine r_callV (st := []) [.int x1, .int x2, .int x3, .int x4] 0 0 dL_act_257 kX8_signAnew nX8_signAnew lRL_65 (hW.g 0 0 rfl) rfl hC rfl rfl (Nat.le_of_ble_eq_true rfl) (Nat.le_of_ble_eq_true rfl) (Nat.le_of_ble_eq_true rfl) hx9 ?_
  intro r G9 hr
  exact hr.elim
set_option maxRecDepth 100000 in
set_option maxHeartbeats 4000000 in
theorem a_costs_0 {d b0 : Nat} {G : GH} {A B : ST} {ad : AD} (hW : World A B ad G) {st : ST} {v : Int32} {x1 x2 x3 x4 : Int32} (hC : CT mX8_costs d b0 G [.ref (ad 0 0), .int x1, .int x2, .int x3] 20 400 (OPo (v) st B ad A) (fun _ _ => False)) : CT mL_act (d + 1) b0 G [.ref (ad 0 0), .int 16, .int x1, .int x2, .int x3, .int x4] 20 400 (OPo (v) st B ad A) (fun _ _ => False) := by
  refine CT.introW (by decide +kernel) (List.cons_ne_nil _ _) (Nat.le_of_ble_eq_true rfl) ?_
  show WP mL_act _ _ _ _ _ 20 400 0 [(0, .ref (ad 0 0)), (1, .int 16), (2, .int x1), (3, .int x2), (4, .int x3), (5, .int x4)] []
  refine r_iload_n dL_act_0 rfl 1 rfl ?_
  refine r_if_ne 13 dL_act_1 (by decide) (fun c_1 => ?_) (fun c_1 => absurd c_1 (by decide))
  refine r_iload_n dL_act_13 rfl 1 rfl ?_
  refine r_iconst (v := 1) dL_act_14 (by decide) ?_
  refine r_icmp_ne 25 dL_act_15 (by decide) (fun c_2 => ?_) (fun c_2 => absurd c_2 (by decide))
  refine r_iload_n dL_act_25 rfl 1 rfl ?_
  refine r_iconst (v := 2) dL_act_26 (by decide) ?_
  refine r_icmp_ne 41 dL_act_27 (by decide) (fun c_3 => ?_) (fun c_3 => absurd c_3 (by decide))
  refine r_iload_n dL_act_41 rfl 1 rfl ?_
  refine r_iconst (v := 3) dL_act_42 (by decide) ?_
  refine r_icmp_ne 54 dL_act_43 (by decide) (fun c_4 => ?_) (fun c_4 => absurd c_4 (by decide))
  refine r_iload_n dL_act_54 rfl 1 rfl ?_
  refine r_iconst (v := 4) dL_act_55 (by decide) ?_
  refine r_icmp_ne 68 dL_act_56 (by decide) (fun c_5 => ?_) (fun c_5 => absurd c_5 (by decide))
  refine r_iload_n dL_act_68 rfl 1 rfl ?_
  refine r_iconst (v := 5) dL_act_69 (by decide) ?_
  refine r_icmp_ne 90 dL_act_70 (by decide) (fun c_6 => ?_) (fun c_6 => absurd c_6 (by decide))
  refine r_iload_n dL_act_90 rfl 1 rfl ?_
  refine r_bipush (v := 6) dL_act_91 (by decide) ?_
  refine r_icmp_ne 109 dL_act_93 (by decide) (fun c_7 => ?_) (fun c_7 => absurd c_7 (by decide))
  refine r_iload_n dL_act_109 rfl 1 rfl ?_
  refine r_bipush (v := 7) dL_act_110 (by decide) ?_
  refine r_icmp_ne 131 dL_act_112 (by decide) (fun c_8 => ?_) (fun c_8 => absurd c_8 (by decide))
  refine r_iload_n dL_act_131 rfl 1 rfl ?_
  refine r_bipush (v := 8) dL_act_132 (by decide) ?_
  refine r_icmp_ne 144 dL_act_134 (by decide) (fun c_9 => ?_) (fun c_9 => absurd c_9 (by decide))
  refine r_iload_n dL_act_144 rfl 1 rfl ?_
  refine r_bipush (v := 9) dL_act_145 (by decide) ?_
  refine r_icmp_ne 159 dL_act_147 (by decide) (fun c_10 => ?_) (fun c_10 => absurd c_10 (by decide))
  refine r_iload_n dL_act_159 rfl 1 rfl ?_
  refine r_bipush (v := 10) dL_act_160 (by decide) ?_
  refine r_icmp_ne 174 dL_act_162 (by decide) (fun c_11 => ?_) (fun c_11 => absurd c_11 (by decide))
  refine r_iload_n dL_act_174 rfl 1 rfl ?_
  refine r_bipush (v := 11) dL_act_175 (by decide) ?_
  refine r_icmp_ne 191 dL_act_177 (by decide) (fun c_12 => ?_) (fun c_12 => absurd c_12 (by decide))
  refine r_iload_n dL_act_191 rfl 1 rfl ?_
  refine r_bipush (v := 12) dL_act_192 (by decide) ?_
  refine r_icmp_ne 206 dL_act_194 (by decide) (fun c_13 => ?_) (fun c_13 => absurd c_13 (by decide))
  refine r_iload_n dL_act_206 rfl 1 rfl ?_
  refine r_bipush (v := 13) dL_act_207 (by decide) ?_
  refine r_icmp_ne 225 dL_act_209 (by decide) (fun c_14 => ?_) (fun c_14 => absurd c_14 (by decide))
  refine r_iload_n dL_act_225 rfl 1 rfl ?_
  refine r_bipush (v := 14) dL_act_226 (by decide) ?_
  refine r_icmp_ne 244 dL_act_228 (by decide) (fun c_15 => ?_) (fun c_15 => absurd c_15 (by decide))
  refine r_iload_n dL_act_244 rfl 1 rfl ?_
  refine r_bipush (v := 15) dL_act_245 (by decide) ?_
  refine r_icmp_ne 263 dL_act_247 (by decide) (fun c_16 => ?_) (fun c_16 => absurd c_16 (by decide))
  refine r_iload_n dL_act_263 rfl 1 rfl ?_
  refine r_bipush (v := 16) dL_act_264 (by decide) ?_
  refine r_icmp_ne 280 dL_act_266 (by decide) (fun c_17 => absurd (by decide) c_17) (fun c_17 => ?_)
  refine r_aload_n dL_act_269 rfl 0 rfl ?_
  refine r_iload_n dL_act_270 rfl 2 rfl ?_
  refine r_iload_n dL_act_271 rfl 3 rfl ?_
  refine r_iload dL_act_272 4 rfl ?_
  refine r_callV (st := []) [.int x1, .int x2, .int x3] 0 0 dL_act_274 kX8_costs nX8_costs lRL_68 (hW.g 0 0 rfl) rfl hC rfl rfl (Nat.le_of_ble_eq_true rfl) (Nat.le_of_ble_eq_true rfl) (Nat.le_of_ble_eq_true rfl) (fun _ _ h => h.elim) ?_
  intro r G9 hr
  obtain ⟨rfl, A9, ad9, hW9, hk9, hP9, hf9⟩ := hr
  show WP mL_act _ _ _ _ _ _ _ 277 [(0, .ref (ad 0 0)), (1, .int 16), (2, .int x1), (3, .int x2), (4, .int x3), (5, .int x4)] [.int v]
  refine r_goto 286 dL_act_277 (by decide) ?_
  refine r_ireti dL_act_286 rfl ?_
  exact ⟨rfl, A9, ad9, hW9, hk9, hP9, hf9⟩
set_option maxRecDepth 100000 in
set_option maxHeartbeats 4000000 in
theorem a_costs_1 {d b0 : Nat} {G : GH} {A B : ST} {ad : AD} (hW : World A B ad G) {x1 x2 x3 x4 : Int32} (hC : CT mX8_costs d b0 G [.ref (ad 0 0), .int x1, .int x2, .int x3] 20 400 (fun _ _ => False) (fun E G' => E = "java/lang/IndexOutOfBoundsException" ∧ G' = G)) : CT mL_act (d + 1) b0 G [.ref (ad 0 0), .int 16, .int x1, .int x2, .int x3, .int x4] 20 400 (fun r G' => r = some (.int (-1661000)) ∧ G' = G) (fun _ _ => False) := by
  refine CT.introW (by decide +kernel) (List.cons_ne_nil _ _) (Nat.le_of_ble_eq_true rfl) ?_
  show WP mL_act _ _ _ _ _ 20 400 0 [(0, .ref (ad 0 0)), (1, .int 16), (2, .int x1), (3, .int x2), (4, .int x3), (5, .int x4)] []
  refine r_iload_n dL_act_0 rfl 1 rfl ?_
  refine r_if_ne 13 dL_act_1 (by decide) (fun c_1 => ?_) (fun c_1 => absurd c_1 (by decide))
  refine r_iload_n dL_act_13 rfl 1 rfl ?_
  refine r_iconst (v := 1) dL_act_14 (by decide) ?_
  refine r_icmp_ne 25 dL_act_15 (by decide) (fun c_2 => ?_) (fun c_2 => absurd c_2 (by decide))
  refine r_iload_n dL_act_25 rfl 1 rfl ?_
  refine r_iconst (v := 2) dL_act_26 (by decide) ?_
  refine r_icmp_ne 41 dL_act_27 (by decide) (fun c_3 => ?_) (fun c_3 => absurd c_3 (by decide))
  refine r_iload_n dL_act_41 rfl 1 rfl ?_
  refine r_iconst (v := 3) dL_act_42 (by decide) ?_
  refine r_icmp_ne 54 dL_act_43 (by decide) (fun c_4 => ?_) (fun c_4 => absurd c_4 (by decide))
  refine r_iload_n dL_act_54 rfl 1 rfl ?_
  refine r_iconst (v := 4) dL_act_55 (by decide) ?_
  refine r_icmp_ne 68 dL_act_56 (by decide) (fun c_5 => ?_) (fun c_5 => absurd c_5 (by decide))
  refine r_iload_n dL_act_68 rfl 1 rfl ?_
  refine r_iconst (v := 5) dL_act_69 (by decide) ?_
  refine r_icmp_ne 90 dL_act_70 (by decide) (fun c_6 => ?_) (fun c_6 => absurd c_6 (by decide))
  refine r_iload_n dL_act_90 rfl 1 rfl ?_
  refine r_bipush (v := 6) dL_act_91 (by decide) ?_
  refine r_icmp_ne 109 dL_act_93 (by decide) (fun c_7 => ?_) (fun c_7 => absurd c_7 (by decide))
  refine r_iload_n dL_act_109 rfl 1 rfl ?_
  refine r_bipush (v := 7) dL_act_110 (by decide) ?_
  refine r_icmp_ne 131 dL_act_112 (by decide) (fun c_8 => ?_) (fun c_8 => absurd c_8 (by decide))
  refine r_iload_n dL_act_131 rfl 1 rfl ?_
  refine r_bipush (v := 8) dL_act_132 (by decide) ?_
  refine r_icmp_ne 144 dL_act_134 (by decide) (fun c_9 => ?_) (fun c_9 => absurd c_9 (by decide))
  refine r_iload_n dL_act_144 rfl 1 rfl ?_
  refine r_bipush (v := 9) dL_act_145 (by decide) ?_
  refine r_icmp_ne 159 dL_act_147 (by decide) (fun c_10 => ?_) (fun c_10 => absurd c_10 (by decide))
  refine r_iload_n dL_act_159 rfl 1 rfl ?_
  refine r_bipush (v := 10) dL_act_160 (by decide) ?_
  refine r_icmp_ne 174 dL_act_162 (by decide) (fun c_11 => ?_) (fun c_11 => absurd c_11 (by decide))
  refine r_iload_n dL_act_174 rfl 1 rfl ?_
  refine r_bipush (v := 11) dL_act_175 (by decide) ?_
  refine r_icmp_ne 191 dL_act_177 (by decide) (fun c_12 => ?_) (fun c_12 => absurd c_12 (by decide))
  refine r_iload_n dL_act_191 rfl 1 rfl ?_
  refine r_bipush (v := 12) dL_act_192 (by decide) ?_
  refine r_icmp_ne 206 dL_act_194 (by decide) (fun c_13 => ?_) (fun c_13 => absurd c_13 (by decide))
  refine r_iload_n dL_act_206 rfl 1 rfl ?_
  refine r_bipush (v := 13) dL_act_207 (by decide) ?_
  refine r_icmp_ne 225 dL_act_209 (by decide) (fun c_14 => ?_) (fun c_14 => absurd c_14 (by decide))
  refine r_iload_n dL_act_225 rfl 1 rfl ?_
  refine r_bipush (v := 14) dL_act_226 (by decide) ?_
  refine r_icmp_ne 244 dL_act_228 (by decide) (fun c_15 => ?_) (fun c_15 => absurd c_15 (by decide))
  refine r_iload_n dL_act_244 rfl 1 rfl ?_
  refine r_bipush (v := 15) dL_act_245 (by decide) ?_
  refine r_icmp_ne 263 dL_act_247 (by decide) (fun c_16 => ?_) (fun c_16 => absurd c_16 (by decide))
  refine r_iload_n dL_act_263 rfl 1 rfl ?_
  refine r_bipush (v := 16) dL_act_264 (by decide) ?_
  refine r_icmp_ne 280 dL_act_266 (by decide) (fun c_17 => absurd (by decide) c_17) (fun c_17 => ?_)
  refine r_aload_n dL_act_269 rfl 0 rfl ?_
  refine r_iload_n dL_act_270 rfl 2 rfl ?_
  refine r_iload_n dL_act_271 rfl 3 rfl ?_
  refine r_iload dL_act_272 4 rfl ?_
  have hx9 : ∀ (E9 : String) (G9 : GH), (E9 = "java/lang/IndexOutOfBoundsException" ∧ G9 = G) → WX mL_act (d + 1) b0 (fun r G' => r = some (.int (-1661000)) ∧ G' = G) (fun _ _ => False) G9 0 0 274 [(0, .ref (ad 0 0)), (1, .int 16), (2, .int x1), (3, .int x2), (4, .int x3), (5, .int x4)] E9 := by
    intro E9 G9 hx
    obtain ⟨rfl, rfl⟩ := hx
    refine r_catch [] ⟨0, 286, 287, 74⟩ [⟨0, 286, 292, 77⟩, ⟨0, 286, 297, 80⟩] rfl (fun z hz => by cases hz) (by decide) (by decide) t_201 (by decide +kernel) (fun q => ?_)
    show WP mL_act _ _ _ _ _ _ _ 287 [(0, .ref (ad 0 0)), (1, .int 16), (2, .int x1), (3, .int x2), (4, .int x3), (5, .int x4)] [.ref q]
    refine r_astore [(6, .ref q), (0, .ref (ad 0 0)), (1, .int 16), (2, .int x1), (3, .int x2), (4, .int x3), (5, .int x4)] dL_act_287 (by decide) rfl ?_
    refine r_ldc dL_act_289 con_76 ?_
    refine r_ireti dL_act_291 rfl ?_
    exact ⟨rfl, rfl⟩
  refine r_callV (st := []) [.int x1, .int x2, .int x3] 0 0 dL_act_274 kX8_costs nX8_costs lRL_68 (hW.g 0 0 rfl) rfl hC rfl rfl (Nat.le_of_ble_eq_true rfl) (Nat.le_of_ble_eq_true rfl) (Nat.le_of_ble_eq_true rfl) hx9 ?_
  intro r G9 hr
  exact hr.elim
set_option maxRecDepth 100000 in
set_option maxHeartbeats 4000000 in
theorem a_sample_0 {d b0 : Nat} {G : GH} {A B : ST} {ad : AD} (hW : World A B ad G) {st : ST} {v : Int32} {x1 x2 x3 x4 : Int32} (hC : CT mX8_sample d b0 G [.ref (ad 0 0), .int x1, .int x2] 20 400 (OPo (v) st B ad A) (fun _ _ => False)) : CT mL_act (d + 1) b0 G [.ref (ad 0 0), .int 17, .int x1, .int x2, .int x3, .int x4] 20 400 (OPo (v) st B ad A) (fun _ _ => False) := by
  refine CT.introW (by decide +kernel) (List.cons_ne_nil _ _) (Nat.le_of_ble_eq_true rfl) ?_
  show WP mL_act _ _ _ _ _ 20 400 0 [(0, .ref (ad 0 0)), (1, .int 17), (2, .int x1), (3, .int x2), (4, .int x3), (5, .int x4)] []
  refine r_iload_n dL_act_0 rfl 1 rfl ?_
  refine r_if_ne 13 dL_act_1 (by decide) (fun c_1 => ?_) (fun c_1 => absurd c_1 (by decide))
  refine r_iload_n dL_act_13 rfl 1 rfl ?_
  refine r_iconst (v := 1) dL_act_14 (by decide) ?_
  refine r_icmp_ne 25 dL_act_15 (by decide) (fun c_2 => ?_) (fun c_2 => absurd c_2 (by decide))
  refine r_iload_n dL_act_25 rfl 1 rfl ?_
  refine r_iconst (v := 2) dL_act_26 (by decide) ?_
  refine r_icmp_ne 41 dL_act_27 (by decide) (fun c_3 => ?_) (fun c_3 => absurd c_3 (by decide))
  refine r_iload_n dL_act_41 rfl 1 rfl ?_
  refine r_iconst (v := 3) dL_act_42 (by decide) ?_
  refine r_icmp_ne 54 dL_act_43 (by decide) (fun c_4 => ?_) (fun c_4 => absurd c_4 (by decide))
  refine r_iload_n dL_act_54 rfl 1 rfl ?_
  refine r_iconst (v := 4) dL_act_55 (by decide) ?_
  refine r_icmp_ne 68 dL_act_56 (by decide) (fun c_5 => ?_) (fun c_5 => absurd c_5 (by decide))
  refine r_iload_n dL_act_68 rfl 1 rfl ?_
  refine r_iconst (v := 5) dL_act_69 (by decide) ?_
  refine r_icmp_ne 90 dL_act_70 (by decide) (fun c_6 => ?_) (fun c_6 => absurd c_6 (by decide))
  refine r_iload_n dL_act_90 rfl 1 rfl ?_
  refine r_bipush (v := 6) dL_act_91 (by decide) ?_
  refine r_icmp_ne 109 dL_act_93 (by decide) (fun c_7 => ?_) (fun c_7 => absurd c_7 (by decide))
  refine r_iload_n dL_act_109 rfl 1 rfl ?_
  refine r_bipush (v := 7) dL_act_110 (by decide) ?_
  refine r_icmp_ne 131 dL_act_112 (by decide) (fun c_8 => ?_) (fun c_8 => absurd c_8 (by decide))
  refine r_iload_n dL_act_131 rfl 1 rfl ?_
  refine r_bipush (v := 8) dL_act_132 (by decide) ?_
  refine r_icmp_ne 144 dL_act_134 (by decide) (fun c_9 => ?_) (fun c_9 => absurd c_9 (by decide))
  refine r_iload_n dL_act_144 rfl 1 rfl ?_
  refine r_bipush (v := 9) dL_act_145 (by decide) ?_
  refine r_icmp_ne 159 dL_act_147 (by decide) (fun c_10 => ?_) (fun c_10 => absurd c_10 (by decide))
  refine r_iload_n dL_act_159 rfl 1 rfl ?_
  refine r_bipush (v := 10) dL_act_160 (by decide) ?_
  refine r_icmp_ne 174 dL_act_162 (by decide) (fun c_11 => ?_) (fun c_11 => absurd c_11 (by decide))
  refine r_iload_n dL_act_174 rfl 1 rfl ?_
  refine r_bipush (v := 11) dL_act_175 (by decide) ?_
  refine r_icmp_ne 191 dL_act_177 (by decide) (fun c_12 => ?_) (fun c_12 => absurd c_12 (by decide))
  refine r_iload_n dL_act_191 rfl 1 rfl ?_
  refine r_bipush (v := 12) dL_act_192 (by decide) ?_
  refine r_icmp_ne 206 dL_act_194 (by decide) (fun c_13 => ?_) (fun c_13 => absurd c_13 (by decide))
  refine r_iload_n dL_act_206 rfl 1 rfl ?_
  refine r_bipush (v := 13) dL_act_207 (by decide) ?_
  refine r_icmp_ne 225 dL_act_209 (by decide) (fun c_14 => ?_) (fun c_14 => absurd c_14 (by decide))
  refine r_iload_n dL_act_225 rfl 1 rfl ?_
  refine r_bipush (v := 14) dL_act_226 (by decide) ?_
  refine r_icmp_ne 244 dL_act_228 (by decide) (fun c_15 => ?_) (fun c_15 => absurd c_15 (by decide))
  refine r_iload_n dL_act_244 rfl 1 rfl ?_
  refine r_bipush (v := 15) dL_act_245 (by decide) ?_
  refine r_icmp_ne 263 dL_act_247 (by decide) (fun c_16 => ?_) (fun c_16 => absurd c_16 (by decide))
  refine r_iload_n dL_act_263 rfl 1 rfl ?_
  refine r_bipush (v := 16) dL_act_264 (by decide) ?_
  refine r_icmp_ne 280 dL_act_266 (by decide) (fun c_17 => ?_) (fun c_17 => absurd c_17 (by decide))
  refine r_aload_n dL_act_280 rfl 0 rfl ?_
  refine r_iload_n dL_act_281 rfl 2 rfl ?_
  refine r_iload_n dL_act_282 rfl 3 rfl ?_
  refine r_callV (st := []) [.int x1, .int x2] 0 0 dL_act_283 kX8_sample nX8_sample lRL_71 (hW.g 0 0 rfl) rfl hC rfl rfl (Nat.le_of_ble_eq_true rfl) (Nat.le_of_ble_eq_true rfl) (Nat.le_of_ble_eq_true rfl) (fun _ _ h => h.elim) ?_
  intro r G9 hr
  obtain ⟨rfl, A9, ad9, hW9, hk9, hP9, hf9⟩ := hr
  show WP mL_act _ _ _ _ _ _ _ 286 [(0, .ref (ad 0 0)), (1, .int 17), (2, .int x1), (3, .int x2), (4, .int x3), (5, .int x4)] [.int v]
  refine r_ireti dL_act_286 rfl ?_
  exact ⟨rfl, A9, ad9, hW9, hk9, hP9, hf9⟩
set_option maxRecDepth 100000 in
set_option maxHeartbeats 4000000 in
theorem a_sample_1 {d b0 : Nat} {G : GH} {A B : ST} {ad : AD} (hW : World A B ad G) {x1 x2 x3 x4 : Int32} (hC : CT mX8_sample d b0 G [.ref (ad 0 0), .int x1, .int x2] 20 400 (fun _ _ => False) (fun E G' => E = "java/lang/IndexOutOfBoundsException" ∧ G' = G)) : CT mL_act (d + 1) b0 G [.ref (ad 0 0), .int 17, .int x1, .int x2, .int x3, .int x4] 20 400 (fun r G' => r = some (.int (-1661000)) ∧ G' = G) (fun _ _ => False) := by
  refine CT.introW (by decide +kernel) (List.cons_ne_nil _ _) (Nat.le_of_ble_eq_true rfl) ?_
  show WP mL_act _ _ _ _ _ 20 400 0 [(0, .ref (ad 0 0)), (1, .int 17), (2, .int x1), (3, .int x2), (4, .int x3), (5, .int x4)] []
  refine r_iload_n dL_act_0 rfl 1 rfl ?_
  refine r_if_ne 13 dL_act_1 (by decide) (fun c_1 => ?_) (fun c_1 => absurd c_1 (by decide))
  refine r_iload_n dL_act_13 rfl 1 rfl ?_
  refine r_iconst (v := 1) dL_act_14 (by decide) ?_
  refine r_icmp_ne 25 dL_act_15 (by decide) (fun c_2 => ?_) (fun c_2 => absurd c_2 (by decide))
  refine r_iload_n dL_act_25 rfl 1 rfl ?_
  refine r_iconst (v := 2) dL_act_26 (by decide) ?_
  refine r_icmp_ne 41 dL_act_27 (by decide) (fun c_3 => ?_) (fun c_3 => absurd c_3 (by decide))
  refine r_iload_n dL_act_41 rfl 1 rfl ?_
  refine r_iconst (v := 3) dL_act_42 (by decide) ?_
  refine r_icmp_ne 54 dL_act_43 (by decide) (fun c_4 => ?_) (fun c_4 => absurd c_4 (by decide))
  refine r_iload_n dL_act_54 rfl 1 rfl ?_
  refine r_iconst (v := 4) dL_act_55 (by decide) ?_
  refine r_icmp_ne 68 dL_act_56 (by decide) (fun c_5 => ?_) (fun c_5 => absurd c_5 (by decide))
  refine r_iload_n dL_act_68 rfl 1 rfl ?_
  refine r_iconst (v := 5) dL_act_69 (by decide) ?_
  refine r_icmp_ne 90 dL_act_70 (by decide) (fun c_6 => ?_) (fun c_6 => absurd c_6 (by decide))
  refine r_iload_n dL_act_90 rfl 1 rfl ?_
  refine r_bipush (v := 6) dL_act_91 (by decide) ?_
  refine r_icmp_ne 109 dL_act_93 (by decide) (fun c_7 => ?_) (fun c_7 => absurd c_7 (by decide))
  refine r_iload_n dL_act_109 rfl 1 rfl ?_
  refine r_bipush (v := 7) dL_act_110 (by decide) ?_
  refine r_icmp_ne 131 dL_act_112 (by decide) (fun c_8 => ?_) (fun c_8 => absurd c_8 (by decide))
  refine r_iload_n dL_act_131 rfl 1 rfl ?_
  refine r_bipush (v := 8) dL_act_132 (by decide) ?_
  refine r_icmp_ne 144 dL_act_134 (by decide) (fun c_9 => ?_) (fun c_9 => absurd c_9 (by decide))
  refine r_iload_n dL_act_144 rfl 1 rfl ?_
  refine r_bipush (v := 9) dL_act_145 (by decide) ?_
  refine r_icmp_ne 159 dL_act_147 (by decide) (fun c_10 => ?_) (fun c_10 => absurd c_10 (by decide))
  refine r_iload_n dL_act_159 rfl 1 rfl ?_
  refine r_bipush (v := 10) dL_act_160 (by decide) ?_
  refine r_icmp_ne 174 dL_act_162 (by decide) (fun c_11 => ?_) (fun c_11 => absurd c_11 (by decide))
  refine r_iload_n dL_act_174 rfl 1 rfl ?_
  refine r_bipush (v := 11) dL_act_175 (by decide) ?_
  refine r_icmp_ne 191 dL_act_177 (by decide) (fun c_12 => ?_) (fun c_12 => absurd c_12 (by decide))
  refine r_iload_n dL_act_191 rfl 1 rfl ?_
  refine r_bipush (v := 12) dL_act_192 (by decide) ?_
  refine r_icmp_ne 206 dL_act_194 (by decide) (fun c_13 => ?_) (fun c_13 => absurd c_13 (by decide))
  refine r_iload_n dL_act_206 rfl 1 rfl ?_
  refine r_bipush (v := 13) dL_act_207 (by decide) ?_
  refine r_icmp_ne 225 dL_act_209 (by decide) (fun c_14 => ?_) (fun c_14 => absurd c_14 (by decide))
  refine r_iload_n dL_act_225 rfl 1 rfl ?_
  refine r_bipush (v := 14) dL_act_226 (by decide) ?_
  refine r_icmp_ne 244 dL_act_228 (by decide) (fun c_15 => ?_) (fun c_15 => absurd c_15 (by decide))
  refine r_iload_n dL_act_244 rfl 1 rfl ?_
  refine r_bipush (v := 15) dL_act_245 (by decide) ?_
  refine r_icmp_ne 263 dL_act_247 (by decide) (fun c_16 => ?_) (fun c_16 => absurd c_16 (by decide))
  refine r_iload_n dL_act_263 rfl 1 rfl ?_
  refine r_bipush (v := 16) dL_act_264 (by decide) ?_
  refine r_icmp_ne 280 dL_act_266 (by decide) (fun c_17 => ?_) (fun c_17 => absurd c_17 (by decide))
  refine r_aload_n dL_act_280 rfl 0 rfl ?_
  refine r_iload_n dL_act_281 rfl 2 rfl ?_
  refine r_iload_n dL_act_282 rfl 3 rfl ?_
  have hx9 : ∀ (E9 : String) (G9 : GH), (E9 = "java/lang/IndexOutOfBoundsException" ∧ G9 = G) → WX mL_act (d + 1) b0 (fun r G' => r = some (.int (-1661000)) ∧ G' = G) (fun _ _ => False) G9 0 0 283 [(0, .ref (ad 0 0)), (1, .int 17), (2, .int x1), (3, .int x2), (4, .int x3), (5, .int x4)] E9 := by
    intro E9 G9 hx
    obtain ⟨rfl, rfl⟩ := hx
    refine r_catch [] ⟨0, 286, 287, 74⟩ [⟨0, 286, 292, 77⟩, ⟨0, 286, 297, 80⟩] rfl (fun z hz => by cases hz) (by decide) (by decide) t_201 (by decide +kernel) (fun q => ?_)
    show WP mL_act _ _ _ _ _ _ _ 287 [(0, .ref (ad 0 0)), (1, .int 17), (2, .int x1), (3, .int x2), (4, .int x3), (5, .int x4)] [.ref q]
    refine r_astore [(6, .ref q), (0, .ref (ad 0 0)), (1, .int 17), (2, .int x1), (3, .int x2), (4, .int x3), (5, .int x4)] dL_act_287 (by decide) rfl ?_
    refine r_ldc dL_act_289 con_76 ?_
    refine r_ireti dL_act_291 rfl ?_
    exact ⟨rfl, rfl⟩
  refine r_callV (st := []) [.int x1, .int x2] 0 0 dL_act_283 kX8_sample nX8_sample lRL_71 (hW.g 0 0 rfl) rfl hC rfl rfl (Nat.le_of_ble_eq_true rfl) (Nat.le_of_ble_eq_true rfl) (Nat.le_of_ble_eq_true rfl) hx9 ?_
  intro r G9 hr
  exact hr.elim
