set_option maxRecDepth 100000 in
set_option maxHeartbeats 4000000 in
theorem lp_X7_init {d b0 : Nat} {G : GH} {a : Nat} : ∀ (fu : Nat) (j : Nat) (F : Nat → Nat) (Gj : GH), j ≤ 24 ∧ NewW G Gj a F j → 24 - j < fu → WP mX7_init (d + 2) b0 (fun r G' => r = none ∧ ∃ F : Nat → Nat, NewW G G' a F 24) (fun _ _ => False) Gj (48 - 2 * j) (144 - 6 * j) 34 [(1, .int (nI j)), (0, .ref a)] [] := by
  intro fu
  induction fu with
  | zero => intro j F Gj hinv hn; exact absurd hn (Nat.not_lt_zero _)
  | succ fu ih =>
    intro j F Gj hinv hn
    refine r_iload_n dX7_init_34 rfl 0 rfl ?_
    refine r_aload_n dX7_init_35 rfl 1 rfl ?_
    refine r_get 1 dX7_init_36 fRX7_17 hinv.2.2.1 rfl ?_
    refine r_alen (v := nI 24) dX7_init_39 hinv.2.2.2.2.1 rfl ?_
    refine r_icmp_ge 63 dX7_init_40 (by decide) (fun c_1 => ?_) (fun c_1 => ?_)
    · refine r_vret dX7_init_63 rfl ?_
      have hj : j = 24 := by have := ni_le (a := 24) (by decide) (by omega) c_1; omega
      exact ⟨rfl, F, by rw [← hj]; exact hinv.2⟩
    · have hj : j < 24 := ni_nle (a := 24) (by omega) (by omega) c_1
      refine r_aload_n dX7_init_43 rfl 1 rfl ?_
      refine r_get 1 dX7_init_44 fRX7_17 hinv.2.2.1 rfl ?_
      refine r_iload_n dX7_init_47 rfl 0 rfl ?_
      refine r_new [.null, .int 0] (48 - 2 * j - 1) (144 - 6 * j - 2) dX7_init_48 wRX7_9 (by omega) (by show _ + 2 ≤ _; omega) (fun q_2 hq_3 hb_4 => ?_)
      have hA_5 : a ≠ q_2 := cx_nf hinv.2.2.1 hq_3
      have hG_6 := up_n (e := some (.inr (5, [.null, .int 0]))) hA_5 hinv.2.2.1
      have hA_7 : F 5 ≠ q_2 := cx_nf hinv.2.2.2.2.1 hq_3
      have hG_8 := up_n (e := some (.inr (5, [.null, .int 0]))) hA_7 hinv.2.2.2.2.1
      have hG_9 : (va_up Gj q_2 (some (.inr (5, [.null, .int 0])))) q_2 = some (.inr (5, [.null, .int 0])) := up_s
      refine r_heap (G' := (va_up Gj q_2 (some (.inr (5, [.null, .int 0]))))) rfl ?_
      refine r_dup dX7_init_51 rfl ?_
      refine r_iconst (v := 4) dX7_init_52 (by decide) ?_
      refine r_callI (st := [.ref q_2, .int (nI j), .ref (F 5)]) [.int 4] (48 - 2 * j - 2) (144 - 6 * j - 6) dX7_init_53 kX5_init nX5_init rfl rfl lRX7_23 (c_X5_init (N := 4) (by decide) (by decide) hG_9) rfl rfl (Nat.le_of_ble_eq_true rfl) (by omega) (by omega) (fun _ _ h => h.elim) ?_
      intro r G9 hr
      obtain ⟨rfl, qa_10, hqa_10, hbqa_10, rfl⟩ := hr
      have hA_11 : a ≠ qa_10 := cx_nf hG_6 hqa_10
      have hG_12 := up_n (e := some (chA 4 (fun _ => 0))) hA_11 hG_6
      have hA_13 : F 5 ≠ qa_10 := cx_nf hG_8 hqa_10
      have hG_14 := up_n (e := some (chA 4 (fun _ => 0))) hA_13 hG_8
      have hA_15 : q_2 ≠ qa_10 := cx_nf hG_9 hqa_10
      have hG_16 := up_n (e := some (chA 4 (fun _ => 0))) hA_15 hG_9
      have hG_17 : (va_up (va_up Gj q_2 (some (.inr (5, [.null, .int 0])))) qa_10 (some (chA 4 (fun _ => 0)))) qa_10 = some (chA 4 (fun _ => 0)) := up_s
      have hG_18 := up_n (e := some (sgC qa_10 0)) hA_5 hG_12
      have hG_19 := up_n (e := some (sgC qa_10 0)) hA_7 hG_14
      have hG_20 := up_n (e := some (sgC qa_10 0)) (Ne.symm hA_15) hG_17
      have hG_21 : (va_up (va_up (va_up Gj q_2 (some (.inr (5, [.null, .int 0])))) qa_10 (some (chA 4 (fun _ => 0)))) q_2 (some (sgC qa_10 0))) q_2 = some (sgC qa_10 0) := up_s
      refine r_aast RX5 dX7_init_56 hG_19 hG_21 rfl (vp_in_nI hj (by decide)) ?_
      have hG_22 := up_n (e := some (.inl (.object RX5, 24, .inr (.inr (.inr (.inr (va_up (fun i => if i < j then some (F (100 + 2 * i)) else none) j (some q_2)))))))) (cx_ne hinv.2.2.1 hinv.2.2.2.2.1 (by simp)) hG_18
      have hG_23 := up_n (e := some (.inl (.object RX5, 24, .inr (.inr (.inr (.inr (va_up (fun i => if i < j then some (F (100 + 2 * i)) else none) j (some q_2)))))))) (Ne.symm hA_7) hG_21
      have hG_24 := up_n (e := some (.inl (.object RX5, 24, .inr (.inr (.inr (.inr (va_up (fun i => if i < j then some (F (100 + 2 * i)) else none) j (some q_2)))))))) (Ne.symm hA_13) hG_20
      have hG_25 : (va_up (va_up (va_up (va_up Gj q_2 (some (.inr (5, [.null, .int 0])))) qa_10 (some (chA 4 (fun _ => 0)))) q_2 (some (sgC qa_10 0))) (F 5) (some (.inl (.object RX5, 24, .inr (.inr (.inr (.inr (va_up (fun i => if i < j then some (F (100 + 2 * i)) else none) j (some q_2))))))))) (F 5) = some (.inl (.object RX5, 24, .inr (.inr (.inr (.inr (va_up (fun i => if i < j then some (F (100 + 2 * i)) else none) j (some q_2))))))) := up_s
      refine r_heap (G' := (va_up (va_up (va_up (va_up Gj q_2 (some (.inr (5, [.null, .int 0])))) qa_10 (some (chA 4 (fun _ => 0)))) q_2 (some (sgC qa_10 0))) (F 5) (some (.inl (.object RX5, 24, .inr (.inr (.inr (.inr (va_up (fun i => if i < j then some (F (100 + 2 * i)) else none) j (some q_2)))))))))) (by rw [nI_cl (show j < 2147483648 by omega)]) ?_
      refine r_iinc (nI (j + 1)) [(1, .int (nI (j + 1))), (0, .ref a)] dX7_init_57 0 rfl (nI_1 j) (by decide) rfl ?_
      refine r_goto 34 dX7_init_60 (by decide) ?_
      exact WP.loc [0, 1] rfl (ih (j + 1) _ _ ⟨by omega, hinv.2.step hj hq_3 hqa_10⟩ (by omega))
set_option maxRecDepth 100000 in
set_option maxHeartbeats 4000000 in
theorem c_X7_init {d b0 : Nat} {G : GH} {a : Nat} (h : G a = some (.inr (7, [.null, .null, .null, .int 0]))) : CT mX7_init (d + 2) b0 G [.ref a] 51 468 (fun r G' => r = none ∧ ∃ F : Nat → Nat, NewW G G' a F 24) (fun _ _ => False) := by
  refine CT.intro (by decide +kernel) rfl (Nat.le_of_ble_eq_true rfl) ?_
  show WP mX7_init _ _ _ _ _ 51 468 0 [(0, .ref a)] []
  have hR_1 := h
  have hN0 := NI.start (F := fun _ => 0) h
  refine r_aload_n dX7_init_0 rfl 0 rfl ?_
  refine r_obj dX7_init_1 lRX7_3 (by omega) (Nat.le_of_ble_eq_true rfl) ?_
  refine r_aload_n dX7_init_4 rfl 0 rfl ?_
  refine r_bipush (v := 12) dX7_init_5 (by decide) ?_
  refine r_newq RX5 12 50 456 dX7_init_7 t_67 (by decide +kernel) (by decide) (by decide) (by decide) (by decide) (by decide) (fun q_2 hq_3 hb_4 => ?_)
  have hfr_q_2 := hN0.fresh hq_3
  have hN_5 := hN0.new (e0 := 4) (c := .inl (.object RX5, 12, .inr (.inr (.inr (.inr (fun _ => none)))))) (L' := [4]) hq_3 (US_not (by decide) (by decide)) US_cons
  have hA_6 : a ≠ q_2 := cx_nf hR_1 hq_3
  have hG_7 := up_n (e := some (.inl (.object RX5, 12, .inr (.inr (.inr (.inr (fun _ => none))))))) hA_6 hR_1
  have hG_8 : (va_up G q_2 (some (.inl (.object RX5, 12, .inr (.inr (.inr (.inr (fun _ => none)))))))) q_2 = some (.inl (.object RX5, 12, .inr (.inr (.inr (.inr (fun _ => none)))))) := up_s
  refine r_heap (G' := (va_up G q_2 (some (.inl (.object RX5, 12, .inr (.inr (.inr (.inr (fun _ => none))))))))) rfl ?_
  refine r_putF 0 (.array (.object "Glosstemplate$Signs")) dX7_init_10 gRX7_11 rfl hG_7 (Nat.le_of_ble_eq_true rfl) rfl rfl ?_
  have hN_9 := hN_5.put (a := a) (c := .inr (7, [.ref q_2, .null, .null, .int 0])) (Or.inl rfl)
  have hG_10 := up_n (e := some (.inr (7, [.ref q_2, .null, .null, .int 0]))) (Ne.symm hA_6) hG_8
  have hG_11 : (va_up (va_up G q_2 (some (.inl (.object RX5, 12, .inr (.inr (.inr (.inr (fun _ => none)))))))) a (some (.inr (7, [.ref q_2, .null, .null, .int 0])))) a = some (.inr (7, [.ref q_2, .null, .null, .int 0])) := up_s
  refine r_heap (G' := (va_up (va_up G q_2 (some (.inl (.object RX5, 12, .inr (.inr (.inr (.inr (fun _ => none)))))))) a (some (.inr (7, [.ref q_2, .null, .null, .int 0]))))) rfl ?_
  refine r_aload_n dX7_init_13 rfl 0 rfl ?_
  refine r_bipush (v := 24) dX7_init_14 (by decide) ?_
  refine r_newq RX5 24 49 432 dX7_init_16 t_67 (by decide +kernel) (by decide) (by decide) (by decide) (by decide) (by decide) (fun q_12 hq_13 hb_14 => ?_)
  have hfr_q_12 := hN_9.fresh hq_13
  have hN_15 := hN_9.new (e0 := 5) (c := .inl (.object RX5, 24, .inr (.inr (.inr (.inr (fun _ => none)))))) (L' := [5, 4]) hq_13 (US_not (by decide) (by decide)) US_cons
  have hA_16 : a ≠ q_12 := cx_nf hG_11 hq_13
  have hG_17 := up_n (e := some (.inl (.object RX5, 24, .inr (.inr (.inr (.inr (fun _ => none))))))) hA_16 hG_11
  have hA_18 : q_2 ≠ q_12 := cx_nf hG_10 hq_13
  have hG_19 := up_n (e := some (.inl (.object RX5, 24, .inr (.inr (.inr (.inr (fun _ => none))))))) hA_18 hG_10
  have hG_20 : (va_up (va_up (va_up G q_2 (some (.inl (.object RX5, 12, .inr (.inr (.inr (.inr (fun _ => none)))))))) a (some (.inr (7, [.ref q_2, .null, .null, .int 0])))) q_12 (some (.inl (.object RX5, 24, .inr (.inr (.inr (.inr (fun _ => none)))))))) q_12 = some (.inl (.object RX5, 24, .inr (.inr (.inr (.inr (fun _ => none)))))) := up_s
  refine r_heap (G' := (va_up (va_up (va_up G q_2 (some (.inl (.object RX5, 12, .inr (.inr (.inr (.inr (fun _ => none)))))))) a (some (.inr (7, [.ref q_2, .null, .null, .int 0])))) q_12 (some (.inl (.object RX5, 24, .inr (.inr (.inr (.inr (fun _ => none))))))))) rfl ?_
  refine r_putF 1 (.array (.object "Glosstemplate$Signs")) dX7_init_19 gRX7_17 rfl hG_17 (Nat.le_of_ble_eq_true rfl) rfl rfl ?_
  have hN_21 := hN_15.put (a := a) (c := .inr (7, [.ref q_2, .ref q_12, .null, .int 0])) (Or.inl rfl)
  have hG_22 := up_n (e := some (.inr (7, [.ref q_2, .ref q_12, .null, .int 0]))) (Ne.symm hA_6) hG_19
  have hG_23 := up_n (e := some (.inr (7, [.ref q_2, .ref q_12, .null, .int 0]))) (Ne.symm hA_16) hG_20
  have hG_24 : (va_up (va_up (va_up (va_up G q_2 (some (.inl (.object RX5, 12, .inr (.inr (.inr (.inr (fun _ => none)))))))) a (some (.inr (7, [.ref q_2, .null, .null, .int 0])))) q_12 (some (.inl (.object RX5, 24, .inr (.inr (.inr (.inr (fun _ => none)))))))) a (some (.inr (7, [.ref q_2, .ref q_12, .null, .int 0])))) a = some (.inr (7, [.ref q_2, .ref q_12, .null, .int 0])) := up_s
  refine r_heap (G' := (va_up (va_up (va_up (va_up G q_2 (some (.inl (.object RX5, 12, .inr (.inr (.inr (.inr (fun _ => none)))))))) a (some (.inr (7, [.ref q_2, .null, .null, .int 0])))) q_12 (some (.inl (.object RX5, 24, .inr (.inr (.inr (.inr (fun _ => none)))))))) a (some (.inr (7, [.ref q_2, .ref q_12, .null, .int 0]))))) rfl ?_
  refine r_aload_n dX7_init_22 rfl 0 rfl ?_
  refine r_sipush (v := 288) dX7_init_23 (by decide) ?_
  refine r_newq RX5 288 48 144 dX7_init_26 t_67 (by decide +kernel) (by decide) (by decide) (by decide) (by decide) (by decide) (fun q_25 hq_26 hb_27 => ?_)
  have hfr_q_25 := hN_21.fresh hq_26
  have hN_28 := hN_21.new (e0 := 6) (c := .inl (.object RX5, 288, .inr (.inr (.inr (.inr (fun _ => none)))))) (L' := [6, 5, 4]) hq_26 (US_not (by decide) (by decide)) US_cons
  have hA_29 : a ≠ q_25 := cx_nf hG_24 hq_26
  have hG_30 := up_n (e := some (.inl (.object RX5, 288, .inr (.inr (.inr (.inr (fun _ => none))))))) hA_29 hG_24
  have hA_31 : q_2 ≠ q_25 := cx_nf hG_22 hq_26
  have hG_32 := up_n (e := some (.inl (.object RX5, 288, .inr (.inr (.inr (.inr (fun _ => none))))))) hA_31 hG_22
  have hA_33 : q_12 ≠ q_25 := cx_nf hG_23 hq_26
  have hG_34 := up_n (e := some (.inl (.object RX5, 288, .inr (.inr (.inr (.inr (fun _ => none))))))) hA_33 hG_23
  have hG_35 : (va_up (va_up (va_up (va_up (va_up G q_2 (some (.inl (.object RX5, 12, .inr (.inr (.inr (.inr (fun _ => none)))))))) a (some (.inr (7, [.ref q_2, .null, .null, .int 0])))) q_12 (some (.inl (.object RX5, 24, .inr (.inr (.inr (.inr (fun _ => none)))))))) a (some (.inr (7, [.ref q_2, .ref q_12, .null, .int 0])))) q_25 (some (.inl (.object RX5, 288, .inr (.inr (.inr (.inr (fun _ => none)))))))) q_25 = some (.inl (.object RX5, 288, .inr (.inr (.inr (.inr (fun _ => none)))))) := up_s
  refine r_heap (G' := (va_up (va_up (va_up (va_up (va_up G q_2 (some (.inl (.object RX5, 12, .inr (.inr (.inr (.inr (fun _ => none)))))))) a (some (.inr (7, [.ref q_2, .null, .null, .int 0])))) q_12 (some (.inl (.object RX5, 24, .inr (.inr (.inr (.inr (fun _ => none)))))))) a (some (.inr (7, [.ref q_2, .ref q_12, .null, .int 0])))) q_25 (some (.inl (.object RX5, 288, .inr (.inr (.inr (.inr (fun _ => none))))))))) rfl ?_
  refine r_putF 2 (.array (.object "Glosstemplate$Signs")) dX7_init_29 gRX7_20 rfl hG_30 (Nat.le_of_ble_eq_true rfl) rfl rfl ?_
  have hN_36 := hN_28.put (a := a) (c := .inr (7, [.ref q_2, .ref q_12, .ref q_25, .int 0])) (Or.inl rfl)
  have hG_37 := up_n (e := some (.inr (7, [.ref q_2, .ref q_12, .ref q_25, .int 0]))) (Ne.symm hA_6) hG_32
  have hG_38 := up_n (e := some (.inr (7, [.ref q_2, .ref q_12, .ref q_25, .int 0]))) (Ne.symm hA_16) hG_34
  have hG_39 := up_n (e := some (.inr (7, [.ref q_2, .ref q_12, .ref q_25, .int 0]))) (Ne.symm hA_29) hG_35
  have hG_40 : (va_up (va_up (va_up (va_up (va_up (va_up G q_2 (some (.inl (.object RX5, 12, .inr (.inr (.inr (.inr (fun _ => none)))))))) a (some (.inr (7, [.ref q_2, .null, .null, .int 0])))) q_12 (some (.inl (.object RX5, 24, .inr (.inr (.inr (.inr (fun _ => none)))))))) a (some (.inr (7, [.ref q_2, .ref q_12, .null, .int 0])))) q_25 (some (.inl (.object RX5, 288, .inr (.inr (.inr (.inr (fun _ => none)))))))) a (some (.inr (7, [.ref q_2, .ref q_12, .ref q_25, .int 0])))) a = some (.inr (7, [.ref q_2, .ref q_12, .ref q_25, .int 0])) := up_s
  refine r_heap (G' := (va_up (va_up (va_up (va_up (va_up (va_up G q_2 (some (.inl (.object RX5, 12, .inr (.inr (.inr (.inr (fun _ => none)))))))) a (some (.inr (7, [.ref q_2, .null, .null, .int 0])))) q_12 (some (.inl (.object RX5, 24, .inr (.inr (.inr (.inr (fun _ => none)))))))) a (some (.inr (7, [.ref q_2, .ref q_12, .null, .int 0])))) q_25 (some (.inl (.object RX5, 288, .inr (.inr (.inr (.inr (fun _ => none)))))))) a (some (.inr (7, [.ref q_2, .ref q_12, .ref q_25, .int 0]))))) rfl ?_
  refine r_iconst (v := nI 0) dX7_init_32 (by decide) ?_
  refine r_istore_n [(1, .int (nI 0)), (0, .ref a)] dX7_init_33 rfl (by decide) rfl ?_
  have hW0 : NewW G (va_up (va_up (va_up (va_up (va_up (va_up G q_2 (some (.inl (.object RX5, 12, .inr (.inr (.inr (.inr (fun _ => none)))))))) a (some (.inr (7, [.ref q_2, .null, .null, .int 0])))) q_12 (some (.inl (.object RX5, 24, .inr (.inr (.inr (.inr (fun _ => none)))))))) a (some (.inr (7, [.ref q_2, .ref q_12, .null, .int 0])))) q_25 (some (.inl (.object RX5, 288, .inr (.inr (.inr (.inr (fun _ => none)))))))) a (some (.inr (7, [.ref q_2, .ref q_12, .ref q_25, .int 0])))) a (upF (upF (upF (fun _ => 0) 4 q_2) 5 q_12) 6 q_25) 0 := by
    refine ⟨hN_36, hG_40, hG_37, ?_, hG_39, fun i hi => absurd hi (Nat.not_lt_zero i)⟩
    rw [show (fun i => if i < 0 then some ((upF (upF (upF (fun _ => 0) 4 q_2) 5 q_12) 6 q_25) (100 + 2 * i)) else none) = (fun _ => none) from by funext i; rw [if_neg (Nat.not_lt_zero i)]]
    exact hG_38
  exact lp_X7_init (G := G) 25 0 _ _ ⟨Nat.zero_le _, hW0⟩ (by decide)
/-- the numbers at the start: nothing, and a price of 1 for each language -/
def st0 : ST := fun f _ => if f = 21 then 1 else if f = 10 then 1 else if f = 32 then 1 else 0
def adS (a : Nat) (F : Nat → Nat) : AD := fun k i => if k = 0 then a else if k = 17 then F (100 + 2 * i) else if k = 18 then F (101 + 2 * i) else F k
def lv0 (k i : Nat) : Prop := k ≤ 18 ∧ lvw st0 k i
theorem lt0_none {α : Type} {f : Nat → Option α} : (fun j => if j < 0 then f j else none) = (fun _ => (none : Option α)) := by
  funext i
  rw [if_neg (Nat.not_lt_zero i)]
theorem rg_st0 {f b n : Nat} (h : f ≠ 21) (h2 : f ≠ 10) (h3 : f ≠ 32) : rg st0 f b n = fun _ => 0 := rg_zero (fun k _ => by unfold st0; rw [if_neg h, if_neg h2, if_neg h3])
theorem pr_st0 : upd (upd (upd (fun _ => (0 : Int32)) 0 1) 1 1) 2 1 = rg st0 21 0 3 := by
  funext k
  unfold upd rg
  by_cases h : k < 3
  · have h3 : k = 0 ∨ k = 1 ∨ k = 2 := by omega
    rcases h3 with e | e | e <;> rw [e] <;> rfl
  · rw [if_neg (by omega), if_neg (by omega), if_neg (by omega), if_neg h]
set_option maxRecDepth 100000 in
set_option maxHeartbeats 4000000 in
theorem c_X8_init {d b0 : Nat} {G : GH} {a : Nat} (h : G a = some (.inr (8, [.null, .null, .null, .null, .null, .null, .null, .null, .int 0, .int 0, .int 0]))) : CT mX8_init (d + 4) b0 G [.ref a] 100 3000 (fun r G' => r = none ∧ ∃ F : Nat → Nat, NI G G' a [14, 13, 12, 11, 10, 9, 8, 7, 6, 5, 4, 3, 2, 1] 148 F ∧ ∀ k i, lv0 k i → G' (adS a F k i) = some (wC st0 st0 (adS a F) k i)) (fun _ _ => False) := by
  refine CT.intro (by decide +kernel) rfl (Nat.le_of_ble_eq_true rfl) ?_
  show WP mX8_init _ _ _ _ _ 100 3000 0 [(0, .ref a)] []
  have hR_1 := h
  have hN0 := NI.start (F := fun _ => 0) h
  refine r_aload_n dX8_init_0 rfl 0 rfl ?_
  refine r_obj dX8_init_1 lRX8_3 (by omega) (Nat.le_of_ble_eq_true rfl) ?_
  refine r_aload_n dX8_init_4 rfl 0 rfl ?_
  refine r_new [.null, .int 0] 99 2998 dX8_init_5 wRX8_9 (by decide) (by decide) (fun q_2 hq_3 hb_4 => ?_)
  have hfr_q_2 := hN0.fresh hq_3
  have hN_5 := hN0.new (e0 := 1) (c := .inr (5, [.null, .int 0])) (L' := [1]) hq_3 (US_not (by decide) (by decide)) US_cons
  have hA_6 : a ≠ q_2 := cx_nf hR_1 hq_3
  have hG_7 := up_n (e := some (.inr (5, [.null, .int 0]))) hA_6 hR_1
  have hG_8 : (va_up G q_2 (some (.inr (5, [.null, .int 0])))) q_2 = some (.inr (5, [.null, .int 0])) := up_s
  refine r_heap (G' := (va_up G q_2 (some (.inr (5, [.null, .int 0]))))) rfl ?_
  refine r_dup dX8_init_8 rfl ?_
  refine r_bipush (v := 60) dX8_init_9 (by decide) ?_
  refine r_callI (st := [.ref q_2, .ref a]) [.int 60] 98 2938 dX8_init_11 kX5_init nX5_init rfl rfl lRX8_11 (c_X5_init (N := 60) (by decide) (by decide) hG_8) rfl rfl (Nat.le_of_ble_eq_true rfl) (by decide) (by decide) (fun _ _ h => h.elim) ?_
  intro r G9 hr
  obtain ⟨rfl, qa_9, hqa_9, hbqa_9, rfl⟩ := hr
  have hfr_qa_9 := hN_5.fresh hqa_9
  have hN_10 := hN_5.new (e0 := 2) (c := chA 60 (fun _ => 0)) (L' := [2, 1]) hqa_9 (US_not (by decide) (by decide)) US_cons
  have hA_11 : a ≠ qa_9 := cx_nf hG_7 hqa_9
  have hG_12 := up_n (e := some (chA 60 (fun _ => 0))) hA_11 hG_7
  have hA_13 : q_2 ≠ qa_9 := cx_nf hG_8 hqa_9
  have hG_14 := up_n (e := some (chA 60 (fun _ => 0))) hA_13 hG_8
  have hG_15 : (va_up (va_up G q_2 (some (.inr (5, [.null, .int 0])))) qa_9 (some (chA 60 (fun _ => 0)))) qa_9 = some (chA 60 (fun _ => 0)) := up_s
  have hN_16 := hN_10.put (a := q_2) (c := sgC qa_9 0) (Or.inr hfr_q_2)
  have hG_17 := up_n (e := some (sgC qa_9 0)) hA_6 hG_12
  have hG_18 := up_n (e := some (sgC qa_9 0)) (Ne.symm hA_13) hG_15
  have hG_19 : (va_up (va_up (va_up G q_2 (some (.inr (5, [.null, .int 0])))) qa_9 (some (chA 60 (fun _ => 0)))) q_2 (some (sgC qa_9 0))) q_2 = some (sgC qa_9 0) := up_s
  refine r_putF 0 (.object "Glosstemplate$Signs") dX8_init_14 gRX8_14 rfl hG_17 (Nat.le_of_ble_eq_true rfl) rfl rfl ?_
  have hN_20 := hN_16.put (a := a) (c := .inr (8, [.ref q_2, .null, .null, .null, .null, .null, .null, .null, .int 0, .int 0, .int 0])) (Or.inl rfl)
  have hG_21 := up_n (e := some (.inr (8, [.ref q_2, .null, .null, .null, .null, .null, .null, .null, .int 0, .int 0, .int 0]))) (Ne.symm hA_6) hG_19
  have hG_22 := up_n (e := some (.inr (8, [.ref q_2, .null, .null, .null, .null, .null, .null, .null, .int 0, .int 0, .int 0]))) (Ne.symm hA_11) hG_18
  have hG_23 : (va_up (va_up (va_up (va_up G q_2 (some (.inr (5, [.null, .int 0])))) qa_9 (some (chA 60 (fun _ => 0)))) q_2 (some (sgC qa_9 0))) a (some (.inr (8, [.ref q_2, .null, .null, .null, .null, .null, .null, .null, .int 0, .int 0, .int 0])))) a = some (.inr (8, [.ref q_2, .null, .null, .null, .null, .null, .null, .null, .int 0, .int 0, .int 0])) := up_s
  refine r_heap (G' := (va_up (va_up (va_up (va_up G q_2 (some (.inr (5, [.null, .int 0])))) qa_9 (some (chA 60 (fun _ => 0)))) q_2 (some (sgC qa_9 0))) a (some (.inr (8, [.ref q_2, .null, .null, .null, .null, .null, .null, .null, .int 0, .int 0, .int 0]))))) rfl ?_
  refine r_aload_n dX8_init_17 rfl 0 rfl ?_
  refine r_new [.null, .null, .null, .int 0] 97 2934 dX8_init_18 wRX8_18 (by decide) (by decide) (fun q_24 hq_25 hb_26 => ?_)
  have hfr_q_24 := hN_20.fresh hq_25
  have hN_27 := hN_20.new (e0 := 3) (c := .inr (7, [.null, .null, .null, .int 0])) (L' := [3, 2, 1]) hq_25 (US_not (by decide) (by decide)) US_cons
  have hA_28 : a ≠ q_24 := cx_nf hG_23 hq_25
  have hG_29 := up_n (e := some (.inr (7, [.null, .null, .null, .int 0]))) hA_28 hG_23
  have hA_30 : q_2 ≠ q_24 := cx_nf hG_21 hq_25
  have hG_31 := up_n (e := some (.inr (7, [.null, .null, .null, .int 0]))) hA_30 hG_21
  have hA_32 : qa_9 ≠ q_24 := cx_nf hG_22 hq_25
  have hG_33 := up_n (e := some (.inr (7, [.null, .null, .null, .int 0]))) hA_32 hG_22
  have hG_34 : (va_up (va_up (va_up (va_up (va_up G q_2 (some (.inr (5, [.null, .int 0])))) qa_9 (some (chA 60 (fun _ => 0)))) q_2 (some (sgC qa_9 0))) a (some (.inr (8, [.ref q_2, .null, .null, .null, .null, .null, .null, .null, .int 0, .int 0, .int 0])))) q_24 (some (.inr (7, [.null, .null, .null, .int 0])))) q_24 = some (.inr (7, [.null, .null, .null, .int 0])) := up_s
  refine r_heap (G' := (va_up (va_up (va_up (va_up (va_up G q_2 (some (.inr (5, [.null, .int 0])))) qa_9 (some (chA 60 (fun _ => 0)))) q_2 (some (sgC qa_9 0))) a (some (.inr (8, [.ref q_2, .null, .null, .null, .null, .null, .null, .null, .int 0, .int 0, .int 0])))) q_24 (some (.inr (7, [.null, .null, .null, .int 0]))))) rfl ?_
  refine r_dup dX8_init_21 rfl ?_
  refine r_callI (st := [.ref q_24, .ref a]) [] 46 2466 dX8_init_22 kX7_init nX7_init rfl rfl lRX8_20 (c_X7_init hG_34) rfl rfl (Nat.le_of_ble_eq_true rfl) (by decide) (by decide) (fun _ _ h => h.elim) ?_
  intro r G9 hr
  obtain ⟨rfl, FW, hNW⟩ := hr
  have hG_35 := hNW.1.2.2.2.1 _ _ hG_29 hA_28
  have hG_36 := hNW.1.2.2.2.1 _ _ hG_31 hA_30
  have hG_37 := hNW.1.2.2.2.1 _ _ hG_33 hA_32
  have hN_38 := hN_27.join (F := (upF (upF (upF (fun _ => 0) 1 q_2) 2 qa_9) 3 q_24)) (F1 := FW) (e1 := 3) (M := [6, 5, 4]) (L' := [6, 5, 4, 3, 2, 1]) (m := 148) hNW.1 (by decide) (by decide) (by decide) (by decide)
  refine r_putF 1 (.object "Glosstemplate$Words") dX8_init_25 gRX8_21 rfl hG_35 (Nat.le_of_ble_eq_true rfl) rfl rfl ?_
  have hN_39 := hN_38.put (a := a) (c := .inr (8, [.ref q_2, .ref q_24, .null, .null, .null, .null, .null, .null, .int 0, .int 0, .int 0])) (Or.inl rfl)
  have hG_40 := up_n (e := some (.inr (8, [.ref q_2, .ref q_24, .null, .null, .null, .null, .null, .null, .int 0, .int 0, .int 0]))) (Ne.symm hA_6) hG_36
  have hG_41 := up_n (e := some (.inr (8, [.ref q_2, .ref q_24, .null, .null, .null, .null, .null, .null, .int 0, .int 0, .int 0]))) (Ne.symm hA_11) hG_37
  have hG_42 := up_n (e := some (.inr (8, [.ref q_2, .ref q_24, .null, .null, .null, .null, .null, .null, .int 0, .int 0, .int 0]))) (Ne.symm hA_28) hNW.2.1
  have hG_43 : (va_up G9 a (some (.inr (8, [.ref q_2, .ref q_24, .null, .null, .null, .null, .null, .null, .int 0, .int 0, .int 0])))) a = some (.inr (8, [.ref q_2, .ref q_24, .null, .null, .null, .null, .null, .null, .int 0, .int 0, .int 0])) := up_s
  refine r_heap (G' := (va_up G9 a (some (.inr (8, [.ref q_2, .ref q_24, .null, .null, .null, .null, .null, .null, .int 0, .int 0, .int 0]))))) rfl ?_
  refine r_aload_n dX8_init_28 rfl 0 rfl ?_
  refine r_bipush (v := 10) dX8_init_29 (by decide) ?_
  refine r_newq RX0 10 45 2456 dX8_init_31 t_83 (by decide +kernel) (by decide) (by decide) (by decide) (by decide) (by decide) (fun q_44 hq_45 hb_46 => ?_)
  have hfr_q_44 := hN_39.fresh hq_45
  have hN_47 := hN_39.new (e0 := 7) (c := .inl (.object RX0, 10, .inr (.inr (.inr (.inr (fun _ => none)))))) (L' := [7, 6, 5, 4, 3, 2, 1]) hq_45 (US_not (by decide) (by decide)) US_cons
  have hA_48 : a ≠ q_44 := cx_nf hG_43 hq_45
  have hG_49 := up_n (e := some (.inl (.object RX0, 10, .inr (.inr (.inr (.inr (fun _ => none))))))) hA_48 hG_43
  have hA_50 : q_2 ≠ q_44 := cx_nf hG_40 hq_45
  have hG_51 := up_n (e := some (.inl (.object RX0, 10, .inr (.inr (.inr (.inr (fun _ => none))))))) hA_50 hG_40
  have hA_52 : qa_9 ≠ q_44 := cx_nf hG_41 hq_45
  have hG_53 := up_n (e := some (.inl (.object RX0, 10, .inr (.inr (.inr (.inr (fun _ => none))))))) hA_52 hG_41
  have hA_54 : q_24 ≠ q_44 := cx_nf hG_42 hq_45
  have hG_55 := up_n (e := some (.inl (.object RX0, 10, .inr (.inr (.inr (.inr (fun _ => none))))))) hA_54 hG_42
  have hG_56 : (va_up (va_up G9 a (some (.inr (8, [.ref q_2, .ref q_24, .null, .null, .null, .null, .null, .null, .int 0, .int 0, .int 0])))) q_44 (some (.inl (.object RX0, 10, .inr (.inr (.inr (.inr (fun _ => none)))))))) q_44 = some (.inl (.object RX0, 10, .inr (.inr (.inr (.inr (fun _ => none)))))) := up_s
  refine r_heap (G' := (va_up (va_up G9 a (some (.inr (8, [.ref q_2, .ref q_24, .null, .null, .null, .null, .null, .null, .int 0, .int 0, .int 0])))) q_44 (some (.inl (.object RX0, 10, .inr (.inr (.inr (.inr (fun _ => none))))))))) rfl ?_
  refine r_putF 2 (.array (.object "Glosstemplate$Clause")) dX8_init_34 gRX8_27 rfl hG_49 (Nat.le_of_ble_eq_true rfl) rfl rfl ?_
  have hN_57 := hN_47.put (a := a) (c := .inr (8, [.ref q_2, .ref q_24, .ref q_44, .null, .null, .null, .null, .null, .int 0, .int 0, .int 0])) (Or.inl rfl)
  have hG_58 := up_n (e := some (.inr (8, [.ref q_2, .ref q_24, .ref q_44, .null, .null, .null, .null, .null, .int 0, .int 0, .int 0]))) (Ne.symm hA_6) hG_51
  have hG_59 := up_n (e := some (.inr (8, [.ref q_2, .ref q_24, .ref q_44, .null, .null, .null, .null, .null, .int 0, .int 0, .int 0]))) (Ne.symm hA_11) hG_53
  have hG_60 := up_n (e := some (.inr (8, [.ref q_2, .ref q_24, .ref q_44, .null, .null, .null, .null, .null, .int 0, .int 0, .int 0]))) (Ne.symm hA_28) hG_55
  have hG_61 := up_n (e := some (.inr (8, [.ref q_2, .ref q_24, .ref q_44, .null, .null, .null, .null, .null, .int 0, .int 0, .int 0]))) (Ne.symm hA_48) hG_56
  have hG_62 : (va_up (va_up (va_up G9 a (some (.inr (8, [.ref q_2, .ref q_24, .null, .null, .null, .null, .null, .null, .int 0, .int 0, .int 0])))) q_44 (some (.inl (.object RX0, 10, .inr (.inr (.inr (.inr (fun _ => none)))))))) a (some (.inr (8, [.ref q_2, .ref q_24, .ref q_44, .null, .null, .null, .null, .null, .int 0, .int 0, .int 0])))) a = some (.inr (8, [.ref q_2, .ref q_24, .ref q_44, .null, .null, .null, .null, .null, .int 0, .int 0, .int 0])) := up_s
  refine r_heap (G' := (va_up (va_up (va_up G9 a (some (.inr (8, [.ref q_2, .ref q_24, .null, .null, .null, .null, .null, .null, .int 0, .int 0, .int 0])))) q_44 (some (.inl (.object RX0, 10, .inr (.inr (.inr (.inr (fun _ => none)))))))) a (some (.inr (8, [.ref q_2, .ref q_24, .ref q_44, .null, .null, .null, .null, .null, .int 0, .int 0, .int 0]))))) rfl ?_
  refine r_aload_n dX8_init_37 rfl 0 rfl ?_
  refine r_bipush (v := 6) dX8_init_38 (by decide) ?_
  refine r_newq RX2 6 44 2450 dX8_init_40 t_85 (by decide +kernel) (by decide) (by decide) (by decide) (by decide) (by decide) (fun q_63 hq_64 hb_65 => ?_)
  have hfr_q_63 := hN_57.fresh hq_64
  have hN_66 := hN_57.new (e0 := 8) (c := .inl (.object RX2, 6, .inr (.inr (.inr (.inr (fun _ => none)))))) (L' := [8, 7, 6, 5, 4, 3, 2, 1]) hq_64 (US_not (by decide) (by decide)) US_cons
  have hA_67 : a ≠ q_63 := cx_nf hG_62 hq_64
  have hG_68 := up_n (e := some (.inl (.object RX2, 6, .inr (.inr (.inr (.inr (fun _ => none))))))) hA_67 hG_62
  have hA_69 : q_2 ≠ q_63 := cx_nf hG_58 hq_64
  have hG_70 := up_n (e := some (.inl (.object RX2, 6, .inr (.inr (.inr (.inr (fun _ => none))))))) hA_69 hG_58
  have hA_71 : qa_9 ≠ q_63 := cx_nf hG_59 hq_64
  have hG_72 := up_n (e := some (.inl (.object RX2, 6, .inr (.inr (.inr (.inr (fun _ => none))))))) hA_71 hG_59
  have hA_73 : q_24 ≠ q_63 := cx_nf hG_60 hq_64
  have hG_74 := up_n (e := some (.inl (.object RX2, 6, .inr (.inr (.inr (.inr (fun _ => none))))))) hA_73 hG_60
  have hA_75 : q_44 ≠ q_63 := cx_nf hG_61 hq_64
  have hG_76 := up_n (e := some (.inl (.object RX2, 6, .inr (.inr (.inr (.inr (fun _ => none))))))) hA_75 hG_61
  have hG_77 : (va_up (va_up (va_up (va_up G9 a (some (.inr (8, [.ref q_2, .ref q_24, .null, .null, .null, .null, .null, .null, .int 0, .int 0, .int 0])))) q_44 (some (.inl (.object RX0, 10, .inr (.inr (.inr (.inr (fun _ => none)))))))) a (some (.inr (8, [.ref q_2, .ref q_24, .ref q_44, .null, .null, .null, .null, .null, .int 0, .int 0, .int 0])))) q_63 (some (.inl (.object RX2, 6, .inr (.inr (.inr (.inr (fun _ => none)))))))) q_63 = some (.inl (.object RX2, 6, .inr (.inr (.inr (.inr (fun _ => none)))))) := up_s
  refine r_heap (G' := (va_up (va_up (va_up (va_up G9 a (some (.inr (8, [.ref q_2, .ref q_24, .null, .null, .null, .null, .null, .null, .int 0, .int 0, .int 0])))) q_44 (some (.inl (.object RX0, 10, .inr (.inr (.inr (.inr (fun _ => none)))))))) a (some (.inr (8, [.ref q_2, .ref q_24, .ref q_44, .null, .null, .null, .null, .null, .int 0, .int 0, .int 0])))) q_63 (some (.inl (.object RX2, 6, .inr (.inr (.inr (.inr (fun _ => none))))))))) rfl ?_
  refine r_putF 3 (.array (.object "Glosstemplate$Letter")) dX8_init_43 gRX8_33 rfl hG_68 (Nat.le_of_ble_eq_true rfl) rfl rfl ?_
  have hN_78 := hN_66.put (a := a) (c := .inr (8, [.ref q_2, .ref q_24, .ref q_44, .ref q_63, .null, .null, .null, .null, .int 0, .int 0, .int 0])) (Or.inl rfl)
  have hG_79 := up_n (e := some (.inr (8, [.ref q_2, .ref q_24, .ref q_44, .ref q_63, .null, .null, .null, .null, .int 0, .int 0, .int 0]))) (Ne.symm hA_6) hG_70
  have hG_80 := up_n (e := some (.inr (8, [.ref q_2, .ref q_24, .ref q_44, .ref q_63, .null, .null, .null, .null, .int 0, .int 0, .int 0]))) (Ne.symm hA_11) hG_72
  have hG_81 := up_n (e := some (.inr (8, [.ref q_2, .ref q_24, .ref q_44, .ref q_63, .null, .null, .null, .null, .int 0, .int 0, .int 0]))) (Ne.symm hA_28) hG_74
  have hG_82 := up_n (e := some (.inr (8, [.ref q_2, .ref q_24, .ref q_44, .ref q_63, .null, .null, .null, .null, .int 0, .int 0, .int 0]))) (Ne.symm hA_48) hG_76
  have hG_83 := up_n (e := some (.inr (8, [.ref q_2, .ref q_24, .ref q_44, .ref q_63, .null, .null, .null, .null, .int 0, .int 0, .int 0]))) (Ne.symm hA_67) hG_77
  have hG_84 : (va_up (va_up (va_up (va_up (va_up G9 a (some (.inr (8, [.ref q_2, .ref q_24, .null, .null, .null, .null, .null, .null, .int 0, .int 0, .int 0])))) q_44 (some (.inl (.object RX0, 10, .inr (.inr (.inr (.inr (fun _ => none)))))))) a (some (.inr (8, [.ref q_2, .ref q_24, .ref q_44, .null, .null, .null, .null, .null, .int 0, .int 0, .int 0])))) q_63 (some (.inl (.object RX2, 6, .inr (.inr (.inr (.inr (fun _ => none)))))))) a (some (.inr (8, [.ref q_2, .ref q_24, .ref q_44, .ref q_63, .null, .null, .null, .null, .int 0, .int 0, .int 0])))) a = some (.inr (8, [.ref q_2, .ref q_24, .ref q_44, .ref q_63, .null, .null, .null, .null, .int 0, .int 0, .int 0])) := up_s
  refine r_heap (G' := (va_up (va_up (va_up (va_up (va_up G9 a (some (.inr (8, [.ref q_2, .ref q_24, .null, .null, .null, .null, .null, .null, .int 0, .int 0, .int 0])))) q_44 (some (.inl (.object RX0, 10, .inr (.inr (.inr (.inr (fun _ => none)))))))) a (some (.inr (8, [.ref q_2, .ref q_24, .ref q_44, .null, .null, .null, .null, .null, .int 0, .int 0, .int 0])))) q_63 (some (.inl (.object RX2, 6, .inr (.inr (.inr (.inr (fun _ => none)))))))) a (some (.inr (8, [.ref q_2, .ref q_24, .ref q_44, .ref q_63, .null, .null, .null, .null, .int 0, .int 0, .int 0]))))) rfl ?_
  refine r_aload_n dX8_init_46 rfl 0 rfl ?_
  refine r_bipush (v := 8) dX8_init_47 (by decide) ?_
  refine r_newq RX1 8 43 2442 dX8_init_49 t_87 (by decide +kernel) (by decide) (by decide) (by decide) (by decide) (by decide) (fun q_85 hq_86 hb_87 => ?_)
  have hfr_q_85 := hN_78.fresh hq_86
  have hN_88 := hN_78.new (e0 := 9) (c := .inl (.object RX1, 8, .inr (.inr (.inr (.inr (fun _ => none)))))) (L' := [9, 8, 7, 6, 5, 4, 3, 2, 1]) hq_86 (US_not (by decide) (by decide)) US_cons
  have hA_89 : a ≠ q_85 := cx_nf hG_84 hq_86
  have hG_90 := up_n (e := some (.inl (.object RX1, 8, .inr (.inr (.inr (.inr (fun _ => none))))))) hA_89 hG_84
  have hA_91 : q_2 ≠ q_85 := cx_nf hG_79 hq_86
  have hG_92 := up_n (e := some (.inl (.object RX1, 8, .inr (.inr (.inr (.inr (fun _ => none))))))) hA_91 hG_79
  have hA_93 : qa_9 ≠ q_85 := cx_nf hG_80 hq_86
  have hG_94 := up_n (e := some (.inl (.object RX1, 8, .inr (.inr (.inr (.inr (fun _ => none))))))) hA_93 hG_80
  have hA_95 : q_24 ≠ q_85 := cx_nf hG_81 hq_86
  have hG_96 := up_n (e := some (.inl (.object RX1, 8, .inr (.inr (.inr (.inr (fun _ => none))))))) hA_95 hG_81
  have hA_97 : q_44 ≠ q_85 := cx_nf hG_82 hq_86
  have hG_98 := up_n (e := some (.inl (.object RX1, 8, .inr (.inr (.inr (.inr (fun _ => none))))))) hA_97 hG_82
  have hA_99 : q_63 ≠ q_85 := cx_nf hG_83 hq_86
  have hG_100 := up_n (e := some (.inl (.object RX1, 8, .inr (.inr (.inr (.inr (fun _ => none))))))) hA_99 hG_83
  have hG_101 : (va_up (va_up (va_up (va_up (va_up (va_up G9 a (some (.inr (8, [.ref q_2, .ref q_24, .null, .null, .null, .null, .null, .null, .int 0, .int 0, .int 0])))) q_44 (some (.inl (.object RX0, 10, .inr (.inr (.inr (.inr (fun _ => none)))))))) a (some (.inr (8, [.ref q_2, .ref q_24, .ref q_44, .null, .null, .null, .null, .null, .int 0, .int 0, .int 0])))) q_63 (some (.inl (.object RX2, 6, .inr (.inr (.inr (.inr (fun _ => none)))))))) a (some (.inr (8, [.ref q_2, .ref q_24, .ref q_44, .ref q_63, .null, .null, .null, .null, .int 0, .int 0, .int 0])))) q_85 (some (.inl (.object RX1, 8, .inr (.inr (.inr (.inr (fun _ => none)))))))) q_85 = some (.inl (.object RX1, 8, .inr (.inr (.inr (.inr (fun _ => none)))))) := up_s
  refine r_heap (G' := (va_up (va_up (va_up (va_up (va_up (va_up G9 a (some (.inr (8, [.ref q_2, .ref q_24, .null, .null, .null, .null, .null, .null, .int 0, .int 0, .int 0])))) q_44 (some (.inl (.object RX0, 10, .inr (.inr (.inr (.inr (fun _ => none)))))))) a (some (.inr (8, [.ref q_2, .ref q_24, .ref q_44, .null, .null, .null, .null, .null, .int 0, .int 0, .int 0])))) q_63 (some (.inl (.object RX2, 6, .inr (.inr (.inr (.inr (fun _ => none)))))))) a (some (.inr (8, [.ref q_2, .ref q_24, .ref q_44, .ref q_63, .null, .null, .null, .null, .int 0, .int 0, .int 0])))) q_85 (some (.inl (.object RX1, 8, .inr (.inr (.inr (.inr (fun _ => none))))))))) rfl ?_
  refine r_putF 4 (.array (.object "Glosstemplate$Data")) dX8_init_52 gRX8_39 rfl hG_90 (Nat.le_of_ble_eq_true rfl) rfl rfl ?_
  have hN_102 := hN_88.put (a := a) (c := .inr (8, [.ref q_2, .ref q_24, .ref q_44, .ref q_63, .ref q_85, .null, .null, .null, .int 0, .int 0, .int 0])) (Or.inl rfl)
  have hG_103 := up_n (e := some (.inr (8, [.ref q_2, .ref q_24, .ref q_44, .ref q_63, .ref q_85, .null, .null, .null, .int 0, .int 0, .int 0]))) (Ne.symm hA_6) hG_92
  have hG_104 := up_n (e := some (.inr (8, [.ref q_2, .ref q_24, .ref q_44, .ref q_63, .ref q_85, .null, .null, .null, .int 0, .int 0, .int 0]))) (Ne.symm hA_11) hG_94
  have hG_105 := up_n (e := some (.inr (8, [.ref q_2, .ref q_24, .ref q_44, .ref q_63, .ref q_85, .null, .null, .null, .int 0, .int 0, .int 0]))) (Ne.symm hA_28) hG_96
  have hG_106 := up_n (e := some (.inr (8, [.ref q_2, .ref q_24, .ref q_44, .ref q_63, .ref q_85, .null, .null, .null, .int 0, .int 0, .int 0]))) (Ne.symm hA_48) hG_98
  have hG_107 := up_n (e := some (.inr (8, [.ref q_2, .ref q_24, .ref q_44, .ref q_63, .ref q_85, .null, .null, .null, .int 0, .int 0, .int 0]))) (Ne.symm hA_67) hG_100
  have hG_108 := up_n (e := some (.inr (8, [.ref q_2, .ref q_24, .ref q_44, .ref q_63, .ref q_85, .null, .null, .null, .int 0, .int 0, .int 0]))) (Ne.symm hA_89) hG_101
  have hG_109 : (va_up (va_up (va_up (va_up (va_up (va_up (va_up G9 a (some (.inr (8, [.ref q_2, .ref q_24, .null, .null, .null, .null, .null, .null, .int 0, .int 0, .int 0])))) q_44 (some (.inl (.object RX0, 10, .inr (.inr (.inr (.inr (fun _ => none)))))))) a (some (.inr (8, [.ref q_2, .ref q_24, .ref q_44, .null, .null, .null, .null, .null, .int 0, .int 0, .int 0])))) q_63 (some (.inl (.object RX2, 6, .inr (.inr (.inr (.inr (fun _ => none)))))))) a (some (.inr (8, [.ref q_2, .ref q_24, .ref q_44, .ref q_63, .null, .null, .null, .null, .int 0, .int 0, .int 0])))) q_85 (some (.inl (.object RX1, 8, .inr (.inr (.inr (.inr (fun _ => none)))))))) a (some (.inr (8, [.ref q_2, .ref q_24, .ref q_44, .ref q_63, .ref q_85, .null, .null, .null, .int 0, .int 0, .int 0])))) a = some (.inr (8, [.ref q_2, .ref q_24, .ref q_44, .ref q_63, .ref q_85, .null, .null, .null, .int 0, .int 0, .int 0])) := up_s
  refine r_heap (G' := (va_up (va_up (va_up (va_up (va_up (va_up (va_up G9 a (some (.inr (8, [.ref q_2, .ref q_24, .null, .null, .null, .null, .null, .null, .int 0, .int 0, .int 0])))) q_44 (some (.inl (.object RX0, 10, .inr (.inr (.inr (.inr (fun _ => none)))))))) a (some (.inr (8, [.ref q_2, .ref q_24, .ref q_44, .null, .null, .null, .null, .null, .int 0, .int 0, .int 0])))) q_63 (some (.inl (.object RX2, 6, .inr (.inr (.inr (.inr (fun _ => none)))))))) a (some (.inr (8, [.ref q_2, .ref q_24, .ref q_44, .ref q_63, .null, .null, .null, .null, .int 0, .int 0, .int 0])))) q_85 (some (.inl (.object RX1, 8, .inr (.inr (.inr (.inr (fun _ => none)))))))) a (some (.inr (8, [.ref q_2, .ref q_24, .ref q_44, .ref q_63, .ref q_85, .null, .null, .null, .int 0, .int 0, .int 0]))))) rfl ?_
  refine r_aload_n dX8_init_55 rfl 0 rfl ?_
  refine r_iconst (v := 3) dX8_init_56 (by decide) ?_
  refine r_newa (.int) 3 (3, .inl (fun _ => 0)) 42 2439 dX8_init_57 ac_int rfl (fun _ _ h => h) (fun _ => rfl) (by decide) (by decide) (by decide) (by decide) (by decide) (fun q_110 hq_111 hb_112 => ?_)
  have hfr_q_110 := hN_102.fresh hq_111
  have hN_113 := hN_102.new (e0 := 10) (c := .inl (.int, 3, .inl (fun _ => 0))) (L' := [10, 9, 8, 7, 6, 5, 4, 3, 2, 1]) hq_111 (US_not (by decide) (by decide)) US_cons
  have hA_114 : a ≠ q_110 := cx_nf hG_109 hq_111
  have hG_115 := up_n (e := some (.inl (.int, 3, .inl (fun _ => 0)))) hA_114 hG_109
  have hA_116 : q_2 ≠ q_110 := cx_nf hG_103 hq_111
  have hG_117 := up_n (e := some (.inl (.int, 3, .inl (fun _ => 0)))) hA_116 hG_103
  have hA_118 : qa_9 ≠ q_110 := cx_nf hG_104 hq_111
  have hG_119 := up_n (e := some (.inl (.int, 3, .inl (fun _ => 0)))) hA_118 hG_104
  have hA_120 : q_24 ≠ q_110 := cx_nf hG_105 hq_111
  have hG_121 := up_n (e := some (.inl (.int, 3, .inl (fun _ => 0)))) hA_120 hG_105
  have hA_122 : q_44 ≠ q_110 := cx_nf hG_106 hq_111
  have hG_123 := up_n (e := some (.inl (.int, 3, .inl (fun _ => 0)))) hA_122 hG_106
  have hA_124 : q_63 ≠ q_110 := cx_nf hG_107 hq_111
  have hG_125 := up_n (e := some (.inl (.int, 3, .inl (fun _ => 0)))) hA_124 hG_107
  have hA_126 : q_85 ≠ q_110 := cx_nf hG_108 hq_111
  have hG_127 := up_n (e := some (.inl (.int, 3, .inl (fun _ => 0)))) hA_126 hG_108
  have hG_128 : (va_up (va_up (va_up (va_up (va_up (va_up (va_up (va_up G9 a (some (.inr (8, [.ref q_2, .ref q_24, .null, .null, .null, .null, .null, .null, .int 0, .int 0, .int 0])))) q_44 (some (.inl (.object RX0, 10, .inr (.inr (.inr (.inr (fun _ => none)))))))) a (some (.inr (8, [.ref q_2, .ref q_24, .ref q_44, .null, .null, .null, .null, .null, .int 0, .int 0, .int 0])))) q_63 (some (.inl (.object RX2, 6, .inr (.inr (.inr (.inr (fun _ => none)))))))) a (some (.inr (8, [.ref q_2, .ref q_24, .ref q_44, .ref q_63, .null, .null, .null, .null, .int 0, .int 0, .int 0])))) q_85 (some (.inl (.object RX1, 8, .inr (.inr (.inr (.inr (fun _ => none)))))))) a (some (.inr (8, [.ref q_2, .ref q_24, .ref q_44, .ref q_63, .ref q_85, .null, .null, .null, .int 0, .int 0, .int 0])))) q_110 (some (.inl (.int, 3, .inl (fun _ => 0))))) q_110 = some (.inl (.int, 3, .inl (fun _ => 0))) := up_s
  refine r_heap (G' := (va_up (va_up (va_up (va_up (va_up (va_up (va_up (va_up G9 a (some (.inr (8, [.ref q_2, .ref q_24, .null, .null, .null, .null, .null, .null, .int 0, .int 0, .int 0])))) q_44 (some (.inl (.object RX0, 10, .inr (.inr (.inr (.inr (fun _ => none)))))))) a (some (.inr (8, [.ref q_2, .ref q_24, .ref q_44, .null, .null, .null, .null, .null, .int 0, .int 0, .int 0])))) q_63 (some (.inl (.object RX2, 6, .inr (.inr (.inr (.inr (fun _ => none)))))))) a (some (.inr (8, [.ref q_2, .ref q_24, .ref q_44, .ref q_63, .null, .null, .null, .null, .int 0, .int 0, .int 0])))) q_85 (some (.inl (.object RX1, 8, .inr (.inr (.inr (.inr (fun _ => none)))))))) a (some (.inr (8, [.ref q_2, .ref q_24, .ref q_44, .ref q_63, .ref q_85, .null, .null, .null, .int 0, .int 0, .int 0])))) q_110 (some (.inl (.int, 3, .inl (fun _ => 0)))))) rfl ?_
  refine r_dup dX8_init_59 rfl ?_
  refine r_iconst (v := 0) dX8_init_60 (by decide) ?_
  refine r_iconst (v := 1) dX8_init_61 (by decide) ?_
  refine r_iast dX8_init_62 hG_128 (show vp_in (nI 0) 3 from vp_in_nI (by decide) (by decide)) ?_
  have hN_129 := hN_113.put (a := q_110) (c := inA 3 (upd (fun _ => 0) 0 1)) (Or.inr hfr_q_110)
  have hG_130 := up_n (e := some (inA 3 (upd (fun _ => 0) 0 1))) hA_114 hG_115
  have hG_131 := up_n (e := some (inA 3 (upd (fun _ => 0) 0 1))) hA_116 hG_117
  have hG_132 := up_n (e := some (inA 3 (upd (fun _ => 0) 0 1))) hA_118 hG_119
  have hG_133 := up_n (e := some (inA 3 (upd (fun _ => 0) 0 1))) hA_120 hG_121
  have hG_134 := up_n (e := some (inA 3 (upd (fun _ => 0) 0 1))) hA_122 hG_123
  have hG_135 := up_n (e := some (inA 3 (upd (fun _ => 0) 0 1))) hA_124 hG_125
  have hG_136 := up_n (e := some (inA 3 (upd (fun _ => 0) 0 1))) hA_126 hG_127
  have hG_137 : (va_up (va_up (va_up (va_up (va_up (va_up (va_up (va_up (va_up G9 a (some (.inr (8, [.ref q_2, .ref q_24, .null, .null, .null, .null, .null, .null, .int 0, .int 0, .int 0])))) q_44 (some (.inl (.object RX0, 10, .inr (.inr (.inr (.inr (fun _ => none)))))))) a (some (.inr (8, [.ref q_2, .ref q_24, .ref q_44, .null, .null, .null, .null, .null, .int 0, .int 0, .int 0])))) q_63 (some (.inl (.object RX2, 6, .inr (.inr (.inr (.inr (fun _ => none)))))))) a (some (.inr (8, [.ref q_2, .ref q_24, .ref q_44, .ref q_63, .null, .null, .null, .null, .int 0, .int 0, .int 0])))) q_85 (some (.inl (.object RX1, 8, .inr (.inr (.inr (.inr (fun _ => none)))))))) a (some (.inr (8, [.ref q_2, .ref q_24, .ref q_44, .ref q_63, .ref q_85, .null, .null, .null, .int 0, .int 0, .int 0])))) q_110 (some (.inl (.int, 3, .inl (fun _ => 0))))) q_110 (some (inA 3 (upd (fun _ => 0) 0 1)))) q_110 = some (inA 3 (upd (fun _ => 0) 0 1)) := up_s
  refine r_heap (G' := (va_up (va_up (va_up (va_up (va_up (va_up (va_up (va_up (va_up G9 a (some (.inr (8, [.ref q_2, .ref q_24, .null, .null, .null, .null, .null, .null, .int 0, .int 0, .int 0])))) q_44 (some (.inl (.object RX0, 10, .inr (.inr (.inr (.inr (fun _ => none)))))))) a (some (.inr (8, [.ref q_2, .ref q_24, .ref q_44, .null, .null, .null, .null, .null, .int 0, .int 0, .int 0])))) q_63 (some (.inl (.object RX2, 6, .inr (.inr (.inr (.inr (fun _ => none)))))))) a (some (.inr (8, [.ref q_2, .ref q_24, .ref q_44, .ref q_63, .null, .null, .null, .null, .int 0, .int 0, .int 0])))) q_85 (some (.inl (.object RX1, 8, .inr (.inr (.inr (.inr (fun _ => none)))))))) a (some (.inr (8, [.ref q_2, .ref q_24, .ref q_44, .ref q_63, .ref q_85, .null, .null, .null, .int 0, .int 0, .int 0])))) q_110 (some (.inl (.int, 3, .inl (fun _ => 0))))) q_110 (some (inA 3 (upd (fun _ => 0) 0 1))))) rfl ?_
  refine r_dup dX8_init_63 rfl ?_
  refine r_iconst (v := 1) dX8_init_64 (by decide) ?_
  refine r_iconst (v := 1) dX8_init_65 (by decide) ?_
  refine r_iast dX8_init_66 hG_137 (show vp_in (nI 1) 3 from vp_in_nI (by decide) (by decide)) ?_
  have hN_138 := hN_129.put (a := q_110) (c := inA 3 (upd (upd (fun _ => 0) 0 1) 1 1)) (Or.inr hfr_q_110)
  have hG_139 := up_n (e := some (inA 3 (upd (upd (fun _ => 0) 0 1) 1 1))) hA_114 hG_130
  have hG_140 := up_n (e := some (inA 3 (upd (upd (fun _ => 0) 0 1) 1 1))) hA_116 hG_131
  have hG_141 := up_n (e := some (inA 3 (upd (upd (fun _ => 0) 0 1) 1 1))) hA_118 hG_132
  have hG_142 := up_n (e := some (inA 3 (upd (upd (fun _ => 0) 0 1) 1 1))) hA_120 hG_133
  have hG_143 := up_n (e := some (inA 3 (upd (upd (fun _ => 0) 0 1) 1 1))) hA_122 hG_134
  have hG_144 := up_n (e := some (inA 3 (upd (upd (fun _ => 0) 0 1) 1 1))) hA_124 hG_135
  have hG_145 := up_n (e := some (inA 3 (upd (upd (fun _ => 0) 0 1) 1 1))) hA_126 hG_136
  have hG_146 : (va_up (va_up (va_up (va_up (va_up (va_up (va_up (va_up (va_up (va_up G9 a (some (.inr (8, [.ref q_2, .ref q_24, .null, .null, .null, .null, .null, .null, .int 0, .int 0, .int 0])))) q_44 (some (.inl (.object RX0, 10, .inr (.inr (.inr (.inr (fun _ => none)))))))) a (some (.inr (8, [.ref q_2, .ref q_24, .ref q_44, .null, .null, .null, .null, .null, .int 0, .int 0, .int 0])))) q_63 (some (.inl (.object RX2, 6, .inr (.inr (.inr (.inr (fun _ => none)))))))) a (some (.inr (8, [.ref q_2, .ref q_24, .ref q_44, .ref q_63, .null, .null, .null, .null, .int 0, .int 0, .int 0])))) q_85 (some (.inl (.object RX1, 8, .inr (.inr (.inr (.inr (fun _ => none)))))))) a (some (.inr (8, [.ref q_2, .ref q_24, .ref q_44, .ref q_63, .ref q_85, .null, .null, .null, .int 0, .int 0, .int 0])))) q_110 (some (.inl (.int, 3, .inl (fun _ => 0))))) q_110 (some (inA 3 (upd (fun _ => 0) 0 1)))) q_110 (some (inA 3 (upd (upd (fun _ => 0) 0 1) 1 1)))) q_110 = some (inA 3 (upd (upd (fun _ => 0) 0 1) 1 1)) := up_s
  refine r_heap (G' := (va_up (va_up (va_up (va_up (va_up (va_up (va_up (va_up (va_up (va_up G9 a (some (.inr (8, [.ref q_2, .ref q_24, .null, .null, .null, .null, .null, .null, .int 0, .int 0, .int 0])))) q_44 (some (.inl (.object RX0, 10, .inr (.inr (.inr (.inr (fun _ => none)))))))) a (some (.inr (8, [.ref q_2, .ref q_24, .ref q_44, .null, .null, .null, .null, .null, .int 0, .int 0, .int 0])))) q_63 (some (.inl (.object RX2, 6, .inr (.inr (.inr (.inr (fun _ => none)))))))) a (some (.inr (8, [.ref q_2, .ref q_24, .ref q_44, .ref q_63, .null, .null, .null, .null, .int 0, .int 0, .int 0])))) q_85 (some (.inl (.object RX1, 8, .inr (.inr (.inr (.inr (fun _ => none)))))))) a (some (.inr (8, [.ref q_2, .ref q_24, .ref q_44, .ref q_63, .ref q_85, .null, .null, .null, .int 0, .int 0, .int 0])))) q_110 (some (.inl (.int, 3, .inl (fun _ => 0))))) q_110 (some (inA 3 (upd (fun _ => 0) 0 1)))) q_110 (some (inA 3 (upd (upd (fun _ => 0) 0 1) 1 1))))) rfl ?_
  refine r_dup dX8_init_67 rfl ?_
  refine r_iconst (v := 2) dX8_init_68 (by decide) ?_
  refine r_iconst (v := 1) dX8_init_69 (by decide) ?_
  refine r_iast dX8_init_70 hG_146 (show vp_in (nI 2) 3 from vp_in_nI (by decide) (by decide)) ?_
  have hN_147 := hN_138.put (a := q_110) (c := inA 3 (upd (upd (upd (fun _ => 0) 0 1) 1 1) 2 1)) (Or.inr hfr_q_110)
  have hG_148 := up_n (e := some (inA 3 (upd (upd (upd (fun _ => 0) 0 1) 1 1) 2 1))) hA_114 hG_139
  have hG_149 := up_n (e := some (inA 3 (upd (upd (upd (fun _ => 0) 0 1) 1 1) 2 1))) hA_116 hG_140
  have hG_150 := up_n (e := some (inA 3 (upd (upd (upd (fun _ => 0) 0 1) 1 1) 2 1))) hA_118 hG_141
  have hG_151 := up_n (e := some (inA 3 (upd (upd (upd (fun _ => 0) 0 1) 1 1) 2 1))) hA_120 hG_142
  have hG_152 := up_n (e := some (inA 3 (upd (upd (upd (fun _ => 0) 0 1) 1 1) 2 1))) hA_122 hG_143
  have hG_153 := up_n (e := some (inA 3 (upd (upd (upd (fun _ => 0) 0 1) 1 1) 2 1))) hA_124 hG_144
  have hG_154 := up_n (e := some (inA 3 (upd (upd (upd (fun _ => 0) 0 1) 1 1) 2 1))) hA_126 hG_145
  have hG_155 : (va_up (va_up (va_up (va_up (va_up (va_up (va_up (va_up (va_up (va_up (va_up G9 a (some (.inr (8, [.ref q_2, .ref q_24, .null, .null, .null, .null, .null, .null, .int 0, .int 0, .int 0])))) q_44 (some (.inl (.object RX0, 10, .inr (.inr (.inr (.inr (fun _ => none)))))))) a (some (.inr (8, [.ref q_2, .ref q_24, .ref q_44, .null, .null, .null, .null, .null, .int 0, .int 0, .int 0])))) q_63 (some (.inl (.object RX2, 6, .inr (.inr (.inr (.inr (fun _ => none)))))))) a (some (.inr (8, [.ref q_2, .ref q_24, .ref q_44, .ref q_63, .null, .null, .null, .null, .int 0, .int 0, .int 0])))) q_85 (some (.inl (.object RX1, 8, .inr (.inr (.inr (.inr (fun _ => none)))))))) a (some (.inr (8, [.ref q_2, .ref q_24, .ref q_44, .ref q_63, .ref q_85, .null, .null, .null, .int 0, .int 0, .int 0])))) q_110 (some (.inl (.int, 3, .inl (fun _ => 0))))) q_110 (some (inA 3 (upd (fun _ => 0) 0 1)))) q_110 (some (inA 3 (upd (upd (fun _ => 0) 0 1) 1 1)))) q_110 (some (inA 3 (upd (upd (upd (fun _ => 0) 0 1) 1 1) 2 1)))) q_110 = some (inA 3 (upd (upd (upd (fun _ => 0) 0 1) 1 1) 2 1)) := up_s
  refine r_heap (G' := (va_up (va_up (va_up (va_up (va_up (va_up (va_up (va_up (va_up (va_up (va_up G9 a (some (.inr (8, [.ref q_2, .ref q_24, .null, .null, .null, .null, .null, .null, .int 0, .int 0, .int 0])))) q_44 (some (.inl (.object RX0, 10, .inr (.inr (.inr (.inr (fun _ => none)))))))) a (some (.inr (8, [.ref q_2, .ref q_24, .ref q_44, .null, .null, .null, .null, .null, .int 0, .int 0, .int 0])))) q_63 (some (.inl (.object RX2, 6, .inr (.inr (.inr (.inr (fun _ => none)))))))) a (some (.inr (8, [.ref q_2, .ref q_24, .ref q_44, .ref q_63, .null, .null, .null, .null, .int 0, .int 0, .int 0])))) q_85 (some (.inl (.object RX1, 8, .inr (.inr (.inr (.inr (fun _ => none)))))))) a (some (.inr (8, [.ref q_2, .ref q_24, .ref q_44, .ref q_63, .ref q_85, .null, .null, .null, .int 0, .int 0, .int 0])))) q_110 (some (.inl (.int, 3, .inl (fun _ => 0))))) q_110 (some (inA 3 (upd (fun _ => 0) 0 1)))) q_110 (some (inA 3 (upd (upd (fun _ => 0) 0 1) 1 1)))) q_110 (some (inA 3 (upd (upd (upd (fun _ => 0) 0 1) 1 1) 2 1))))) rfl ?_
  refine r_putF 5 (.array .int) dX8_init_71 gRX8_43 rfl hG_148 (Nat.le_of_ble_eq_true rfl) rfl rfl ?_
  have hN_156 := hN_147.put (a := a) (c := .inr (8, [.ref q_2, .ref q_24, .ref q_44, .ref q_63, .ref q_85, .ref q_110, .null, .null, .int 0, .int 0, .int 0])) (Or.inl rfl)
  have hG_157 := up_n (e := some (.inr (8, [.ref q_2, .ref q_24, .ref q_44, .ref q_63, .ref q_85, .ref q_110, .null, .null, .int 0, .int 0, .int 0]))) (Ne.symm hA_6) hG_149
  have hG_158 := up_n (e := some (.inr (8, [.ref q_2, .ref q_24, .ref q_44, .ref q_63, .ref q_85, .ref q_110, .null, .null, .int 0, .int 0, .int 0]))) (Ne.symm hA_11) hG_150
  have hG_159 := up_n (e := some (.inr (8, [.ref q_2, .ref q_24, .ref q_44, .ref q_63, .ref q_85, .ref q_110, .null, .null, .int 0, .int 0, .int 0]))) (Ne.symm hA_28) hG_151
  have hG_160 := up_n (e := some (.inr (8, [.ref q_2, .ref q_24, .ref q_44, .ref q_63, .ref q_85, .ref q_110, .null, .null, .int 0, .int 0, .int 0]))) (Ne.symm hA_48) hG_152
  have hG_161 := up_n (e := some (.inr (8, [.ref q_2, .ref q_24, .ref q_44, .ref q_63, .ref q_85, .ref q_110, .null, .null, .int 0, .int 0, .int 0]))) (Ne.symm hA_67) hG_153
  have hG_162 := up_n (e := some (.inr (8, [.ref q_2, .ref q_24, .ref q_44, .ref q_63, .ref q_85, .ref q_110, .null, .null, .int 0, .int 0, .int 0]))) (Ne.symm hA_89) hG_154
  have hG_163 := up_n (e := some (.inr (8, [.ref q_2, .ref q_24, .ref q_44, .ref q_63, .ref q_85, .ref q_110, .null, .null, .int 0, .int 0, .int 0]))) (Ne.symm hA_114) hG_155
  have hG_164 : (va_up (va_up (va_up (va_up (va_up (va_up (va_up (va_up (va_up (va_up (va_up (va_up G9 a (some (.inr (8, [.ref q_2, .ref q_24, .null, .null, .null, .null, .null, .null, .int 0, .int 0, .int 0])))) q_44 (some (.inl (.object RX0, 10, .inr (.inr (.inr (.inr (fun _ => none)))))))) a (some (.inr (8, [.ref q_2, .ref q_24, .ref q_44, .null, .null, .null, .null, .null, .int 0, .int 0, .int 0])))) q_63 (some (.inl (.object RX2, 6, .inr (.inr (.inr (.inr (fun _ => none)))))))) a (some (.inr (8, [.ref q_2, .ref q_24, .ref q_44, .ref q_63, .null, .null, .null, .null, .int 0, .int 0, .int 0])))) q_85 (some (.inl (.object RX1, 8, .inr (.inr (.inr (.inr (fun _ => none)))))))) a (some (.inr (8, [.ref q_2, .ref q_24, .ref q_44, .ref q_63, .ref q_85, .null, .null, .null, .int 0, .int 0, .int 0])))) q_110 (some (.inl (.int, 3, .inl (fun _ => 0))))) q_110 (some (inA 3 (upd (fun _ => 0) 0 1)))) q_110 (some (inA 3 (upd (upd (fun _ => 0) 0 1) 1 1)))) q_110 (some (inA 3 (upd (upd (upd (fun _ => 0) 0 1) 1 1) 2 1)))) a (some (.inr (8, [.ref q_2, .ref q_24, .ref q_44, .ref q_63, .ref q_85, .ref q_110, .null, .null, .int 0, .int 0, .int 0])))) a = some (.inr (8, [.ref q_2, .ref q_24, .ref q_44, .ref q_63, .ref q_85, .ref q_110, .null, .null, .int 0, .int 0, .int 0])) := up_s
  refine r_heap (G' := (va_up (va_up (va_up (va_up (va_up (va_up (va_up (va_up (va_up (va_up (va_up (va_up G9 a (some (.inr (8, [.ref q_2, .ref q_24, .null, .null, .null, .null, .null, .null, .int 0, .int 0, .int 0])))) q_44 (some (.inl (.object RX0, 10, .inr (.inr (.inr (.inr (fun _ => none)))))))) a (some (.inr (8, [.ref q_2, .ref q_24, .ref q_44, .null, .null, .null, .null, .null, .int 0, .int 0, .int 0])))) q_63 (some (.inl (.object RX2, 6, .inr (.inr (.inr (.inr (fun _ => none)))))))) a (some (.inr (8, [.ref q_2, .ref q_24, .ref q_44, .ref q_63, .null, .null, .null, .null, .int 0, .int 0, .int 0])))) q_85 (some (.inl (.object RX1, 8, .inr (.inr (.inr (.inr (fun _ => none)))))))) a (some (.inr (8, [.ref q_2, .ref q_24, .ref q_44, .ref q_63, .ref q_85, .null, .null, .null, .int 0, .int 0, .int 0])))) q_110 (some (.inl (.int, 3, .inl (fun _ => 0))))) q_110 (some (inA 3 (upd (fun _ => 0) 0 1)))) q_110 (some (inA 3 (upd (upd (fun _ => 0) 0 1) 1 1)))) q_110 (some (inA 3 (upd (upd (upd (fun _ => 0) 0 1) 1 1) 2 1)))) a (some (.inr (8, [.ref q_2, .ref q_24, .ref q_44, .ref q_63, .ref q_85, .ref q_110, .null, .null, .int 0, .int 0, .int 0]))))) rfl ?_
  refine r_aload_n dX8_init_74 rfl 0 rfl ?_
  refine r_new [.null, .int 0] 41 2437 dX8_init_75 wRX8_47 (by decide) (by decide) (fun q_165 hq_166 hb_167 => ?_)
  have hfr_q_165 := hN_156.fresh hq_166
  have hN_168 := hN_156.new (e0 := 11) (c := .inr (3, [.null, .int 0])) (L' := [11, 10, 9, 8, 7, 6, 5, 4, 3, 2, 1]) hq_166 (US_not (by decide) (by decide)) US_cons
  have hA_169 : a ≠ q_165 := cx_nf hG_164 hq_166
  have hG_170 := up_n (e := some (.inr (3, [.null, .int 0]))) hA_169 hG_164
  have hA_171 : q_2 ≠ q_165 := cx_nf hG_157 hq_166
  have hG_172 := up_n (e := some (.inr (3, [.null, .int 0]))) hA_171 hG_157
  have hA_173 : qa_9 ≠ q_165 := cx_nf hG_158 hq_166
  have hG_174 := up_n (e := some (.inr (3, [.null, .int 0]))) hA_173 hG_158
  have hA_175 : q_24 ≠ q_165 := cx_nf hG_159 hq_166
  have hG_176 := up_n (e := some (.inr (3, [.null, .int 0]))) hA_175 hG_159
  have hA_177 : q_44 ≠ q_165 := cx_nf hG_160 hq_166
  have hG_178 := up_n (e := some (.inr (3, [.null, .int 0]))) hA_177 hG_160
  have hA_179 : q_63 ≠ q_165 := cx_nf hG_161 hq_166
  have hG_180 := up_n (e := some (.inr (3, [.null, .int 0]))) hA_179 hG_161
  have hA_181 : q_85 ≠ q_165 := cx_nf hG_162 hq_166
  have hG_182 := up_n (e := some (.inr (3, [.null, .int 0]))) hA_181 hG_162
  have hA_183 : q_110 ≠ q_165 := cx_nf hG_163 hq_166
  have hG_184 := up_n (e := some (.inr (3, [.null, .int 0]))) hA_183 hG_163
  have hG_185 : (va_up (va_up (va_up (va_up (va_up (va_up (va_up (va_up (va_up (va_up (va_up (va_up (va_up G9 a (some (.inr (8, [.ref q_2, .ref q_24, .null, .null, .null, .null, .null, .null, .int 0, .int 0, .int 0])))) q_44 (some (.inl (.object RX0, 10, .inr (.inr (.inr (.inr (fun _ => none)))))))) a (some (.inr (8, [.ref q_2, .ref q_24, .ref q_44, .null, .null, .null, .null, .null, .int 0, .int 0, .int 0])))) q_63 (some (.inl (.object RX2, 6, .inr (.inr (.inr (.inr (fun _ => none)))))))) a (some (.inr (8, [.ref q_2, .ref q_24, .ref q_44, .ref q_63, .null, .null, .null, .null, .int 0, .int 0, .int 0])))) q_85 (some (.inl (.object RX1, 8, .inr (.inr (.inr (.inr (fun _ => none)))))))) a (some (.inr (8, [.ref q_2, .ref q_24, .ref q_44, .ref q_63, .ref q_85, .null, .null, .null, .int 0, .int 0, .int 0])))) q_110 (some (.inl (.int, 3, .inl (fun _ => 0))))) q_110 (some (inA 3 (upd (fun _ => 0) 0 1)))) q_110 (some (inA 3 (upd (upd (fun _ => 0) 0 1) 1 1)))) q_110 (some (inA 3 (upd (upd (upd (fun _ => 0) 0 1) 1 1) 2 1)))) a (some (.inr (8, [.ref q_2, .ref q_24, .ref q_44, .ref q_63, .ref q_85, .ref q_110, .null, .null, .int 0, .int 0, .int 0])))) q_165 (some (.inr (3, [.null, .int 0])))) q_165 = some (.inr (3, [.null, .int 0])) := up_s
  refine r_heap (G' := (va_up (va_up (va_up (va_up (va_up (va_up (va_up (va_up (va_up (va_up (va_up (va_up (va_up G9 a (some (.inr (8, [.ref q_2, .ref q_24, .null, .null, .null, .null, .null, .null, .int 0, .int 0, .int 0])))) q_44 (some (.inl (.object RX0, 10, .inr (.inr (.inr (.inr (fun _ => none)))))))) a (some (.inr (8, [.ref q_2, .ref q_24, .ref q_44, .null, .null, .null, .null, .null, .int 0, .int 0, .int 0])))) q_63 (some (.inl (.object RX2, 6, .inr (.inr (.inr (.inr (fun _ => none)))))))) a (some (.inr (8, [.ref q_2, .ref q_24, .ref q_44, .ref q_63, .null, .null, .null, .null, .int 0, .int 0, .int 0])))) q_85 (some (.inl (.object RX1, 8, .inr (.inr (.inr (.inr (fun _ => none)))))))) a (some (.inr (8, [.ref q_2, .ref q_24, .ref q_44, .ref q_63, .ref q_85, .null, .null, .null, .int 0, .int 0, .int 0])))) q_110 (some (.inl (.int, 3, .inl (fun _ => 0))))) q_110 (some (inA 3 (upd (fun _ => 0) 0 1)))) q_110 (some (inA 3 (upd (upd (fun _ => 0) 0 1) 1 1)))) q_110 (some (inA 3 (upd (upd (upd (fun _ => 0) 0 1) 1 1) 2 1)))) a (some (.inr (8, [.ref q_2, .ref q_24, .ref q_44, .ref q_63, .ref q_85, .ref q_110, .null, .null, .int 0, .int 0, .int 0])))) q_165 (some (.inr (3, [.null, .int 0]))))) rfl ?_
  refine r_dup dX8_init_78 rfl ?_
  refine r_callIN (st := [.ref q_165, .ref a]) [] 39 1421 dX8_init_79 kX3_init nX3_init rfl rfl lRX8_49 (c_X3_init hG_185) rfl rfl (Nat.le_of_ble_eq_true rfl) (by decide) (by decide) (fun _ _ h => h.elim) ?_
  intro r G8 hr
  obtain ⟨rfl, sq, rq, hsq, hrq0, hsr, hb1, hb2, rfl⟩ := hr
  have hfr_sq := hN_168.fresh hsq
  have hN_186 := hN_168.new (e0 := 12) (c := sgC rq 0) (L' := [12, 11, 10, 9, 8, 7, 6, 5, 4, 3, 2, 1]) hsq (US_not (by decide) (by decide)) US_cons
  have hA_187 : a ≠ sq := cx_nf hG_170 hsq
  have hG_188 := up_n (e := some (sgC rq 0)) hA_187 hG_170
  have hA_189 : q_2 ≠ sq := cx_nf hG_172 hsq
  have hG_190 := up_n (e := some (sgC rq 0)) hA_189 hG_172
  have hA_191 : qa_9 ≠ sq := cx_nf hG_174 hsq
  have hG_192 := up_n (e := some (sgC rq 0)) hA_191 hG_174
  have hA_193 : q_24 ≠ sq := cx_nf hG_176 hsq
  have hG_194 := up_n (e := some (sgC rq 0)) hA_193 hG_176
  have hA_195 : q_44 ≠ sq := cx_nf hG_178 hsq
  have hG_196 := up_n (e := some (sgC rq 0)) hA_195 hG_178
  have hA_197 : q_63 ≠ sq := cx_nf hG_180 hsq
  have hG_198 := up_n (e := some (sgC rq 0)) hA_197 hG_180
  have hA_199 : q_85 ≠ sq := cx_nf hG_182 hsq
  have hG_200 := up_n (e := some (sgC rq 0)) hA_199 hG_182
  have hA_201 : q_110 ≠ sq := cx_nf hG_184 hsq
  have hG_202 := up_n (e := some (sgC rq 0)) hA_201 hG_184
  have hA_203 : q_165 ≠ sq := cx_nf hG_185 hsq
  have hG_204 := up_n (e := some (sgC rq 0)) hA_203 hG_185
  have hG_205 : (va_up (va_up (va_up (va_up (va_up (va_up (va_up (va_up (va_up (va_up (va_up (va_up (va_up (va_up G9 a (some (.inr (8, [.ref q_2, .ref q_24, .null, .null, .null, .null, .null, .null, .int 0, .int 0, .int 0])))) q_44 (some (.inl (.object RX0, 10, .inr (.inr (.inr (.inr (fun _ => none)))))))) a (some (.inr (8, [.ref q_2, .ref q_24, .ref q_44, .null, .null, .null, .null, .null, .int 0, .int 0, .int 0])))) q_63 (some (.inl (.object RX2, 6, .inr (.inr (.inr (.inr (fun _ => none)))))))) a (some (.inr (8, [.ref q_2, .ref q_24, .ref q_44, .ref q_63, .null, .null, .null, .null, .int 0, .int 0, .int 0])))) q_85 (some (.inl (.object RX1, 8, .inr (.inr (.inr (.inr (fun _ => none)))))))) a (some (.inr (8, [.ref q_2, .ref q_24, .ref q_44, .ref q_63, .ref q_85, .null, .null, .null, .int 0, .int 0, .int 0])))) q_110 (some (.inl (.int, 3, .inl (fun _ => 0))))) q_110 (some (inA 3 (upd (fun _ => 0) 0 1)))) q_110 (some (inA 3 (upd (upd (fun _ => 0) 0 1) 1 1)))) q_110 (some (inA 3 (upd (upd (upd (fun _ => 0) 0 1) 1 1) 2 1)))) a (some (.inr (8, [.ref q_2, .ref q_24, .ref q_44, .ref q_63, .ref q_85, .ref q_110, .null, .null, .int 0, .int 0, .int 0])))) q_165 (some (.inr (3, [.null, .int 0])))) sq (some (sgC rq 0))) sq = some (sgC rq 0) := up_s
  have hrq := up_n (e := some (sgC rq 0)) (Ne.symm hsr) hrq0
  have hfr_rq := hN_186.fresh hrq
  have hN_206 := hN_186.new (e0 := 13) (c := chA 1014 (fun _ => 0)) (L' := [13, 12, 11, 10, 9, 8, 7, 6, 5, 4, 3, 2, 1]) hrq (US_not (by decide) (by decide)) US_cons
  have hA_207 : a ≠ rq := cx_nf hG_188 hrq
  have hG_208 := up_n (e := some (chA 1014 (fun _ => 0))) hA_207 hG_188
  have hA_209 : q_2 ≠ rq := cx_nf hG_190 hrq
  have hG_210 := up_n (e := some (chA 1014 (fun _ => 0))) hA_209 hG_190
  have hA_211 : qa_9 ≠ rq := cx_nf hG_192 hrq
  have hG_212 := up_n (e := some (chA 1014 (fun _ => 0))) hA_211 hG_192
  have hA_213 : q_24 ≠ rq := cx_nf hG_194 hrq
  have hG_214 := up_n (e := some (chA 1014 (fun _ => 0))) hA_213 hG_194
  have hA_215 : q_44 ≠ rq := cx_nf hG_196 hrq
  have hG_216 := up_n (e := some (chA 1014 (fun _ => 0))) hA_215 hG_196
  have hA_217 : q_63 ≠ rq := cx_nf hG_198 hrq
  have hG_218 := up_n (e := some (chA 1014 (fun _ => 0))) hA_217 hG_198
  have hA_219 : q_85 ≠ rq := cx_nf hG_200 hrq
  have hG_220 := up_n (e := some (chA 1014 (fun _ => 0))) hA_219 hG_200
  have hA_221 : q_110 ≠ rq := cx_nf hG_202 hrq
  have hG_222 := up_n (e := some (chA 1014 (fun _ => 0))) hA_221 hG_202
  have hA_223 : q_165 ≠ rq := cx_nf hG_204 hrq
  have hG_224 := up_n (e := some (chA 1014 (fun _ => 0))) hA_223 hG_204
  have hA_225 : sq ≠ rq := cx_nf hG_205 hrq
  have hG_226 := up_n (e := some (chA 1014 (fun _ => 0))) hA_225 hG_205
  have hG_227 : (va_up (va_up (va_up (va_up (va_up (va_up (va_up (va_up (va_up (va_up (va_up (va_up (va_up (va_up (va_up G9 a (some (.inr (8, [.ref q_2, .ref q_24, .null, .null, .null, .null, .null, .null, .int 0, .int 0, .int 0])))) q_44 (some (.inl (.object RX0, 10, .inr (.inr (.inr (.inr (fun _ => none)))))))) a (some (.inr (8, [.ref q_2, .ref q_24, .ref q_44, .null, .null, .null, .null, .null, .int 0, .int 0, .int 0])))) q_63 (some (.inl (.object RX2, 6, .inr (.inr (.inr (.inr (fun _ => none)))))))) a (some (.inr (8, [.ref q_2, .ref q_24, .ref q_44, .ref q_63, .null, .null, .null, .null, .int 0, .int 0, .int 0])))) q_85 (some (.inl (.object RX1, 8, .inr (.inr (.inr (.inr (fun _ => none)))))))) a (some (.inr (8, [.ref q_2, .ref q_24, .ref q_44, .ref q_63, .ref q_85, .null, .null, .null, .int 0, .int 0, .int 0])))) q_110 (some (.inl (.int, 3, .inl (fun _ => 0))))) q_110 (some (inA 3 (upd (fun _ => 0) 0 1)))) q_110 (some (inA 3 (upd (upd (fun _ => 0) 0 1) 1 1)))) q_110 (some (inA 3 (upd (upd (upd (fun _ => 0) 0 1) 1 1) 2 1)))) a (some (.inr (8, [.ref q_2, .ref q_24, .ref q_44, .ref q_63, .ref q_85, .ref q_110, .null, .null, .int 0, .int 0, .int 0])))) q_165 (some (.inr (3, [.null, .int 0])))) sq (some (sgC rq 0))) rq (some (chA 1014 (fun _ => 0)))) rq = some (chA 1014 (fun _ => 0)) := up_s
  have hN_228 := hN_206.put (a := q_165) (c := pgC sq 1) (Or.inr hfr_q_165)
  have hG_229 := up_n (e := some (pgC sq 1)) hA_169 hG_208
  have hG_230 := up_n (e := some (pgC sq 1)) hA_171 hG_210
  have hG_231 := up_n (e := some (pgC sq 1)) hA_173 hG_212
  have hG_232 := up_n (e := some (pgC sq 1)) hA_175 hG_214
  have hG_233 := up_n (e := some (pgC sq 1)) hA_177 hG_216
  have hG_234 := up_n (e := some (pgC sq 1)) hA_179 hG_218
  have hG_235 := up_n (e := some (pgC sq 1)) hA_181 hG_220
  have hG_236 := up_n (e := some (pgC sq 1)) hA_183 hG_222
  have hG_237 := up_n (e := some (pgC sq 1)) (Ne.symm hA_203) hG_226
  have hG_238 := up_n (e := some (pgC sq 1)) (Ne.symm hA_223) hG_227
  have hG_239 : (va_up (va_up (va_up (va_up (va_up (va_up (va_up (va_up (va_up (va_up (va_up (va_up (va_up (va_up (va_up (va_up G9 a (some (.inr (8, [.ref q_2, .ref q_24, .null, .null, .null, .null, .null, .null, .int 0, .int 0, .int 0])))) q_44 (some (.inl (.object RX0, 10, .inr (.inr (.inr (.inr (fun _ => none)))))))) a (some (.inr (8, [.ref q_2, .ref q_24, .ref q_44, .null, .null, .null, .null, .null, .int 0, .int 0, .int 0])))) q_63 (some (.inl (.object RX2, 6, .inr (.inr (.inr (.inr (fun _ => none)))))))) a (some (.inr (8, [.ref q_2, .ref q_24, .ref q_44, .ref q_63, .null, .null, .null, .null, .int 0, .int 0, .int 0])))) q_85 (some (.inl (.object RX1, 8, .inr (.inr (.inr (.inr (fun _ => none)))))))) a (some (.inr (8, [.ref q_2, .ref q_24, .ref q_44, .ref q_63, .ref q_85, .null, .null, .null, .int 0, .int 0, .int 0])))) q_110 (some (.inl (.int, 3, .inl (fun _ => 0))))) q_110 (some (inA 3 (upd (fun _ => 0) 0 1)))) q_110 (some (inA 3 (upd (upd (fun _ => 0) 0 1) 1 1)))) q_110 (some (inA 3 (upd (upd (upd (fun _ => 0) 0 1) 1 1) 2 1)))) a (some (.inr (8, [.ref q_2, .ref q_24, .ref q_44, .ref q_63, .ref q_85, .ref q_110, .null, .null, .int 0, .int 0, .int 0])))) q_165 (some (.inr (3, [.null, .int 0])))) sq (some (sgC rq 0))) rq (some (chA 1014 (fun _ => 0)))) q_165 (some (pgC sq 1))) q_165 = some (pgC sq 1) := up_s
  refine r_putF 6 (.object "Glosstemplate$Page") dX8_init_82 gRX8_50 rfl hG_229 (Nat.le_of_ble_eq_true rfl) rfl rfl ?_
  have hN_240 := hN_228.put (a := a) (c := .inr (8, [.ref q_2, .ref q_24, .ref q_44, .ref q_63, .ref q_85, .ref q_110, .ref q_165, .null, .int 0, .int 0, .int 0])) (Or.inl rfl)
  have hG_241 := up_n (e := some (.inr (8, [.ref q_2, .ref q_24, .ref q_44, .ref q_63, .ref q_85, .ref q_110, .ref q_165, .null, .int 0, .int 0, .int 0]))) (Ne.symm hA_6) hG_230
  have hG_242 := up_n (e := some (.inr (8, [.ref q_2, .ref q_24, .ref q_44, .ref q_63, .ref q_85, .ref q_110, .ref q_165, .null, .int 0, .int 0, .int 0]))) (Ne.symm hA_11) hG_231
  have hG_243 := up_n (e := some (.inr (8, [.ref q_2, .ref q_24, .ref q_44, .ref q_63, .ref q_85, .ref q_110, .ref q_165, .null, .int 0, .int 0, .int 0]))) (Ne.symm hA_28) hG_232
  have hG_244 := up_n (e := some (.inr (8, [.ref q_2, .ref q_24, .ref q_44, .ref q_63, .ref q_85, .ref q_110, .ref q_165, .null, .int 0, .int 0, .int 0]))) (Ne.symm hA_48) hG_233
  have hG_245 := up_n (e := some (.inr (8, [.ref q_2, .ref q_24, .ref q_44, .ref q_63, .ref q_85, .ref q_110, .ref q_165, .null, .int 0, .int 0, .int 0]))) (Ne.symm hA_67) hG_234
  have hG_246 := up_n (e := some (.inr (8, [.ref q_2, .ref q_24, .ref q_44, .ref q_63, .ref q_85, .ref q_110, .ref q_165, .null, .int 0, .int 0, .int 0]))) (Ne.symm hA_89) hG_235
  have hG_247 := up_n (e := some (.inr (8, [.ref q_2, .ref q_24, .ref q_44, .ref q_63, .ref q_85, .ref q_110, .ref q_165, .null, .int 0, .int 0, .int 0]))) (Ne.symm hA_114) hG_236
  have hG_248 := up_n (e := some (.inr (8, [.ref q_2, .ref q_24, .ref q_44, .ref q_63, .ref q_85, .ref q_110, .ref q_165, .null, .int 0, .int 0, .int 0]))) (Ne.symm hA_169) hG_239
  have hG_249 := up_n (e := some (.inr (8, [.ref q_2, .ref q_24, .ref q_44, .ref q_63, .ref q_85, .ref q_110, .ref q_165, .null, .int 0, .int 0, .int 0]))) (Ne.symm hA_187) hG_237
  have hG_250 := up_n (e := some (.inr (8, [.ref q_2, .ref q_24, .ref q_44, .ref q_63, .ref q_85, .ref q_110, .ref q_165, .null, .int 0, .int 0, .int 0]))) (Ne.symm hA_207) hG_238
  have hG_251 : (va_up (va_up (va_up (va_up (va_up (va_up (va_up (va_up (va_up (va_up (va_up (va_up (va_up (va_up (va_up (va_up (va_up G9 a (some (.inr (8, [.ref q_2, .ref q_24, .null, .null, .null, .null, .null, .null, .int 0, .int 0, .int 0])))) q_44 (some (.inl (.object RX0, 10, .inr (.inr (.inr (.inr (fun _ => none)))))))) a (some (.inr (8, [.ref q_2, .ref q_24, .ref q_44, .null, .null, .null, .null, .null, .int 0, .int 0, .int 0])))) q_63 (some (.inl (.object RX2, 6, .inr (.inr (.inr (.inr (fun _ => none)))))))) a (some (.inr (8, [.ref q_2, .ref q_24, .ref q_44, .ref q_63, .null, .null, .null, .null, .int 0, .int 0, .int 0])))) q_85 (some (.inl (.object RX1, 8, .inr (.inr (.inr (.inr (fun _ => none)))))))) a (some (.inr (8, [.ref q_2, .ref q_24, .ref q_44, .ref q_63, .ref q_85, .null, .null, .null, .int 0, .int 0, .int 0])))) q_110 (some (.inl (.int, 3, .inl (fun _ => 0))))) q_110 (some (inA 3 (upd (fun _ => 0) 0 1)))) q_110 (some (inA 3 (upd (upd (fun _ => 0) 0 1) 1 1)))) q_110 (some (inA 3 (upd (upd (upd (fun _ => 0) 0 1) 1 1) 2 1)))) a (some (.inr (8, [.ref q_2, .ref q_24, .ref q_44, .ref q_63, .ref q_85, .ref q_110, .null, .null, .int 0, .int 0, .int 0])))) q_165 (some (.inr (3, [.null, .int 0])))) sq (some (sgC rq 0))) rq (some (chA 1014 (fun _ => 0)))) q_165 (some (pgC sq 1))) a (some (.inr (8, [.ref q_2, .ref q_24, .ref q_44, .ref q_63, .ref q_85, .ref q_110, .ref q_165, .null, .int 0, .int 0, .int 0])))) a = some (.inr (8, [.ref q_2, .ref q_24, .ref q_44, .ref q_63, .ref q_85, .ref q_110, .ref q_165, .null, .int 0, .int 0, .int 0])) := up_s
  refine r_heap (G' := (va_up (va_up (va_up (va_up (va_up (va_up (va_up (va_up (va_up (va_up (va_up (va_up (va_up (va_up (va_up (va_up (va_up G9 a (some (.inr (8, [.ref q_2, .ref q_24, .null, .null, .null, .null, .null, .null, .int 0, .int 0, .int 0])))) q_44 (some (.inl (.object RX0, 10, .inr (.inr (.inr (.inr (fun _ => none)))))))) a (some (.inr (8, [.ref q_2, .ref q_24, .ref q_44, .null, .null, .null, .null, .null, .int 0, .int 0, .int 0])))) q_63 (some (.inl (.object RX2, 6, .inr (.inr (.inr (.inr (fun _ => none)))))))) a (some (.inr (8, [.ref q_2, .ref q_24, .ref q_44, .ref q_63, .null, .null, .null, .null, .int 0, .int 0, .int 0])))) q_85 (some (.inl (.object RX1, 8, .inr (.inr (.inr (.inr (fun _ => none)))))))) a (some (.inr (8, [.ref q_2, .ref q_24, .ref q_44, .ref q_63, .ref q_85, .null, .null, .null, .int 0, .int 0, .int 0])))) q_110 (some (.inl (.int, 3, .inl (fun _ => 0))))) q_110 (some (inA 3 (upd (fun _ => 0) 0 1)))) q_110 (some (inA 3 (upd (upd (fun _ => 0) 0 1) 1 1)))) q_110 (some (inA 3 (upd (upd (upd (fun _ => 0) 0 1) 1 1) 2 1)))) a (some (.inr (8, [.ref q_2, .ref q_24, .ref q_44, .ref q_63, .ref q_85, .ref q_110, .null, .null, .int 0, .int 0, .int 0])))) q_165 (some (.inr (3, [.null, .int 0])))) sq (some (sgC rq 0))) rq (some (chA 1014 (fun _ => 0)))) q_165 (some (pgC sq 1))) a (some (.inr (8, [.ref q_2, .ref q_24, .ref q_44, .ref q_63, .ref q_85, .ref q_110, .ref q_165, .null, .int 0, .int 0, .int 0]))))) rfl ?_
  refine r_aload_n dX8_init_85 rfl 0 rfl ?_
  refine r_new [.int 0, .int 0, .int 0] 38 1418 dX8_init_86 wRX8_54 (by decide) (by decide) (fun q_252 hq_253 hb_254 => ?_)
  have hfr_q_252 := hN_240.fresh hq_253
  have hN_255 := hN_240.new (e0 := 14) (c := .inr (4, [.int 0, .int 0, .int 0])) (L' := [14, 13, 12, 11, 10, 9, 8, 7, 6, 5, 4, 3, 2, 1]) hq_253 (US_not (by decide) (by decide)) US_cons
  have hA_256 : a ≠ q_252 := cx_nf hG_251 hq_253
  have hG_257 := up_n (e := some (.inr (4, [.int 0, .int 0, .int 0]))) hA_256 hG_251
  have hA_258 : q_2 ≠ q_252 := cx_nf hG_241 hq_253
  have hG_259 := up_n (e := some (.inr (4, [.int 0, .int 0, .int 0]))) hA_258 hG_241
  have hA_260 : qa_9 ≠ q_252 := cx_nf hG_242 hq_253
  have hG_261 := up_n (e := some (.inr (4, [.int 0, .int 0, .int 0]))) hA_260 hG_242
  have hA_262 : q_24 ≠ q_252 := cx_nf hG_243 hq_253
  have hG_263 := up_n (e := some (.inr (4, [.int 0, .int 0, .int 0]))) hA_262 hG_243
  have hA_264 : q_44 ≠ q_252 := cx_nf hG_244 hq_253
  have hG_265 := up_n (e := some (.inr (4, [.int 0, .int 0, .int 0]))) hA_264 hG_244
  have hA_266 : q_63 ≠ q_252 := cx_nf hG_245 hq_253
  have hG_267 := up_n (e := some (.inr (4, [.int 0, .int 0, .int 0]))) hA_266 hG_245
  have hA_268 : q_85 ≠ q_252 := cx_nf hG_246 hq_253
  have hG_269 := up_n (e := some (.inr (4, [.int 0, .int 0, .int 0]))) hA_268 hG_246
  have hA_270 : q_110 ≠ q_252 := cx_nf hG_247 hq_253
  have hG_271 := up_n (e := some (.inr (4, [.int 0, .int 0, .int 0]))) hA_270 hG_247
  have hA_272 : q_165 ≠ q_252 := cx_nf hG_248 hq_253
  have hG_273 := up_n (e := some (.inr (4, [.int 0, .int 0, .int 0]))) hA_272 hG_248
  have hA_274 : sq ≠ q_252 := cx_nf hG_249 hq_253
  have hG_275 := up_n (e := some (.inr (4, [.int 0, .int 0, .int 0]))) hA_274 hG_249
  have hA_276 : rq ≠ q_252 := cx_nf hG_250 hq_253
  have hG_277 := up_n (e := some (.inr (4, [.int 0, .int 0, .int 0]))) hA_276 hG_250
  have hG_278 : (va_up (va_up (va_up (va_up (va_up (va_up (va_up (va_up (va_up (va_up (va_up (va_up (va_up (va_up (va_up (va_up (va_up (va_up G9 a (some (.inr (8, [.ref q_2, .ref q_24, .null, .null, .null, .null, .null, .null, .int 0, .int 0, .int 0])))) q_44 (some (.inl (.object RX0, 10, .inr (.inr (.inr (.inr (fun _ => none)))))))) a (some (.inr (8, [.ref q_2, .ref q_24, .ref q_44, .null, .null, .null, .null, .null, .int 0, .int 0, .int 0])))) q_63 (some (.inl (.object RX2, 6, .inr (.inr (.inr (.inr (fun _ => none)))))))) a (some (.inr (8, [.ref q_2, .ref q_24, .ref q_44, .ref q_63, .null, .null, .null, .null, .int 0, .int 0, .int 0])))) q_85 (some (.inl (.object RX1, 8, .inr (.inr (.inr (.inr (fun _ => none)))))))) a (some (.inr (8, [.ref q_2, .ref q_24, .ref q_44, .ref q_63, .ref q_85, .null, .null, .null, .int 0, .int 0, .int 0])))) q_110 (some (.inl (.int, 3, .inl (fun _ => 0))))) q_110 (some (inA 3 (upd (fun _ => 0) 0 1)))) q_110 (some (inA 3 (upd (upd (fun _ => 0) 0 1) 1 1)))) q_110 (some (inA 3 (upd (upd (upd (fun _ => 0) 0 1) 1 1) 2 1)))) a (some (.inr (8, [.ref q_2, .ref q_24, .ref q_44, .ref q_63, .ref q_85, .ref q_110, .null, .null, .int 0, .int 0, .int 0])))) q_165 (some (.inr (3, [.null, .int 0])))) sq (some (sgC rq 0))) rq (some (chA 1014 (fun _ => 0)))) q_165 (some (pgC sq 1))) a (some (.inr (8, [.ref q_2, .ref q_24, .ref q_44, .ref q_63, .ref q_85, .ref q_110, .ref q_165, .null, .int 0, .int 0, .int 0])))) q_252 (some (.inr (4, [.int 0, .int 0, .int 0])))) q_252 = some (.inr (4, [.int 0, .int 0, .int 0])) := up_s
  refine r_heap (G' := (va_up (va_up (va_up (va_up (va_up (va_up (va_up (va_up (va_up (va_up (va_up (va_up (va_up (va_up (va_up (va_up (va_up (va_up G9 a (some (.inr (8, [.ref q_2, .ref q_24, .null, .null, .null, .null, .null, .null, .int 0, .int 0, .int 0])))) q_44 (some (.inl (.object RX0, 10, .inr (.inr (.inr (.inr (fun _ => none)))))))) a (some (.inr (8, [.ref q_2, .ref q_24, .ref q_44, .null, .null, .null, .null, .null, .int 0, .int 0, .int 0])))) q_63 (some (.inl (.object RX2, 6, .inr (.inr (.inr (.inr (fun _ => none)))))))) a (some (.inr (8, [.ref q_2, .ref q_24, .ref q_44, .ref q_63, .null, .null, .null, .null, .int 0, .int 0, .int 0])))) q_85 (some (.inl (.object RX1, 8, .inr (.inr (.inr (.inr (fun _ => none)))))))) a (some (.inr (8, [.ref q_2, .ref q_24, .ref q_44, .ref q_63, .ref q_85, .null, .null, .null, .int 0, .int 0, .int 0])))) q_110 (some (.inl (.int, 3, .inl (fun _ => 0))))) q_110 (some (inA 3 (upd (fun _ => 0) 0 1)))) q_110 (some (inA 3 (upd (upd (fun _ => 0) 0 1) 1 1)))) q_110 (some (inA 3 (upd (upd (upd (fun _ => 0) 0 1) 1 1) 2 1)))) a (some (.inr (8, [.ref q_2, .ref q_24, .ref q_44, .ref q_63, .ref q_85, .ref q_110, .null, .null, .int 0, .int 0, .int 0])))) q_165 (some (.inr (3, [.null, .int 0])))) sq (some (sgC rq 0))) rq (some (chA 1014 (fun _ => 0)))) q_165 (some (pgC sq 1))) a (some (.inr (8, [.ref q_2, .ref q_24, .ref q_44, .ref q_63, .ref q_85, .ref q_110, .ref q_165, .null, .int 0, .int 0, .int 0])))) q_252 (some (.inr (4, [.int 0, .int 0, .int 0]))))) rfl ?_
  refine r_dup dX8_init_89 rfl ?_
  refine r_callIN (st := [.ref q_252, .ref a]) [] 38 1418 dX8_init_90 kX4_init nX4_init rfl rfl lRX8_56 (c_X4_init hG_278) rfl rfl (Nat.le_of_ble_eq_true rfl) (Nat.le_refl _) (Nat.le_refl _) (fun _ _ h => h.elim) ?_
  refine cx_det (st2 := [.ref q_252, .ref a]) rfl ?_
  refine r_putF 7 (.object "Glosstemplate$Seeker") dX8_init_93 gRX8_57 rfl hG_257 (Nat.le_of_ble_eq_true rfl) rfl rfl ?_
  have hN_279 := hN_255.put (a := a) (c := .inr (8, [.ref q_2, .ref q_24, .ref q_44, .ref q_63, .ref q_85, .ref q_110, .ref q_165, .ref q_252, .int 0, .int 0, .int 0])) (Or.inl rfl)
  have hG_280 := up_n (e := some (.inr (8, [.ref q_2, .ref q_24, .ref q_44, .ref q_63, .ref q_85, .ref q_110, .ref q_165, .ref q_252, .int 0, .int 0, .int 0]))) (Ne.symm hA_6) hG_259
  have hG_281 := up_n (e := some (.inr (8, [.ref q_2, .ref q_24, .ref q_44, .ref q_63, .ref q_85, .ref q_110, .ref q_165, .ref q_252, .int 0, .int 0, .int 0]))) (Ne.symm hA_11) hG_261
  have hG_282 := up_n (e := some (.inr (8, [.ref q_2, .ref q_24, .ref q_44, .ref q_63, .ref q_85, .ref q_110, .ref q_165, .ref q_252, .int 0, .int 0, .int 0]))) (Ne.symm hA_28) hG_263
  have hG_283 := up_n (e := some (.inr (8, [.ref q_2, .ref q_24, .ref q_44, .ref q_63, .ref q_85, .ref q_110, .ref q_165, .ref q_252, .int 0, .int 0, .int 0]))) (Ne.symm hA_48) hG_265
  have hG_284 := up_n (e := some (.inr (8, [.ref q_2, .ref q_24, .ref q_44, .ref q_63, .ref q_85, .ref q_110, .ref q_165, .ref q_252, .int 0, .int 0, .int 0]))) (Ne.symm hA_67) hG_267
  have hG_285 := up_n (e := some (.inr (8, [.ref q_2, .ref q_24, .ref q_44, .ref q_63, .ref q_85, .ref q_110, .ref q_165, .ref q_252, .int 0, .int 0, .int 0]))) (Ne.symm hA_89) hG_269
  have hG_286 := up_n (e := some (.inr (8, [.ref q_2, .ref q_24, .ref q_44, .ref q_63, .ref q_85, .ref q_110, .ref q_165, .ref q_252, .int 0, .int 0, .int 0]))) (Ne.symm hA_114) hG_271
  have hG_287 := up_n (e := some (.inr (8, [.ref q_2, .ref q_24, .ref q_44, .ref q_63, .ref q_85, .ref q_110, .ref q_165, .ref q_252, .int 0, .int 0, .int 0]))) (Ne.symm hA_169) hG_273
  have hG_288 := up_n (e := some (.inr (8, [.ref q_2, .ref q_24, .ref q_44, .ref q_63, .ref q_85, .ref q_110, .ref q_165, .ref q_252, .int 0, .int 0, .int 0]))) (Ne.symm hA_187) hG_275
  have hG_289 := up_n (e := some (.inr (8, [.ref q_2, .ref q_24, .ref q_44, .ref q_63, .ref q_85, .ref q_110, .ref q_165, .ref q_252, .int 0, .int 0, .int 0]))) (Ne.symm hA_207) hG_277
  have hG_290 := up_n (e := some (.inr (8, [.ref q_2, .ref q_24, .ref q_44, .ref q_63, .ref q_85, .ref q_110, .ref q_165, .ref q_252, .int 0, .int 0, .int 0]))) (Ne.symm hA_256) hG_278
  have hG_291 : (va_up (va_up (va_up (va_up (va_up (va_up (va_up (va_up (va_up (va_up (va_up (va_up (va_up (va_up (va_up (va_up (va_up (va_up (va_up G9 a (some (.inr (8, [.ref q_2, .ref q_24, .null, .null, .null, .null, .null, .null, .int 0, .int 0, .int 0])))) q_44 (some (.inl (.object RX0, 10, .inr (.inr (.inr (.inr (fun _ => none)))))))) a (some (.inr (8, [.ref q_2, .ref q_24, .ref q_44, .null, .null, .null, .null, .null, .int 0, .int 0, .int 0])))) q_63 (some (.inl (.object RX2, 6, .inr (.inr (.inr (.inr (fun _ => none)))))))) a (some (.inr (8, [.ref q_2, .ref q_24, .ref q_44, .ref q_63, .null, .null, .null, .null, .int 0, .int 0, .int 0])))) q_85 (some (.inl (.object RX1, 8, .inr (.inr (.inr (.inr (fun _ => none)))))))) a (some (.inr (8, [.ref q_2, .ref q_24, .ref q_44, .ref q_63, .ref q_85, .null, .null, .null, .int 0, .int 0, .int 0])))) q_110 (some (.inl (.int, 3, .inl (fun _ => 0))))) q_110 (some (inA 3 (upd (fun _ => 0) 0 1)))) q_110 (some (inA 3 (upd (upd (fun _ => 0) 0 1) 1 1)))) q_110 (some (inA 3 (upd (upd (upd (fun _ => 0) 0 1) 1 1) 2 1)))) a (some (.inr (8, [.ref q_2, .ref q_24, .ref q_44, .ref q_63, .ref q_85, .ref q_110, .null, .null, .int 0, .int 0, .int 0])))) q_165 (some (.inr (3, [.null, .int 0])))) sq (some (sgC rq 0))) rq (some (chA 1014 (fun _ => 0)))) q_165 (some (pgC sq 1))) a (some (.inr (8, [.ref q_2, .ref q_24, .ref q_44, .ref q_63, .ref q_85, .ref q_110, .ref q_165, .null, .int 0, .int 0, .int 0])))) q_252 (some (.inr (4, [.int 0, .int 0, .int 0])))) a (some (.inr (8, [.ref q_2, .ref q_24, .ref q_44, .ref q_63, .ref q_85, .ref q_110, .ref q_165, .ref q_252, .int 0, .int 0, .int 0])))) a = some (.inr (8, [.ref q_2, .ref q_24, .ref q_44, .ref q_63, .ref q_85, .ref q_110, .ref q_165, .ref q_252, .int 0, .int 0, .int 0])) := up_s
  refine r_heap (G' := (va_up (va_up (va_up (va_up (va_up (va_up (va_up (va_up (va_up (va_up (va_up (va_up (va_up (va_up (va_up (va_up (va_up (va_up (va_up G9 a (some (.inr (8, [.ref q_2, .ref q_24, .null, .null, .null, .null, .null, .null, .int 0, .int 0, .int 0])))) q_44 (some (.inl (.object RX0, 10, .inr (.inr (.inr (.inr (fun _ => none)))))))) a (some (.inr (8, [.ref q_2, .ref q_24, .ref q_44, .null, .null, .null, .null, .null, .int 0, .int 0, .int 0])))) q_63 (some (.inl (.object RX2, 6, .inr (.inr (.inr (.inr (fun _ => none)))))))) a (some (.inr (8, [.ref q_2, .ref q_24, .ref q_44, .ref q_63, .null, .null, .null, .null, .int 0, .int 0, .int 0])))) q_85 (some (.inl (.object RX1, 8, .inr (.inr (.inr (.inr (fun _ => none)))))))) a (some (.inr (8, [.ref q_2, .ref q_24, .ref q_44, .ref q_63, .ref q_85, .null, .null, .null, .int 0, .int 0, .int 0])))) q_110 (some (.inl (.int, 3, .inl (fun _ => 0))))) q_110 (some (inA 3 (upd (fun _ => 0) 0 1)))) q_110 (some (inA 3 (upd (upd (fun _ => 0) 0 1) 1 1)))) q_110 (some (inA 3 (upd (upd (upd (fun _ => 0) 0 1) 1 1) 2 1)))) a (some (.inr (8, [.ref q_2, .ref q_24, .ref q_44, .ref q_63, .ref q_85, .ref q_110, .null, .null, .int 0, .int 0, .int 0])))) q_165 (some (.inr (3, [.null, .int 0])))) sq (some (sgC rq 0))) rq (some (chA 1014 (fun _ => 0)))) q_165 (some (pgC sq 1))) a (some (.inr (8, [.ref q_2, .ref q_24, .ref q_44, .ref q_63, .ref q_85, .ref q_110, .ref q_165, .null, .int 0, .int 0, .int 0])))) q_252 (some (.inr (4, [.int 0, .int 0, .int 0])))) a (some (.inr (8, [.ref q_2, .ref q_24, .ref q_44, .ref q_63, .ref q_85, .ref q_110, .ref q_165, .ref q_252, .int 0, .int 0, .int 0]))))) rfl ?_
  refine r_vret dX8_init_96 rfl ?_
  have hold9 : ∀ x c, G9 x = some c → x ≠ a → (va_up (va_up (va_up (va_up (va_up (va_up (va_up (va_up (va_up (va_up (va_up (va_up (va_up (va_up (va_up (va_up (va_up (va_up (va_up G9 a (some (.inr (8, [.ref q_2, .ref q_24, .null, .null, .null, .null, .null, .null, .int 0, .int 0, .int 0])))) q_44 (some (.inl (.object RX0, 10, .inr (.inr (.inr (.inr (fun _ => none)))))))) a (some (.inr (8, [.ref q_2, .ref q_24, .ref q_44, .null, .null, .null, .null, .null, .int 0, .int 0, .int 0])))) q_63 (some (.inl (.object RX2, 6, .inr (.inr (.inr (.inr (fun _ => none)))))))) a (some (.inr (8, [.ref q_2, .ref q_24, .ref q_44, .ref q_63, .null, .null, .null, .null, .int 0, .int 0, .int 0])))) q_85 (some (.inl (.object RX1, 8, .inr (.inr (.inr (.inr (fun _ => none)))))))) a (some (.inr (8, [.ref q_2, .ref q_24, .ref q_44, .ref q_63, .ref q_85, .null, .null, .null, .int 0, .int 0, .int 0])))) q_110 (some (.inl (.int, 3, .inl (fun _ => 0))))) q_110 (some (inA 3 (upd (fun _ => 0) 0 1)))) q_110 (some (inA 3 (upd (upd (fun _ => 0) 0 1) 1 1)))) q_110 (some (inA 3 (upd (upd (upd (fun _ => 0) 0 1) 1 1) 2 1)))) a (some (.inr (8, [.ref q_2, .ref q_24, .ref q_44, .ref q_63, .ref q_85, .ref q_110, .null, .null, .int 0, .int 0, .int 0])))) q_165 (some (.inr (3, [.null, .int 0])))) sq (some (sgC rq 0))) rq (some (chA 1014 (fun _ => 0)))) q_165 (some (pgC sq 1))) a (some (.inr (8, [.ref q_2, .ref q_24, .ref q_44, .ref q_63, .ref q_85, .ref q_110, .ref q_165, .null, .int 0, .int 0, .int 0])))) q_252 (some (.inr (4, [.int 0, .int 0, .int 0])))) a (some (.inr (8, [.ref q_2, .ref q_24, .ref q_44, .ref q_63, .ref q_85, .ref q_110, .ref q_165, .ref q_252, .int 0, .int 0, .int 0])))) x = some c := by
    intro x c y0 n0
    have y1 := up_n (e := some (.inr (8, [.ref q_2, .ref q_24, .null, .null, .null, .null, .null, .null, .int 0, .int 0, .int 0]))) n0 y0
    have m_q_44 : x ≠ q_44 := cx_nf y1 hq_45
    have y2 := up_n (e := some (.inl (.object RX0, 10, .inr (.inr (.inr (.inr (fun _ => none))))))) m_q_44 y1
    have y3 := up_n (e := some (.inr (8, [.ref q_2, .ref q_24, .ref q_44, .null, .null, .null, .null, .null, .int 0, .int 0, .int 0]))) n0 y2
    have m_q_63 : x ≠ q_63 := cx_nf y3 hq_64
    have y4 := up_n (e := some (.inl (.object RX2, 6, .inr (.inr (.inr (.inr (fun _ => none))))))) m_q_63 y3
    have y5 := up_n (e := some (.inr (8, [.ref q_2, .ref q_24, .ref q_44, .ref q_63, .null, .null, .null, .null, .int 0, .int 0, .int 0]))) n0 y4
    have m_q_85 : x ≠ q_85 := cx_nf y5 hq_86
    have y6 := up_n (e := some (.inl (.object RX1, 8, .inr (.inr (.inr (.inr (fun _ => none))))))) m_q_85 y5
    have y7 := up_n (e := some (.inr (8, [.ref q_2, .ref q_24, .ref q_44, .ref q_63, .ref q_85, .null, .null, .null, .int 0, .int 0, .int 0]))) n0 y6
    have m_q_110 : x ≠ q_110 := cx_nf y7 hq_111
    have y8 := up_n (e := some (.inl (.int, 3, .inl (fun _ => 0)))) m_q_110 y7
    have y9 := up_n (e := some (inA 3 (upd (fun _ => 0) 0 1))) m_q_110 y8
    have y10 := up_n (e := some (inA 3 (upd (upd (fun _ => 0) 0 1) 1 1))) m_q_110 y9
    have y11 := up_n (e := some (inA 3 (upd (upd (upd (fun _ => 0) 0 1) 1 1) 2 1))) m_q_110 y10
    have y12 := up_n (e := some (.inr (8, [.ref q_2, .ref q_24, .ref q_44, .ref q_63, .ref q_85, .ref q_110, .null, .null, .int 0, .int 0, .int 0]))) n0 y11
    have m_q_165 : x ≠ q_165 := cx_nf y12 hq_166
    have y13 := up_n (e := some (.inr (3, [.null, .int 0]))) m_q_165 y12
    have m_sq : x ≠ sq := cx_nf y13 hsq
    have y14 := up_n (e := some (sgC rq 0)) m_sq y13
    have m_rq : x ≠ rq := cx_nf y14 hrq
    have y15 := up_n (e := some (chA 1014 (fun _ => 0))) m_rq y14
    have y16 := up_n (e := some (pgC sq 1)) m_q_165 y15
    have y17 := up_n (e := some (.inr (8, [.ref q_2, .ref q_24, .ref q_44, .ref q_63, .ref q_85, .ref q_110, .ref q_165, .null, .int 0, .int 0, .int 0]))) n0 y16
    have m_q_252 : x ≠ q_252 := cx_nf y17 hq_253
    have y18 := up_n (e := some (.inr (4, [.int 0, .int 0, .int 0]))) m_q_252 y17
    have y19 := up_n (e := some (.inr (8, [.ref q_2, .ref q_24, .ref q_44, .ref q_63, .ref q_85, .ref q_110, .ref q_165, .ref q_252, .int 0, .int 0, .int 0]))) n0 y18
    exact y19
  refine ⟨rfl, _, hN_279, fun k i hk => ?_⟩
  have hW9 := hNW.2
  have hj : ∀ x, jF [6, 5, 4] FW (upF (upF (upF (fun _ => 0) 1 q_2) 2 qa_9) 3 q_24) (100 + x) = FW (100 + x) := fun x => by unfold jF; rw [if_pos (Or.inr (by omega))]
  have hFe : ∀ i, (upF (upF (upF (upF (upF (upF (upF (upF (jF [6, 5, 4] FW (upF (upF (upF (fun _ => 0) 1 q_2) 2 qa_9) 3 q_24)) 7 q_44) 8 q_63) 9 q_85) 10 q_110) 11 q_165) 12 sq) 13 rq) 14 q_252) (100 + 2 * i) = FW (100 + 2 * i) := fun i => by simp only [upF]; rw [if_neg (by omega), if_neg (by omega), if_neg (by omega), if_neg (by omega), if_neg (by omega), if_neg (by omega), if_neg (by omega), if_neg (by omega)]; exact hj _
  have hFo : ∀ i, (upF (upF (upF (upF (upF (upF (upF (upF (jF [6, 5, 4] FW (upF (upF (upF (fun _ => 0) 1 q_2) 2 qa_9) 3 q_24)) 7 q_44) 8 q_63) 9 q_85) 10 q_110) 11 q_165) 12 sq) 13 rq) 14 q_252) (101 + 2 * i) = FW (101 + 2 * i) := fun i => by simp only [upF]; rw [if_neg (by omega), if_neg (by omega), if_neg (by omega), if_neg (by omega), if_neg (by omega), if_neg (by omega), if_neg (by omega), if_neg (by omega), show 101 + 2 * i = 100 + (1 + 2 * i) by omega]; exact hj _
  have e5 : (fun j => if j < 24 then some ((upF (upF (upF (upF (upF (upF (upF (upF (jF [6, 5, 4] FW (upF (upF (upF (fun _ => 0) 1 q_2) 2 qa_9) 3 q_24)) 7 q_44) 8 q_63) 9 q_85) 10 q_110) 11 q_165) 12 sq) 13 rq) 14 q_252) (100 + 2 * j)) else none) = (fun i => if i < 24 then some (FW (100 + 2 * i)) else none) := by funext j; rw [hFe]
  match k, hk with
  | 0, hk => exact hG_291
  | 1, hk => exact hG_280
  | 2, hk => exact hG_281.trans (by show some (chA 60 (fun _ => 0)) = some (chA 60 (rg st0 1 0 60)); rw [rg_st0 (by decide) (by decide) (by decide)])
  | 3, hk => exact hG_282
  | 4, hk => exact (hold9 _ _ hW9.2.1 (fun e => by rw [e, hG_35] at hW9; exact absurd hW9.2.1 (by simp))).trans (by show some (.inl (.object RX5, 12, .inr (.inr (.inr (.inr (fun _ => none))))) : LC) = some (.inl (.object RX5, 12, .inr (.inr (.inr (.inr (fun j => if j < 0 then some (adS a (upF (upF (upF (upF (upF (upF (upF (upF (jF [6, 5, 4] FW (upF (upF (upF (fun _ => 0) 1 q_2) 2 qa_9) 3 q_24)) 7 q_44) 8 q_63) 9 q_85) 10 q_110) 11 q_165) 12 sq) 13 rq) 14 q_252) 15 j) else none)))))); rw [lt0_none])
  | 5, hk => exact (hold9 (FW 5) _ hW9.2.2.1 (fun e => by rw [e, hG_35] at hW9; exact absurd hW9.2.2.1 (by simp))).trans (by show some (.inl (.object RX5, 24, .inr (.inr (.inr (.inr (fun i => if i < 24 then some (FW (100 + 2 * i)) else none))))) : LC) = some (.inl (.object RX5, 24, .inr (.inr (.inr (.inr (fun j => if j < 24 then some ((upF (upF (upF (upF (upF (upF (upF (upF (jF [6, 5, 4] FW (upF (upF (upF (fun _ => 0) 1 q_2) 2 qa_9) 3 q_24)) 7 q_44) 8 q_63) 9 q_85) 10 q_110) 11 q_165) 12 sq) 13 rq) 14 q_252) (100 + 2 * j)) else none)))))); rw [e5])
  | 6, hk => exact (hold9 (FW 6) _ hW9.2.2.2.1 (fun e => by rw [e, hG_35] at hW9; exact absurd hW9.2.2.2.1 (by simp))).trans rfl
  | 7, hk => exact hG_283.trans (by show some (.inl (.object RX0, 10, .inr (.inr (.inr (.inr (fun _ => none))))) : LC) = some (.inl (.object RX0, 10, .inr (.inr (.inr (.inr (fun j => if j < 0 then some (adS a (upF (upF (upF (upF (upF (upF (upF (upF (jF [6, 5, 4] FW (upF (upF (upF (fun _ => 0) 1 q_2) 2 qa_9) 3 q_24)) 7 q_44) 8 q_63) 9 q_85) 10 q_110) 11 q_165) 12 sq) 13 rq) 14 q_252) 21 j) else none)))))); rw [lt0_none])
  | 8, hk => exact hG_284.trans (by show some (.inl (.object RX2, 6, .inr (.inr (.inr (.inr (fun _ => none))))) : LC) = some (.inl (.object RX2, 6, .inr (.inr (.inr (.inr (fun j => if j < 0 then some (adS a (upF (upF (upF (upF (upF (upF (upF (upF (jF [6, 5, 4] FW (upF (upF (upF (fun _ => 0) 1 q_2) 2 qa_9) 3 q_24)) 7 q_44) 8 q_63) 9 q_85) 10 q_110) 11 q_165) 12 sq) 13 rq) 14 q_252) 27 j) else none)))))); rw [lt0_none])
  | 9, hk => exact hG_285.trans (by show some (.inl (.object RX1, 8, .inr (.inr (.inr (.inr (fun _ => none))))) : LC) = some (.inl (.object RX1, 8, .inr (.inr (.inr (.inr (fun j => if j < 0 then some (adS a (upF (upF (upF (upF (upF (upF (upF (upF (jF [6, 5, 4] FW (upF (upF (upF (fun _ => 0) 1 q_2) 2 qa_9) 3 q_24)) 7 q_44) 8 q_63) 9 q_85) 10 q_110) 11 q_165) 12 sq) 13 rq) 14 q_252) 29 j) else none)))))); rw [lt0_none])
  | 10, hk => exact hG_286.trans (by rw [pr_st0]; rfl)
  | 11, hk => exact hG_287
  | 12, hk => exact hG_288
  | 13, hk => exact hG_289.trans (by show some (chA 1014 (fun _ => 0)) = some (chA 1014 (rg st0 30 0 1014)); rw [rg_st0 (by decide) (by decide) (by decide)])
  | 14, hk => exact hG_290
  | 15, hk => exact absurd hk.2 (Nat.not_lt_zero i)
  | 16, hk => exact absurd hk.2 (Nat.not_lt_zero i)
  | 17, hk =>
    have hi : i < 24 := hk.2
    have h9 := (hW9.2.2.2.2 i hi).1
    have hF := hFe i
    have hF2 := hFo i
    show _ = some (sgC ((upF (upF (upF (upF (upF (upF (upF (upF (jF [6, 5, 4] FW (upF (upF (upF (fun _ => 0) 1 q_2) 2 qa_9) 3 q_24)) 7 q_44) 8 q_63) 9 q_85) 10 q_110) 11 q_165) 12 sq) 13 rq) 14 q_252) (101 + 2 * i)) 0)
    rw [hF2]
    show (va_up (va_up (va_up (va_up (va_up (va_up (va_up (va_up (va_up (va_up (va_up (va_up (va_up (va_up (va_up (va_up (va_up (va_up (va_up G9 a (some (.inr (8, [.ref q_2, .ref q_24, .null, .null, .null, .null, .null, .null, .int 0, .int 0, .int 0])))) q_44 (some (.inl (.object RX0, 10, .inr (.inr (.inr (.inr (fun _ => none)))))))) a (some (.inr (8, [.ref q_2, .ref q_24, .ref q_44, .null, .null, .null, .null, .null, .int 0, .int 0, .int 0])))) q_63 (some (.inl (.object RX2, 6, .inr (.inr (.inr (.inr (fun _ => none)))))))) a (some (.inr (8, [.ref q_2, .ref q_24, .ref q_44, .ref q_63, .null, .null, .null, .null, .int 0, .int 0, .int 0])))) q_85 (some (.inl (.object RX1, 8, .inr (.inr (.inr (.inr (fun _ => none)))))))) a (some (.inr (8, [.ref q_2, .ref q_24, .ref q_44, .ref q_63, .ref q_85, .null, .null, .null, .int 0, .int 0, .int 0])))) q_110 (some (.inl (.int, 3, .inl (fun _ => 0))))) q_110 (some (inA 3 (upd (fun _ => 0) 0 1)))) q_110 (some (inA 3 (upd (upd (fun _ => 0) 0 1) 1 1)))) q_110 (some (inA 3 (upd (upd (upd (fun _ => 0) 0 1) 1 1) 2 1)))) a (some (.inr (8, [.ref q_2, .ref q_24, .ref q_44, .ref q_63, .ref q_85, .ref q_110, .null, .null, .int 0, .int 0, .int 0])))) q_165 (some (.inr (3, [.null, .int 0])))) sq (some (sgC rq 0))) rq (some (chA 1014 (fun _ => 0)))) q_165 (some (pgC sq 1))) a (some (.inr (8, [.ref q_2, .ref q_24, .ref q_44, .ref q_63, .ref q_85, .ref q_110, .ref q_165, .null, .int 0, .int 0, .int 0])))) q_252 (some (.inr (4, [.int 0, .int 0, .int 0])))) a (some (.inr (8, [.ref q_2, .ref q_24, .ref q_44, .ref q_63, .ref q_85, .ref q_110, .ref q_165, .ref q_252, .int 0, .int 0, .int 0])))) ((upF (upF (upF (upF (upF (upF (upF (upF (jF [6, 5, 4] FW (upF (upF (upF (fun _ => 0) 1 q_2) 2 qa_9) 3 q_24)) 7 q_44) 8 q_63) 9 q_85) 10 q_110) 11 q_165) 12 sq) 13 rq) 14 q_252) (100 + 2 * i)) = _
    rw [hF]
    exact hold9 _ _ h9 (fun e => by rw [e, hG_35] at h9; exact absurd h9 (by simp))
  | 18, hk =>
    have hi : i < 24 := hk.2
    have h9 := (hW9.2.2.2.2 i hi).2
    have hF2 := hFo i
    show (va_up (va_up (va_up (va_up (va_up (va_up (va_up (va_up (va_up (va_up (va_up (va_up (va_up (va_up (va_up (va_up (va_up (va_up (va_up G9 a (some (.inr (8, [.ref q_2, .ref q_24, .null, .null, .null, .null, .null, .null, .int 0, .int 0, .int 0])))) q_44 (some (.inl (.object RX0, 10, .inr (.inr (.inr (.inr (fun _ => none)))))))) a (some (.inr (8, [.ref q_2, .ref q_24, .ref q_44, .null, .null, .null, .null, .null, .int 0, .int 0, .int 0])))) q_63 (some (.inl (.object RX2, 6, .inr (.inr (.inr (.inr (fun _ => none)))))))) a (some (.inr (8, [.ref q_2, .ref q_24, .ref q_44, .ref q_63, .null, .null, .null, .null, .int 0, .int 0, .int 0])))) q_85 (some (.inl (.object RX1, 8, .inr (.inr (.inr (.inr (fun _ => none)))))))) a (some (.inr (8, [.ref q_2, .ref q_24, .ref q_44, .ref q_63, .ref q_85, .null, .null, .null, .int 0, .int 0, .int 0])))) q_110 (some (.inl (.int, 3, .inl (fun _ => 0))))) q_110 (some (inA 3 (upd (fun _ => 0) 0 1)))) q_110 (some (inA 3 (upd (upd (fun _ => 0) 0 1) 1 1)))) q_110 (some (inA 3 (upd (upd (upd (fun _ => 0) 0 1) 1 1) 2 1)))) a (some (.inr (8, [.ref q_2, .ref q_24, .ref q_44, .ref q_63, .ref q_85, .ref q_110, .null, .null, .int 0, .int 0, .int 0])))) q_165 (some (.inr (3, [.null, .int 0])))) sq (some (sgC rq 0))) rq (some (chA 1014 (fun _ => 0)))) q_165 (some (pgC sq 1))) a (some (.inr (8, [.ref q_2, .ref q_24, .ref q_44, .ref q_63, .ref q_85, .ref q_110, .ref q_165, .null, .int 0, .int 0, .int 0])))) q_252 (some (.inr (4, [.int 0, .int 0, .int 0])))) a (some (.inr (8, [.ref q_2, .ref q_24, .ref q_44, .ref q_63, .ref q_85, .ref q_110, .ref q_165, .ref q_252, .int 0, .int 0, .int 0])))) ((upF (upF (upF (upF (upF (upF (upF (upF (jF [6, 5, 4] FW (upF (upF (upF (fun _ => 0) 1 q_2) 2 qa_9) 3 q_24)) 7 q_44) 8 q_63) 9 q_85) 10 q_110) 11 q_165) 12 sq) 13 rq) 14 q_252) (101 + 2 * i)) = some (chA 4 (rg st0 5 (4 * i) 4))
    rw [hF2, rg_st0 (by decide) (by decide) (by decide)]
    exact hold9 _ _ h9 (fun e => by rw [e, hG_35] at h9; exact absurd h9 (by simp))
  | k + 19, hk => exact absurd hk.1 (by omega)
