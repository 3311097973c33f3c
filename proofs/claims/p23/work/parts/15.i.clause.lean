set_option maxRecDepth 100000 in
set_option maxHeartbeats 4000000 in
theorem lp_X0_init {d b0 : Nat} {G : GH} {a : Nat} {cn : Int32} : ∀ (fu : Nat) (j : Nat) (F : Nat → Nat) (Gj : GH), j ≤ 3 ∧ NewC G Gj a cn F j → 3 - j < fu → WP mX0_init (d + 3) b0 (fun r G' => r = none ∧ ∃ F : Nat → Nat, NewC G G' a cn F 3) (fun _ _ => False) Gj (9 - 3 * j) (192 - 64 * j) 27 [(2, .int (nI j)), (0, .ref a), (1, .int cn)] [] := by
  intro fu
  induction fu with
  | zero => intro j F Gj hinv hn; exact absurd hn (Nat.not_lt_zero _)
  | succ fu ih =>
    intro j F Gj hinv hn
    have hR_1 := hinv.2.2.2.2.2
    have hF1 := hinv.2.2.2.2.1 1 (Or.inl rfl)
    unfold ccl at hF1
    rw [if_pos rfl] at hF1
    refine r_iload_n dX0_init_27 rfl 0 rfl ?_
    refine r_aload_n dX0_init_28 rfl 1 rfl ?_
    refine r_get 1 dX0_init_29 fRX0_11 hR_1 rfl ?_
    refine r_alen (v := nI 3) dX0_init_32 hF1 rfl ?_
    refine r_icmp_ge 55 dX0_init_33 (by decide) (fun c_2 => ?_) (fun c_2 => ?_)
    · refine r_vret dX0_init_55 rfl ?_
      have hj : j = 3 := by have := ni_le (a := 3) (by decide) (by omega) c_2; omega
      exact ⟨rfl, F, by rw [← hj]; exact hinv.2⟩
    · have hj : j < 3 := ni_nle (a := 3) (by omega) (by omega) c_2
      refine r_aload_n dX0_init_36 rfl 1 rfl ?_
      refine r_get 1 dX0_init_37 fRX0_11 hR_1 rfl ?_
      refine r_iload_n dX0_init_40 rfl 0 rfl ?_
      refine r_new [.null, .int 0] (9 - 3 * j - 1) (192 - 64 * j - 2) dX0_init_41 wRX0_9 (by omega) (by show _ + 2 ≤ _; omega) (fun q_3 hq_4 hb_5 => ?_)
      have hA_6 : a ≠ q_3 := cx_nf hR_1 hq_4
      have hG_7 := up_n (e := some (.inr (6, [.null, .int 0]))) hA_6 hR_1
      have hA_8 : F 1 ≠ q_3 := cx_nf hF1 hq_4
      have hG_9 := up_n (e := some (.inr (6, [.null, .int 0]))) hA_8 hF1
      have hG_10 : (va_up Gj q_3 (some (.inr (6, [.null, .int 0])))) q_3 = some (.inr (6, [.null, .int 0])) := up_s
      refine r_heap (G' := (va_up Gj q_3 (some (.inr (6, [.null, .int 0]))))) rfl ?_
      refine r_dup dX0_init_44 rfl ?_
      refine r_callIN (st := [.ref q_3, .int (nI j), .ref (F 1)]) [] (9 - 3 * j - 3) (192 - 64 * j - 64) dX0_init_45 kX6_init nX6_init rfl rfl lRX0_25 (c_X6_init hG_10) rfl rfl (Nat.le_of_ble_eq_true rfl) (by omega) (by omega) (fun _ _ h => h.elim) ?_
      intro r G9 hr
      obtain ⟨rfl, sq, rq, hsq, hrq0, hsr, hb1, hb2, rfl⟩ := hr
      have hA_11 : a ≠ sq := cx_nf hG_7 hsq
      have hG_12 := up_n (e := some (sgC rq 0)) hA_11 hG_7
      have hA_13 : F 1 ≠ sq := cx_nf hG_9 hsq
      have hG_14 := up_n (e := some (sgC rq 0)) hA_13 hG_9
      have hA_15 : q_3 ≠ sq := cx_nf hG_10 hsq
      have hG_16 := up_n (e := some (sgC rq 0)) hA_15 hG_10
      have hG_17 : (va_up (va_up Gj q_3 (some (.inr (6, [.null, .int 0])))) sq (some (sgC rq 0))) sq = some (sgC rq 0) := up_s
      have hrq := up_n (e := some (sgC rq 0)) (Ne.symm hsr) hrq0
      have hA_18 : a ≠ rq := cx_nf hG_12 hrq
      have hG_19 := up_n (e := some (chA 60 (fun _ => 0))) hA_18 hG_12
      have hA_20 : F 1 ≠ rq := cx_nf hG_14 hrq
      have hG_21 := up_n (e := some (chA 60 (fun _ => 0))) hA_20 hG_14
      have hA_22 : q_3 ≠ rq := cx_nf hG_16 hrq
      have hG_23 := up_n (e := some (chA 60 (fun _ => 0))) hA_22 hG_16
      have hA_24 : sq ≠ rq := cx_nf hG_17 hrq
      have hG_25 := up_n (e := some (chA 60 (fun _ => 0))) hA_24 hG_17
      have hG_26 : (va_up (va_up (va_up Gj q_3 (some (.inr (6, [.null, .int 0])))) sq (some (sgC rq 0))) rq (some (chA 60 (fun _ => 0)))) rq = some (chA 60 (fun _ => 0)) := up_s
      have hG_27 := up_n (e := some (tpC sq 0)) hA_6 hG_19
      have hG_28 := up_n (e := some (tpC sq 0)) hA_8 hG_21
      have hG_29 := up_n (e := some (tpC sq 0)) (Ne.symm hA_15) hG_25
      have hG_30 := up_n (e := some (tpC sq 0)) (Ne.symm hA_22) hG_26
      have hG_31 : (va_up (va_up (va_up (va_up Gj q_3 (some (.inr (6, [.null, .int 0])))) sq (some (sgC rq 0))) rq (some (chA 60 (fun _ => 0)))) q_3 (some (tpC sq 0))) q_3 = some (tpC sq 0) := up_s
      refine r_aast RX6 dX0_init_48 hG_28 hG_31 rfl (vp_in_nI hj (by decide)) ?_
      have hG_32 := up_n (e := some (.inl (.object RX6, 3, .inr (.inr (.inr (.inr (va_up (fun i => if i < j then some (F (3 + i)) else none) j (some q_3)))))))) (cx_ne hinv.2.2.2.2.2 hF1 (by simp)) hG_27
      have hG_33 := up_n (e := some (.inl (.object RX6, 3, .inr (.inr (.inr (.inr (va_up (fun i => if i < j then some (F (3 + i)) else none) j (some q_3)))))))) (Ne.symm hA_8) hG_31
      have hG_34 := up_n (e := some (.inl (.object RX6, 3, .inr (.inr (.inr (.inr (va_up (fun i => if i < j then some (F (3 + i)) else none) j (some q_3)))))))) (Ne.symm hA_13) hG_29
      have hG_35 := up_n (e := some (.inl (.object RX6, 3, .inr (.inr (.inr (.inr (va_up (fun i => if i < j then some (F (3 + i)) else none) j (some q_3)))))))) (Ne.symm hA_20) hG_30
      have hG_36 : (va_up (va_up (va_up (va_up (va_up Gj q_3 (some (.inr (6, [.null, .int 0])))) sq (some (sgC rq 0))) rq (some (chA 60 (fun _ => 0)))) q_3 (some (tpC sq 0))) (F 1) (some (.inl (.object RX6, 3, .inr (.inr (.inr (.inr (va_up (fun i => if i < j then some (F (3 + i)) else none) j (some q_3))))))))) (F 1) = some (.inl (.object RX6, 3, .inr (.inr (.inr (.inr (va_up (fun i => if i < j then some (F (3 + i)) else none) j (some q_3))))))) := up_s
      refine r_heap (G' := (va_up (va_up (va_up (va_up (va_up Gj q_3 (some (.inr (6, [.null, .int 0])))) sq (some (sgC rq 0))) rq (some (chA 60 (fun _ => 0)))) q_3 (some (tpC sq 0))) (F 1) (some (.inl (.object RX6, 3, .inr (.inr (.inr (.inr (va_up (fun i => if i < j then some (F (3 + i)) else none) j (some q_3)))))))))) (by rw [nI_cl (show j < 2147483648 by omega)]) ?_
      refine r_iinc (nI (j + 1)) [(2, .int (nI (j + 1))), (0, .ref a), (1, .int cn)] dX0_init_49 0 rfl (nI_1 j) (by decide) rfl ?_
      refine r_goto 27 dX0_init_52 (by decide) ?_
      have hold : ∀ x c, Gj x = some c → x ≠ F 1 → (va_up (va_up (va_up (va_up (va_up Gj q_3 (some (.inr (6, [.null, .int 0])))) sq (some (sgC rq 0))) rq (some (chA 60 (fun _ => 0)))) q_3 (some (tpC sq 0))) (F 1) (some (.inl (.object RX6, 3, .inr (.inr (.inr (.inr (va_up (fun i => if i < j then some (F (3 + i)) else none) j (some q_3))))))))) x = some c := by
        intro x c y0 n0
        have m_q_3 : x ≠ q_3 := cx_nf y0 hq_4
        have y1 := up_n (e := some (.inr (6, [.null, .int 0]))) m_q_3 y0
        have m_sq : x ≠ sq := cx_nf y1 hsq
        have y2 := up_n (e := some (sgC rq 0)) m_sq y1
        have m_rq : x ≠ rq := cx_nf y2 hrq
        have y3 := up_n (e := some (chA 60 (fun _ => 0))) m_rq y2
        have y4 := up_n (e := some (tpC sq 0)) m_q_3 y3
        have y5 := up_n (e := some (.inl (.object RX6, 3, .inr (.inr (.inr (.inr (va_up (fun i => if i < j then some (F (3 + i)) else none) j (some q_3)))))))) n0 y4
        exact y5
      have z1 : Gj q_3 = none := by
        cases hx : Gj q_3 with
        | none => rfl
        | some c =>
          exfalso
          have y0 := hx
          rw [hq_4] at y0; cases y0
      have z2 : Gj sq = none := by
        cases hx : Gj sq with
        | none => rfl
        | some c =>
          exfalso
          have y0 := hx
          have m0 : sq ≠ q_3 := cx_nf y0 hq_4
          have y1 := up_n (e := some (.inr (6, [.null, .int 0]))) m0 y0
          rw [hsq] at y1; cases y1
      have z3 : Gj rq = none := by
        cases hx : Gj rq with
        | none => rfl
        | some c =>
          exfalso
          have y0 := hx
          have m0 : rq ≠ q_3 := cx_nf y0 hq_4
          have y1 := up_n (e := some (.inr (6, [.null, .int 0]))) m0 y0
          have m1 : rq ≠ sq := cx_nf y1 hsq
          have y2 := up_n (e := some (sgC rq 0)) m1 y1
          rw [hrq] at y2; cases y2
      have hst := hinv.2.step hj z1 z2 z3 hA_15 hA_22 hA_24 hold hG_33 hG_34 hG_35 hG_36
      have hh := ih (j + 1) _ _ ⟨by omega, hst⟩ (by omega)
      exact WP.bud (by omega) (by omega) (WP.loc [0, 1, 2] rfl hh)
set_option maxRecDepth 100000 in
set_option maxHeartbeats 4000000 in
theorem c_X0_init {d b0 : Nat} {G : GH} {a : Nat} (h : G a = some (.inr (0, [.int 0, .null, .null]))) (cn : Int32) : CT mX0_init (d + 3) b0 G [.ref a, .int cn] 11 235 (fun r G' => r = none ∧ ∃ F : Nat → Nat, NewC G G' a cn F 3) (fun _ _ => False) := by
  refine CT.intro (by decide +kernel) rfl (Nat.le_of_ble_eq_true rfl) ?_
  show WP mX0_init _ _ _ _ _ 11 235 0 [(0, .ref a), (1, .int cn)] []
  have hR_1 := h
  refine r_aload_n dX0_init_0 rfl 0 rfl ?_
  refine r_obj dX0_init_1 lRX0_3 (by omega) (Nat.le_of_ble_eq_true rfl) ?_
  refine r_aload_n dX0_init_4 rfl 0 rfl ?_
  refine r_iconst (v := 3) dX0_init_5 (by decide) ?_
  refine r_newq RX6 3 10 232 dX0_init_6 t_380 (by decide +kernel) (by decide) (by decide) (by decide) (by decide) (by decide) (fun q_2 hq_3 hb_4 => ?_)
  have hA_5 : a ≠ q_2 := cx_nf hR_1 hq_3
  have hG_6 := up_n (e := some (.inl (.object RX6, 3, .inr (.inr (.inr (.inr (fun _ => none))))))) hA_5 hR_1
  have hG_7 : (va_up G q_2 (some (.inl (.object RX6, 3, .inr (.inr (.inr (.inr (fun _ => none)))))))) q_2 = some (.inl (.object RX6, 3, .inr (.inr (.inr (.inr (fun _ => none)))))) := up_s
  refine r_heap (G' := (va_up G q_2 (some (.inl (.object RX6, 3, .inr (.inr (.inr (.inr (fun _ => none))))))))) rfl ?_
  refine r_putF 1 (.array (.object "Glosstemplate$Template")) dX0_init_9 gRX0_11 rfl hG_6 (Nat.le_of_ble_eq_true rfl) rfl rfl ?_
  have hG_8 := up_n (e := some (.inr (0, [.int 0, .ref q_2, .null]))) (Ne.symm hA_5) hG_7
  have hG_9 : (va_up (va_up G q_2 (some (.inl (.object RX6, 3, .inr (.inr (.inr (.inr (fun _ => none)))))))) a (some (.inr (0, [.int 0, .ref q_2, .null])))) a = some (.inr (0, [.int 0, .ref q_2, .null])) := up_s
  refine r_heap (G' := (va_up (va_up G q_2 (some (.inl (.object RX6, 3, .inr (.inr (.inr (.inr (fun _ => none)))))))) a (some (.inr (0, [.int 0, .ref q_2, .null]))))) rfl ?_
  refine r_aload_n dX0_init_12 rfl 0 rfl ?_
  refine r_bipush (v := 40) dX0_init_13 (by decide) ?_
  refine r_newa (.int) 40 (40, .inl (fun _ => 0)) 9 192 dX0_init_15 ac_int rfl (fun _ _ h => h) (fun _ => rfl) (by decide) (by decide) (by decide) (by decide) (by decide) (fun q_10 hq_11 hb_12 => ?_)
  have hA_13 : a ≠ q_10 := cx_nf hG_9 hq_11
  have hG_14 := up_n (e := some (.inl (.int, 40, .inl (fun _ => 0)))) hA_13 hG_9
  have hA_15 : q_2 ≠ q_10 := cx_nf hG_8 hq_11
  have hG_16 := up_n (e := some (.inl (.int, 40, .inl (fun _ => 0)))) hA_15 hG_8
  have hG_17 : (va_up (va_up (va_up G q_2 (some (.inl (.object RX6, 3, .inr (.inr (.inr (.inr (fun _ => none)))))))) a (some (.inr (0, [.int 0, .ref q_2, .null])))) q_10 (some (.inl (.int, 40, .inl (fun _ => 0))))) q_10 = some (.inl (.int, 40, .inl (fun _ => 0))) := up_s
  refine r_heap (G' := (va_up (va_up (va_up G q_2 (some (.inl (.object RX6, 3, .inr (.inr (.inr (.inr (fun _ => none)))))))) a (some (.inr (0, [.int 0, .ref q_2, .null])))) q_10 (some (.inl (.int, 40, .inl (fun _ => 0)))))) rfl ?_
  refine r_putF 2 (.array .int) dX0_init_17 gRX0_17 rfl hG_14 (Nat.le_of_ble_eq_true rfl) rfl rfl ?_
  have hG_18 := up_n (e := some (.inr (0, [.int 0, .ref q_2, .ref q_10]))) (Ne.symm hA_5) hG_16
  have hG_19 := up_n (e := some (.inr (0, [.int 0, .ref q_2, .ref q_10]))) (Ne.symm hA_13) hG_17
  have hG_20 : (va_up (va_up (va_up (va_up G q_2 (some (.inl (.object RX6, 3, .inr (.inr (.inr (.inr (fun _ => none)))))))) a (some (.inr (0, [.int 0, .ref q_2, .null])))) q_10 (some (.inl (.int, 40, .inl (fun _ => 0))))) a (some (.inr (0, [.int 0, .ref q_2, .ref q_10])))) a = some (.inr (0, [.int 0, .ref q_2, .ref q_10])) := up_s
  refine r_heap (G' := (va_up (va_up (va_up (va_up G q_2 (some (.inl (.object RX6, 3, .inr (.inr (.inr (.inr (fun _ => none)))))))) a (some (.inr (0, [.int 0, .ref q_2, .null])))) q_10 (some (.inl (.int, 40, .inl (fun _ => 0))))) a (some (.inr (0, [.int 0, .ref q_2, .ref q_10]))))) rfl ?_
  refine r_aload_n dX0_init_20 rfl 0 rfl ?_
  refine r_iload_n dX0_init_21 rfl 1 rfl ?_
  refine r_putF 0 (.int) dX0_init_22 gRX0_21 rfl hG_20 (Nat.le_of_ble_eq_true rfl) rfl rfl ?_
  have hG_21 := up_n (e := some (.inr (0, [.int cn, .ref q_2, .ref q_10]))) (Ne.symm hA_5) hG_18
  have hG_22 := up_n (e := some (.inr (0, [.int cn, .ref q_2, .ref q_10]))) (Ne.symm hA_13) hG_19
  have hG_23 : (va_up (va_up (va_up (va_up (va_up G q_2 (some (.inl (.object RX6, 3, .inr (.inr (.inr (.inr (fun _ => none)))))))) a (some (.inr (0, [.int 0, .ref q_2, .null])))) q_10 (some (.inl (.int, 40, .inl (fun _ => 0))))) a (some (.inr (0, [.int 0, .ref q_2, .ref q_10])))) a (some (.inr (0, [.int cn, .ref q_2, .ref q_10])))) a = some (.inr (0, [.int cn, .ref q_2, .ref q_10])) := up_s
  refine r_heap (G' := (va_up (va_up (va_up (va_up (va_up G q_2 (some (.inl (.object RX6, 3, .inr (.inr (.inr (.inr (fun _ => none)))))))) a (some (.inr (0, [.int 0, .ref q_2, .null])))) q_10 (some (.inl (.int, 40, .inl (fun _ => 0))))) a (some (.inr (0, [.int 0, .ref q_2, .ref q_10])))) a (some (.inr (0, [.int cn, .ref q_2, .ref q_10]))))) rfl ?_
  refine r_iconst (v := nI 0) dX0_init_25 (by decide) ?_
  refine r_istore_n [(2, .int (nI 0)), (0, .ref a), (1, .int cn)] dX0_init_26 rfl (by decide) rfl ?_
  have hold : ∀ x c, G x = some c → x ≠ a → (va_up (va_up (va_up (va_up (va_up G q_2 (some (.inl (.object RX6, 3, .inr (.inr (.inr (.inr (fun _ => none)))))))) a (some (.inr (0, [.int 0, .ref q_2, .null])))) q_10 (some (.inl (.int, 40, .inl (fun _ => 0))))) a (some (.inr (0, [.int 0, .ref q_2, .ref q_10])))) a (some (.inr (0, [.int cn, .ref q_2, .ref q_10])))) x = some c := by
    intro x c y0 n0
    have m_q_2 : x ≠ q_2 := cx_nf y0 hq_3
    have y1 := up_n (e := some (.inl (.object RX6, 3, .inr (.inr (.inr (.inr (fun _ => none))))))) m_q_2 y0
    have y2 := up_n (e := some (.inr (0, [.int 0, .ref q_2, .null]))) n0 y1
    have m_q_10 : x ≠ q_10 := cx_nf y2 hq_11
    have y3 := up_n (e := some (.inl (.int, 40, .inl (fun _ => 0)))) m_q_10 y2
    have y4 := up_n (e := some (.inr (0, [.int 0, .ref q_2, .ref q_10]))) n0 y3
    have y5 := up_n (e := some (.inr (0, [.int cn, .ref q_2, .ref q_10]))) n0 y4
    exact y5
  have z1 : G q_2 = none := by
    cases hx : G q_2 with
    | none => rfl
    | some c =>
      exfalso
      have y0 := hx
      rw [hq_3] at y0; cases y0
  have z2 : G q_10 = none := by
    cases hx : G q_10 with
    | none => rfl
    | some c =>
      exfalso
      have y0 := hx
      have m0 : q_10 ≠ q_2 := cx_nf y0 hq_3
      have y1 := up_n (e := some (.inl (.object RX6, 3, .inr (.inr (.inr (.inr (fun _ => none))))))) m0 y0
      have m1 : q_10 ≠ a := (Ne.symm hA_13)
      have y2 := up_n (e := some (.inr (0, [.int 0, .ref q_2, .null]))) m1 y1
      rw [hq_11] at y2; cases y2
  have hN : NewC G (va_up (va_up (va_up (va_up (va_up G q_2 (some (.inl (.object RX6, 3, .inr (.inr (.inr (.inr (fun _ => none)))))))) a (some (.inr (0, [.int 0, .ref q_2, .null])))) q_10 (some (.inl (.int, 40, .inl (fun _ => 0))))) a (some (.inr (0, [.int 0, .ref q_2, .ref q_10])))) a (some (.inr (0, [.int cn, .ref q_2, .ref q_10])))) a cn (fun e => if e = 1 then q_2 else q_10) 0 := by
    refine ⟨fun e he => ?_, fun e e' he he' p => ?_, fun x c hx hG => hold x c hG hx, fun e he => ?_, hG_23⟩
    · dsimp only
      split
      · exact z1
      · exact z2
    · dsimp only at p
      have h3 : e = 1 ∨ e = 2 := by
        unfold ucl at he
        omega
      have h4 : e' = 1 ∨ e' = 2 := by
        unfold ucl at he'
        omega
      rcases h3 with h3 | h3 <;> rcases h4 with h4 | h4
      · rw [h3, h4]
      · rw [h3, h4, if_pos rfl, if_neg (by decide)] at p; exact absurd p hA_15
      · rw [h3, h4, if_pos rfl, if_neg (by decide)] at p; exact absurd p.symm hA_15
      · rw [h3, h4]
    · have h3 : e = 1 ∨ e = 2 := by
        unfold ucl at he
        omega
      unfold ccl
      rcases h3 with h3 | h3
      · rw [h3, if_pos rfl]; exact hG_21.trans (by congr 8)
      · rw [h3, if_neg (by decide), if_pos rfl]; exact hG_22
  have hh := lp_X0_init (d := d) (b0 := b0) (G := G) (a := a) (cn := cn) 4 0 _ _ ⟨Nat.zero_le _, hN⟩ (by decide)
  exact hh
set_option maxRecDepth 100000 in
set_option maxHeartbeats 4000000 in
theorem c_clause_0 {d b0 : Nat} {G : GH} {A B : ST} {ad : AD} (hW : World A B ad G) (hI : Inv A) (hP : Pag A) {b : Nat} (hx : nI b - 1 = -1 ∨ inB (nI b - 1) 8 = true) (hn : A 9 0 < 10) : CT mX8_clause (d + 8) b0 G [.ref (ad 0 0), .int (nI b - 1)] 20 400 (OPo (nI (A 9 0)) (setA (setA A 10 (A 9 0) b) 9 0 (A 9 0 + 1)) B ad A) (fun _ _ => False) := by
  have hb0 := hI.b0
  have hb2 := hI.b2
  have hb9 := hI.b9
  have hb15 := hI.b15
  have hb18 := hI.b18
  refine CT.intro (by decide +kernel) rfl (Nat.le_of_ble_eq_true rfl) ?_
  show WP mX8_clause _ _ _ _ _ 20 400 0 [(0, .ref (ad 0 0)), (1, .int (nI b - 1))] []
  have hR_1 := hW.g 0 0 rfl
  have hR_2 := hW.g 7 0 rfl
  refine r_iload_n dX8_clause_0 rfl 1 rfl ?_
  refine r_iconst (v := (-1)) dX8_clause_1 (by decide) ?_
  refine r_icmp_eq 24 dX8_clause_2 (by decide) (fun c_3 => ?_) (fun c_3 => ?_)
  · refine r_aload_n dX8_clause_24 rfl 0 rfl ?_
    refine r_get 8 dX8_clause_25 fRX8_124 hR_1 rfl ?_
    refine r_aload_n dX8_clause_28 rfl 0 rfl ?_
    refine r_get 2 dX8_clause_29 fRX8_27 hR_1 rfl ?_
    refine r_alen (v := nI 10) dX8_clause_32 hR_2 rfl ?_
    refine r_callS (st := []) [.int (nI (A 9 0)), .int (nI 10)] 20 400 dX8_clause_33 kX8_isBelow nX8_isBelow lRX8_104 (c_isB (nI (A 9 0)) 10) rfl rfl (Nat.le_of_ble_eq_true rfl) (Nat.le_refl _) (Nat.le_refl _) (fun _ _ h => h.elim) ?_
    refine cx_det (st2 := [.int (b2i (inB (nI (A 9 0)) 10))]) rfl ?_
    refine r_if_ne 49 dX8_clause_36 (by decide) (fun c_4 => ?_) (fun c_4 => absurd c_4 (b2i_no (inB_k hn (by decide))))
    refine r_aload_n dX8_clause_49 rfl 0 rfl ?_
    refine r_get 2 dX8_clause_50 fRX8_27 hR_1 rfl ?_
    refine r_aload_n dX8_clause_53 rfl 0 rfl ?_
    refine r_get 8 dX8_clause_54 fRX8_124 hR_1 rfl ?_
    refine r_new [.int 0, .null, .null] 19 397 dX8_clause_57 wRX8_25 (by decide) (by decide) (fun q_5 hq_6 hb_7 => ?_)
    have hA_8 : ad 0 0 ≠ q_5 := cx_nf hR_1 hq_6
    have hG_9 := up_n (e := some (.inr (0, [.int 0, .null, .null]))) hA_8 hR_1
    have hA_10 : ad 7 0 ≠ q_5 := cx_nf hR_2 hq_6
    have hG_11 := up_n (e := some (.inr (0, [.int 0, .null, .null]))) hA_10 hR_2
    have hG_12 : (va_up G q_5 (some (.inr (0, [.int 0, .null, .null])))) q_5 = some (.inr (0, [.int 0, .null, .null])) := up_s
    refine r_heap (G' := (va_up G q_5 (some (.inr (0, [.int 0, .null, .null]))))) rfl ?_
    refine r_dup dX8_clause_60 rfl ?_
    refine r_iload_n dX8_clause_61 rfl 1 rfl ?_
    refine r_callI (st := [.ref q_5, .int (nI (A 9 0)), .ref (ad 7 0)]) [.int (nI b - 1)] 8 162 dX8_clause_62 kX0_init nX0_init rfl rfl lRX8_130 (c_X0_init hG_12 (nI b - 1)) rfl rfl (Nat.le_of_ble_eq_true rfl) (by decide) (by decide) (fun _ _ h => h.elim) ?_
    intro r G9 hr
    obtain ⟨rfl, F, hN⟩ := hr
    have hG_13 := hN.2.2.1 _ _ hA_8 hG_9
    have hG_14 := hN.2.2.1 _ _ hA_10 hG_11
    refine r_aast RX0 dX8_clause_65 hG_14 hN.2.2.2.2 rfl (vp_in_nI hn (by decide)) ?_
    have hG_15 := up_n (e := some (.inl (.object RX0, 10, .inr (.inr (.inr (.inr (va_up (fun j => if j < A 9 0 then some (ad 21 j) else none) (A 9 0) (some q_5)))))))) (hW.ne 0 0 7 0 rfl rfl (Or.inl (by decide))) hG_13
    have hG_16 := up_n (e := some (.inl (.object RX0, 10, .inr (.inr (.inr (.inr (va_up (fun j => if j < A 9 0 then some (ad 21 j) else none) (A 9 0) (some q_5)))))))) (Ne.symm hA_10) hN.2.2.2.2
    have hG_17 : (va_up G9 (ad 7 0) (some (.inl (.object RX0, 10, .inr (.inr (.inr (.inr (va_up (fun j => if j < A 9 0 then some (ad 21 j) else none) (A 9 0) (some q_5))))))))) (ad 7 0) = some (.inl (.object RX0, 10, .inr (.inr (.inr (.inr (va_up (fun j => if j < A 9 0 then some (ad 21 j) else none) (A 9 0) (some q_5))))))) := up_s
    refine r_heap (G' := (va_up G9 (ad 7 0) (some (.inl (.object RX0, 10, .inr (.inr (.inr (.inr (va_up (fun j => if j < A 9 0 then some (ad 21 j) else none) (A 9 0) (some q_5)))))))))) (by rw [nI_cl (show A 9 0 < 2147483648 by omega)]) ?_
    refine r_aload_n dX8_clause_66 rfl 0 rfl ?_
    refine r_dup dX8_clause_67 rfl ?_
    refine r_get 8 dX8_clause_68 fRX8_124 hG_15 rfl ?_
    refine r_iconst (v := 1) dX8_clause_71 (by decide) ?_
    refine r_iadd dX8_clause_72 ?_
    refine r_top (nI (A 9 0 + 1)) (nI_1 _) ?_
    refine r_put 8 (.int) dX8_clause_73 gRX8_124 hG_15 (Nat.le_of_ble_eq_true rfl) rfl rfl ?_
    have hG_18 := up_n (e := some (.inr (8, [.ref (ad 1 0), .ref (ad 3 0), .ref (ad 7 0), .ref (ad 8 0), .ref (ad 9 0), .ref (ad 10 0), .ref (ad 11 0), .ref (ad 14 0), .int (nI (A 9 0 + 1)), .int (nI (A 15 0)), .int (nI (A 18 0))]))) (Ne.symm (hW.ne 0 0 7 0 rfl rfl (Or.inl (by decide)))) hG_17
    have hG_19 := up_n (e := some (.inr (8, [.ref (ad 1 0), .ref (ad 3 0), .ref (ad 7 0), .ref (ad 8 0), .ref (ad 9 0), .ref (ad 10 0), .ref (ad 11 0), .ref (ad 14 0), .int (nI (A 9 0 + 1)), .int (nI (A 15 0)), .int (nI (A 18 0))]))) (Ne.symm hA_8) hG_16
    have hG_20 : (va_up (va_up G9 (ad 7 0) (some (.inl (.object RX0, 10, .inr (.inr (.inr (.inr (va_up (fun j => if j < A 9 0 then some (ad 21 j) else none) (A 9 0) (some q_5))))))))) (ad 0 0) (some (.inr (8, [.ref (ad 1 0), .ref (ad 3 0), .ref (ad 7 0), .ref (ad 8 0), .ref (ad 9 0), .ref (ad 10 0), .ref (ad 11 0), .ref (ad 14 0), .int (nI (A 9 0 + 1)), .int (nI (A 15 0)), .int (nI (A 18 0))])))) (ad 0 0) = some (.inr (8, [.ref (ad 1 0), .ref (ad 3 0), .ref (ad 7 0), .ref (ad 8 0), .ref (ad 9 0), .ref (ad 10 0), .ref (ad 11 0), .ref (ad 14 0), .int (nI (A 9 0 + 1)), .int (nI (A 15 0)), .int (nI (A 18 0))])) := up_s
    refine r_heap (G' := (va_up (va_up G9 (ad 7 0) (some (.inl (.object RX0, 10, .inr (.inr (.inr (.inr (va_up (fun j => if j < A 9 0 then some (ad 21 j) else none) (A 9 0) (some q_5))))))))) (ad 0 0) (some (.inr (8, [.ref (ad 1 0), .ref (ad 3 0), .ref (ad 7 0), .ref (ad 8 0), .ref (ad 9 0), .ref (ad 10 0), .ref (ad 11 0), .ref (ad 14 0), .int (nI (A 9 0 + 1)), .int (nI (A 15 0)), .int (nI (A 18 0))]))))) rfl ?_
    refine r_aload_n dX8_clause_76 rfl 0 rfl ?_
    refine r_get 8 dX8_clause_77 fRX8_124 hG_20 rfl ?_
    refine r_iconst (v := 1) dX8_clause_80 (by decide) ?_
    refine r_isub dX8_clause_81 ?_
    refine r_top (nI (A 9 0)) (nI_m1 _) ?_
    refine r_ireti dX8_clause_82 rfl ?_
    have hold1 : ∀ x c, G9 x = some c → x ≠ ad 7 0 → x ≠ ad 0 0 → (va_up (va_up G9 (ad 7 0) (some (.inl (.object RX0, 10, .inr (.inr (.inr (.inr (va_up (fun j => if j < A 9 0 then some (ad 21 j) else none) (A 9 0) (some q_5))))))))) (ad 0 0) (some (.inr (8, [.ref (ad 1 0), .ref (ad 3 0), .ref (ad 7 0), .ref (ad 8 0), .ref (ad 9 0), .ref (ad 10 0), .ref (ad 11 0), .ref (ad 14 0), .int (nI (A 9 0 + 1)), .int (nI (A 15 0)), .int (nI (A 18 0))])))) x = some c := by
      intro x c y0 n0 n1
      have y1 := up_n (e := some (.inl (.object RX0, 10, .inr (.inr (.inr (.inr (va_up (fun j => if j < A 9 0 then some (ad 21 j) else none) (A 9 0) (some q_5)))))))) n0 y0
      have y2 := up_n (e := some (.inr (8, [.ref (ad 1 0), .ref (ad 3 0), .ref (ad 7 0), .ref (ad 8 0), .ref (ad 9 0), .ref (ad 10 0), .ref (ad 11 0), .ref (ad 14 0), .int (nI (A 9 0 + 1)), .int (nI (A 15 0)), .int (nI (A 18 0))]))) n1 y1
      exact y2
    have hold : ∀ x c, G x = some c → x ≠ ad 7 0 → x ≠ ad 0 0 → (va_up (va_up G9 (ad 7 0) (some (.inl (.object RX0, 10, .inr (.inr (.inr (.inr (va_up (fun j => if j < A 9 0 then some (ad 21 j) else none) (A 9 0) (some q_5))))))))) (ad 0 0) (some (.inr (8, [.ref (ad 1 0), .ref (ad 3 0), .ref (ad 7 0), .ref (ad 8 0), .ref (ad 9 0), .ref (ad 10 0), .ref (ad 11 0), .ref (ad 14 0), .int (nI (A 9 0 + 1)), .int (nI (A 15 0)), .int (nI (A 18 0))])))) x = some c := fun x c y0 n0 n1 => hold1 x c (hN.2.2.1 x c (cx_nf y0 hq_6) (up_n (cx_nf y0 hq_6) y0)) n0 n1
    have hK : NewK G (va_up (va_up G9 (ad 7 0) (some (.inl (.object RX0, 10, .inr (.inr (.inr (.inr (va_up (fun j => if j < A 9 0 then some (ad 21 j) else none) (A 9 0) (some q_5))))))))) (ad 0 0) (some (.inr (8, [.ref (ad 1 0), .ref (ad 3 0), .ref (ad 7 0), .ref (ad 8 0), .ref (ad 9 0), .ref (ad 10 0), .ref (ad 11 0), .ref (ad 14 0), .int (nI (A 9 0 + 1)), .int (nI (A 15 0)), .int (nI (A 18 0))])))) (nI b - 1) (Fq q_5 F) := hN.all hq_6 (fun x c hx y => hold1 x c y (fun e => by rw [e, hW.g 7 0 rfl] at hx; cases hx) (fun e => by rw [e, hW.g 0 0 rfl] at hx; cases hx))
    refine ⟨rfl, _, _, g_clause hW hI hn hold hG_18 hG_20 hK, fun k i hk => ?_, hP, fun f hf => rfl⟩
    refine adC_o (fun h => ?_) (fun h => ?_)
    · have h1 : k = 21 ∨ k = 22 ∨ k = 23 := by omega
      have h2 : i < A 9 0 := by rcases h1 with h1 | h1 | h1 <;> (rw [h1] at hk; exact hk)
      omega
    · have h1 : k = 24 ∨ k = 25 ∨ k = 26 := by omega
      have h2 : i < 3 * A 9 0 := by rcases h1 with h1 | h1 | h1 <;> (rw [h1] at hk; exact hk)
      omega
  · refine r_iload_n dX8_clause_5 rfl 1 rfl ?_
    refine r_bipush (v := 8) dX8_clause_6 (by decide) ?_
    refine r_callS (st := []) [.int (nI b - 1), .int 8] 20 400 dX8_clause_8 kX8_isBelow nX8_isBelow lRX8_104 (c_isB (nI b - 1) 8) rfl rfl (Nat.le_of_ble_eq_true rfl) (Nat.le_refl _) (Nat.le_refl _) (fun _ _ h => h.elim) ?_
    refine cx_det (st2 := [.int (b2i (inB (nI b - 1) 8))]) rfl ?_
    refine r_if_ne 24 dX8_clause_11 (by decide) (fun c_21 => ?_) (fun c_21 => absurd c_21 (b2i_no (hx.resolve_left c_3)))
    refine r_aload_n dX8_clause_24 rfl 0 rfl ?_
    refine r_get 8 dX8_clause_25 fRX8_124 hR_1 rfl ?_
    refine r_aload_n dX8_clause_28 rfl 0 rfl ?_
    refine r_get 2 dX8_clause_29 fRX8_27 hR_1 rfl ?_
    refine r_alen (v := nI 10) dX8_clause_32 hR_2 rfl ?_
    refine r_callS (st := []) [.int (nI (A 9 0)), .int (nI 10)] 20 400 dX8_clause_33 kX8_isBelow nX8_isBelow lRX8_104 (c_isB (nI (A 9 0)) 10) rfl rfl (Nat.le_of_ble_eq_true rfl) (Nat.le_refl _) (Nat.le_refl _) (fun _ _ h => h.elim) ?_
    refine cx_det (st2 := [.int (b2i (inB (nI (A 9 0)) 10))]) rfl ?_
    refine r_if_ne 49 dX8_clause_36 (by decide) (fun c_22 => ?_) (fun c_22 => absurd c_22 (b2i_no (inB_k hn (by decide))))
    refine r_aload_n dX8_clause_49 rfl 0 rfl ?_
    refine r_get 2 dX8_clause_50 fRX8_27 hR_1 rfl ?_
    refine r_aload_n dX8_clause_53 rfl 0 rfl ?_
    refine r_get 8 dX8_clause_54 fRX8_124 hR_1 rfl ?_
    refine r_new [.int 0, .null, .null] 19 397 dX8_clause_57 wRX8_25 (by decide) (by decide) (fun q_23 hq_24 hb_25 => ?_)
    have hA_26 : ad 0 0 ≠ q_23 := cx_nf hR_1 hq_24
    have hG_27 := up_n (e := some (.inr (0, [.int 0, .null, .null]))) hA_26 hR_1
    have hA_28 : ad 7 0 ≠ q_23 := cx_nf hR_2 hq_24
    have hG_29 := up_n (e := some (.inr (0, [.int 0, .null, .null]))) hA_28 hR_2
    have hG_30 : (va_up G q_23 (some (.inr (0, [.int 0, .null, .null])))) q_23 = some (.inr (0, [.int 0, .null, .null])) := up_s
    refine r_heap (G' := (va_up G q_23 (some (.inr (0, [.int 0, .null, .null]))))) rfl ?_
    refine r_dup dX8_clause_60 rfl ?_
    refine r_iload_n dX8_clause_61 rfl 1 rfl ?_
    refine r_callI (st := [.ref q_23, .int (nI (A 9 0)), .ref (ad 7 0)]) [.int (nI b - 1)] 8 162 dX8_clause_62 kX0_init nX0_init rfl rfl lRX8_130 (c_X0_init hG_30 (nI b - 1)) rfl rfl (Nat.le_of_ble_eq_true rfl) (by decide) (by decide) (fun _ _ h => h.elim) ?_
    intro r G9 hr
    obtain ⟨rfl, F, hN⟩ := hr
    have hG_31 := hN.2.2.1 _ _ hA_26 hG_27
    have hG_32 := hN.2.2.1 _ _ hA_28 hG_29
    refine r_aast RX0 dX8_clause_65 hG_32 hN.2.2.2.2 rfl (vp_in_nI hn (by decide)) ?_
    have hG_33 := up_n (e := some (.inl (.object RX0, 10, .inr (.inr (.inr (.inr (va_up (fun j => if j < A 9 0 then some (ad 21 j) else none) (A 9 0) (some q_23)))))))) (hW.ne 0 0 7 0 rfl rfl (Or.inl (by decide))) hG_31
    have hG_34 := up_n (e := some (.inl (.object RX0, 10, .inr (.inr (.inr (.inr (va_up (fun j => if j < A 9 0 then some (ad 21 j) else none) (A 9 0) (some q_23)))))))) (Ne.symm hA_28) hN.2.2.2.2
    have hG_35 : (va_up G9 (ad 7 0) (some (.inl (.object RX0, 10, .inr (.inr (.inr (.inr (va_up (fun j => if j < A 9 0 then some (ad 21 j) else none) (A 9 0) (some q_23))))))))) (ad 7 0) = some (.inl (.object RX0, 10, .inr (.inr (.inr (.inr (va_up (fun j => if j < A 9 0 then some (ad 21 j) else none) (A 9 0) (some q_23))))))) := up_s
    refine r_heap (G' := (va_up G9 (ad 7 0) (some (.inl (.object RX0, 10, .inr (.inr (.inr (.inr (va_up (fun j => if j < A 9 0 then some (ad 21 j) else none) (A 9 0) (some q_23)))))))))) (by rw [nI_cl (show A 9 0 < 2147483648 by omega)]) ?_
    refine r_aload_n dX8_clause_66 rfl 0 rfl ?_
    refine r_dup dX8_clause_67 rfl ?_
    refine r_get 8 dX8_clause_68 fRX8_124 hG_33 rfl ?_
    refine r_iconst (v := 1) dX8_clause_71 (by decide) ?_
    refine r_iadd dX8_clause_72 ?_
    refine r_top (nI (A 9 0 + 1)) (nI_1 _) ?_
    refine r_put 8 (.int) dX8_clause_73 gRX8_124 hG_33 (Nat.le_of_ble_eq_true rfl) rfl rfl ?_
    have hG_36 := up_n (e := some (.inr (8, [.ref (ad 1 0), .ref (ad 3 0), .ref (ad 7 0), .ref (ad 8 0), .ref (ad 9 0), .ref (ad 10 0), .ref (ad 11 0), .ref (ad 14 0), .int (nI (A 9 0 + 1)), .int (nI (A 15 0)), .int (nI (A 18 0))]))) (Ne.symm (hW.ne 0 0 7 0 rfl rfl (Or.inl (by decide)))) hG_35
    have hG_37 := up_n (e := some (.inr (8, [.ref (ad 1 0), .ref (ad 3 0), .ref (ad 7 0), .ref (ad 8 0), .ref (ad 9 0), .ref (ad 10 0), .ref (ad 11 0), .ref (ad 14 0), .int (nI (A 9 0 + 1)), .int (nI (A 15 0)), .int (nI (A 18 0))]))) (Ne.symm hA_26) hG_34
    have hG_38 : (va_up (va_up G9 (ad 7 0) (some (.inl (.object RX0, 10, .inr (.inr (.inr (.inr (va_up (fun j => if j < A 9 0 then some (ad 21 j) else none) (A 9 0) (some q_23))))))))) (ad 0 0) (some (.inr (8, [.ref (ad 1 0), .ref (ad 3 0), .ref (ad 7 0), .ref (ad 8 0), .ref (ad 9 0), .ref (ad 10 0), .ref (ad 11 0), .ref (ad 14 0), .int (nI (A 9 0 + 1)), .int (nI (A 15 0)), .int (nI (A 18 0))])))) (ad 0 0) = some (.inr (8, [.ref (ad 1 0), .ref (ad 3 0), .ref (ad 7 0), .ref (ad 8 0), .ref (ad 9 0), .ref (ad 10 0), .ref (ad 11 0), .ref (ad 14 0), .int (nI (A 9 0 + 1)), .int (nI (A 15 0)), .int (nI (A 18 0))])) := up_s
    refine r_heap (G' := (va_up (va_up G9 (ad 7 0) (some (.inl (.object RX0, 10, .inr (.inr (.inr (.inr (va_up (fun j => if j < A 9 0 then some (ad 21 j) else none) (A 9 0) (some q_23))))))))) (ad 0 0) (some (.inr (8, [.ref (ad 1 0), .ref (ad 3 0), .ref (ad 7 0), .ref (ad 8 0), .ref (ad 9 0), .ref (ad 10 0), .ref (ad 11 0), .ref (ad 14 0), .int (nI (A 9 0 + 1)), .int (nI (A 15 0)), .int (nI (A 18 0))]))))) rfl ?_
    refine r_aload_n dX8_clause_76 rfl 0 rfl ?_
    refine r_get 8 dX8_clause_77 fRX8_124 hG_38 rfl ?_
    refine r_iconst (v := 1) dX8_clause_80 (by decide) ?_
    refine r_isub dX8_clause_81 ?_
    refine r_top (nI (A 9 0)) (nI_m1 _) ?_
    refine r_ireti dX8_clause_82 rfl ?_
    have hold1 : ∀ x c, G9 x = some c → x ≠ ad 7 0 → x ≠ ad 0 0 → (va_up (va_up G9 (ad 7 0) (some (.inl (.object RX0, 10, .inr (.inr (.inr (.inr (va_up (fun j => if j < A 9 0 then some (ad 21 j) else none) (A 9 0) (some q_23))))))))) (ad 0 0) (some (.inr (8, [.ref (ad 1 0), .ref (ad 3 0), .ref (ad 7 0), .ref (ad 8 0), .ref (ad 9 0), .ref (ad 10 0), .ref (ad 11 0), .ref (ad 14 0), .int (nI (A 9 0 + 1)), .int (nI (A 15 0)), .int (nI (A 18 0))])))) x = some c := by
      intro x c y0 n0 n1
      have y1 := up_n (e := some (.inl (.object RX0, 10, .inr (.inr (.inr (.inr (va_up (fun j => if j < A 9 0 then some (ad 21 j) else none) (A 9 0) (some q_23)))))))) n0 y0
      have y2 := up_n (e := some (.inr (8, [.ref (ad 1 0), .ref (ad 3 0), .ref (ad 7 0), .ref (ad 8 0), .ref (ad 9 0), .ref (ad 10 0), .ref (ad 11 0), .ref (ad 14 0), .int (nI (A 9 0 + 1)), .int (nI (A 15 0)), .int (nI (A 18 0))]))) n1 y1
      exact y2
    have hold : ∀ x c, G x = some c → x ≠ ad 7 0 → x ≠ ad 0 0 → (va_up (va_up G9 (ad 7 0) (some (.inl (.object RX0, 10, .inr (.inr (.inr (.inr (va_up (fun j => if j < A 9 0 then some (ad 21 j) else none) (A 9 0) (some q_23))))))))) (ad 0 0) (some (.inr (8, [.ref (ad 1 0), .ref (ad 3 0), .ref (ad 7 0), .ref (ad 8 0), .ref (ad 9 0), .ref (ad 10 0), .ref (ad 11 0), .ref (ad 14 0), .int (nI (A 9 0 + 1)), .int (nI (A 15 0)), .int (nI (A 18 0))])))) x = some c := fun x c y0 n0 n1 => hold1 x c (hN.2.2.1 x c (cx_nf y0 hq_24) (up_n (cx_nf y0 hq_24) y0)) n0 n1
    have hK : NewK G (va_up (va_up G9 (ad 7 0) (some (.inl (.object RX0, 10, .inr (.inr (.inr (.inr (va_up (fun j => if j < A 9 0 then some (ad 21 j) else none) (A 9 0) (some q_23))))))))) (ad 0 0) (some (.inr (8, [.ref (ad 1 0), .ref (ad 3 0), .ref (ad 7 0), .ref (ad 8 0), .ref (ad 9 0), .ref (ad 10 0), .ref (ad 11 0), .ref (ad 14 0), .int (nI (A 9 0 + 1)), .int (nI (A 15 0)), .int (nI (A 18 0))])))) (nI b - 1) (Fq q_23 F) := hN.all hq_24 (fun x c hx y => hold1 x c y (fun e => by rw [e, hW.g 7 0 rfl] at hx; cases hx) (fun e => by rw [e, hW.g 0 0 rfl] at hx; cases hx))
    refine ⟨rfl, _, _, g_clause hW hI hn hold hG_36 hG_38 hK, fun k i hk => ?_, hP, fun f hf => rfl⟩
    refine adC_o (fun h => ?_) (fun h => ?_)
    · have h1 : k = 21 ∨ k = 22 ∨ k = 23 := by omega
      have h2 : i < A 9 0 := by rcases h1 with h1 | h1 | h1 <;> (rw [h1] at hk; exact hk)
      omega
    · have h1 : k = 24 ∨ k = 25 ∨ k = 26 := by omega
      have h2 : i < 3 * A 9 0 := by rcases h1 with h1 | h1 | h1 <;> (rw [h1] at hk; exact hk)
      omega
set_option maxRecDepth 100000 in
set_option maxHeartbeats 4000000 in
theorem c_clause_1 {d b0 : Nat} {G : GH} {A B : ST} {ad : AD} (hW : World A B ad G) (hI : Inv A) {x : Int32} (hx1 : ¬ x = -1) (hx : inB x 8 = false) : CT mX8_clause (d + 8) b0 G [.ref (ad 0 0), .int x] 20 400 (fun _ _ => False) (fun E G' => E = "java/lang/IllegalArgumentException" ∧ G' = G) := by
  have hb0 := hI.b0
  have hb2 := hI.b2
  have hb9 := hI.b9
  have hb15 := hI.b15
  have hb18 := hI.b18
  refine CT.intro (by decide +kernel) rfl (Nat.le_of_ble_eq_true rfl) ?_
  show WP mX8_clause _ _ _ _ _ 20 400 0 [(0, .ref (ad 0 0)), (1, .int x)] []
  refine r_iload_n dX8_clause_0 rfl 1 rfl ?_
  refine r_iconst (v := (-1)) dX8_clause_1 (by decide) ?_
  refine r_icmp_eq 24 dX8_clause_2 (by decide) (fun c_1 => absurd c_1 hx1) (fun c_1 => ?_)
  refine r_iload_n dX8_clause_5 rfl 1 rfl ?_
  refine r_bipush (v := 8) dX8_clause_6 (by decide) ?_
  refine r_callS (st := []) [.int x, .int 8] 20 400 dX8_clause_8 kX8_isBelow nX8_isBelow lRX8_104 (c_isB x 8) rfl rfl (Nat.le_of_ble_eq_true rfl) (Nat.le_refl _) (Nat.le_refl _) (fun _ _ h => h.elim) ?_
  refine cx_det (st2 := [.int (b2i (inB x 8))]) rfl ?_
  refine r_if_ne 24 dX8_clause_11 (by decide) (fun c_2 => absurd (b2i_z hx) c_2) (fun c_2 => ?_)
  refine r_throw "java/lang/IllegalArgumentException" "no such condition" dX8_clause_14 dX8_clause_17 dX8_clause_18 dX8_clause_20 dX8_clause_23 rfl (by decide +kernel) t_337 t_33 (by decide +kernel) exA_at exA_ng (by decide +kernel) (by omega) (by decide) (by decide) (Nat.le_of_ble_eq_true rfl) ?_
  exact ⟨rfl, rfl⟩
set_option maxRecDepth 100000 in
set_option maxHeartbeats 4000000 in
theorem c_clause_2 {d b0 : Nat} {G : GH} {A B : ST} {ad : AD} (hW : World A B ad G) (hI : Inv A) {x : Int32} (hx : x = -1 ∨ inB x 8 = true) (hn : ¬ A 9 0 < 10) : CT mX8_clause (d + 8) b0 G [.ref (ad 0 0), .int x] 20 400 (fun _ _ => False) (fun E G' => E = "java/lang/IllegalStateException" ∧ G' = G) := by
  have hb0 := hI.b0
  have hb2 := hI.b2
  have hb9 := hI.b9
  have hb15 := hI.b15
  have hb18 := hI.b18
  refine CT.intro (by decide +kernel) rfl (Nat.le_of_ble_eq_true rfl) ?_
  show WP mX8_clause _ _ _ _ _ 20 400 0 [(0, .ref (ad 0 0)), (1, .int x)] []
  refine r_iload_n dX8_clause_0 rfl 1 rfl ?_
  refine r_iconst (v := (-1)) dX8_clause_1 (by decide) ?_
  refine r_icmp_eq 24 dX8_clause_2 (by decide) (fun c_1 => ?_) (fun c_1 => ?_)
  · refine r_aload_n dX8_clause_24 rfl 0 rfl ?_
    refine r_get 8 dX8_clause_25 fRX8_124 (hW.g 0 0 rfl) rfl ?_
    refine r_aload_n dX8_clause_28 rfl 0 rfl ?_
    refine r_get 2 dX8_clause_29 fRX8_27 (hW.g 0 0 rfl) rfl ?_
    refine r_alen (v := nI 10) dX8_clause_32 (hW.g 7 0 rfl) rfl ?_
    refine r_callS (st := []) [.int (nI (A 9 0)), .int (nI 10)] 20 400 dX8_clause_33 kX8_isBelow nX8_isBelow lRX8_104 (c_isB (nI (A 9 0)) 10) rfl rfl (Nat.le_of_ble_eq_true rfl) (Nat.le_refl _) (Nat.le_refl _) (fun _ _ h => h.elim) ?_
    refine cx_det (st2 := [.int (b2i (inB (nI (A 9 0)) 10))]) rfl ?_
    refine r_if_ne 49 dX8_clause_36 (by decide) (fun c_2 => absurd (b2i_z (by rw [inB_nI (by omega) (by decide), decide_eq_false hn])) c_2) (fun c_2 => ?_)
    refine r_throw "java/lang/IllegalStateException" "too many clauses" dX8_clause_39 dX8_clause_42 dX8_clause_43 dX8_clause_45 dX8_clause_48 rfl (by decide +kernel) t_212 t_31 (by decide +kernel) exS_at exS_ng (by decide +kernel) (by omega) (by decide) (by decide) (Nat.le_of_ble_eq_true rfl) ?_
    exact ⟨rfl, rfl⟩
  · refine r_iload_n dX8_clause_5 rfl 1 rfl ?_
    refine r_bipush (v := 8) dX8_clause_6 (by decide) ?_
    refine r_callS (st := []) [.int x, .int 8] 20 400 dX8_clause_8 kX8_isBelow nX8_isBelow lRX8_104 (c_isB x 8) rfl rfl (Nat.le_of_ble_eq_true rfl) (Nat.le_refl _) (Nat.le_refl _) (fun _ _ h => h.elim) ?_
    refine cx_det (st2 := [.int (b2i (inB x 8))]) rfl ?_
    refine r_if_ne 24 dX8_clause_11 (by decide) (fun c_3 => ?_) (fun c_3 => absurd c_3 (b2i_no (hx.resolve_left c_1)))
    refine r_aload_n dX8_clause_24 rfl 0 rfl ?_
    refine r_get 8 dX8_clause_25 fRX8_124 (hW.g 0 0 rfl) rfl ?_
    refine r_aload_n dX8_clause_28 rfl 0 rfl ?_
    refine r_get 2 dX8_clause_29 fRX8_27 (hW.g 0 0 rfl) rfl ?_
    refine r_alen (v := nI 10) dX8_clause_32 (hW.g 7 0 rfl) rfl ?_
    refine r_callS (st := []) [.int (nI (A 9 0)), .int (nI 10)] 20 400 dX8_clause_33 kX8_isBelow nX8_isBelow lRX8_104 (c_isB (nI (A 9 0)) 10) rfl rfl (Nat.le_of_ble_eq_true rfl) (Nat.le_refl _) (Nat.le_refl _) (fun _ _ h => h.elim) ?_
    refine cx_det (st2 := [.int (b2i (inB (nI (A 9 0)) 10))]) rfl ?_
    refine r_if_ne 49 dX8_clause_36 (by decide) (fun c_4 => absurd (b2i_z (by rw [inB_nI (by omega) (by decide), decide_eq_false hn])) c_4) (fun c_4 => ?_)
    refine r_throw "java/lang/IllegalStateException" "too many clauses" dX8_clause_39 dX8_clause_42 dX8_clause_43 dX8_clause_45 dX8_clause_48 rfl (by decide +kernel) t_212 t_31 (by decide +kernel) exS_at exS_ng (by decide +kernel) (by omega) (by decide) (by decide) (Nat.le_of_ble_eq_true rfl) ?_
    exact ⟨rfl, rfl⟩
