theorem ni_gt0 {x : Nat} (h : ¬ nI x ≤ 0) : 0 < x := Nat.pos_of_ne_zero (fun q => h (by rw [q]; decide))
theorem slo_iff {y s : Nat} (hy : y < 65536) (hs : s < 5) : (s_X8_slotOf (nI y) = nI s) ↔ y = 48 + s := by
  by_cases h : 48 ≤ y ∧ y ≤ 52
  · rw [slo_n h, nI_eq (by omega) (by omega)]; omega
  · have hsl : s_X8_slotOf (nI y) = -1 := by
      unfold s_X8_slotOf
      by_cases q : y < 48
      · rw [if_pos (show nI y < 48 from li_lt hy (k := 48) (by decide) q)]
      · rw [if_neg (show ¬ nI y < 48 from li_nlt hy (k := 48) (by decide) (by omega)), if_pos (show (53 : Int32) ≤ nI y from li_le (c := 53) (by decide) hy (by omega))]
    rw [hsl]
    exact ⟨fun q => absurd q.symm (nI_nm1 (by omega)), fun q => by omega⟩
theorem cs_k {B : ST} (hC : ∀ k, B 11 k < 65536) {t k s : Nat} (hlen : B 12 t ≤ 60) (hk : k + 1 < B 12 t) (hs : s < 5) : csB (rg B 11 (60 * t) 60) (B 12 t) (nI s) k = (decide (B 11 (60 * t + k) = 91) && decide (B 11 (60 * t + k + 1) = 48 + s)) := by
  unfold csB slB
  rw [chr_rg hlen, chr_rg hlen, if_pos (by omega), if_pos hk]
  have h1 := hC (60 * t + k)
  have e1 : decide (nI (B 11 (60 * t + k)) = 91) = decide (B 11 (60 * t + k) = 91) := decide_eq_decide.mpr (nI_eq (b := 91) (by omega) (by decide))
  have e2 : decide (s_X8_slotOf (nI (B 11 (60 * t + (k + 1)))) = nI s) = decide (B 11 (60 * t + k + 1) = 48 + s) := decide_eq_decide.mpr (slo_iff (hC _) hs)
  rw [e1, e2]
theorem cs_last {B : ST} {t k s : Nat} (hk : B 12 t = k + 1) (hs : s < 5) (hlen : B 12 t ≤ 60) : csB (rg B 11 (60 * t) 60) (B 12 t) (nI s) k = false := by
  unfold csB
  rw [chr_rg (k := k + 1) hlen, if_neg (by omega)]
  have e : ¬ s_X8_slotOf (nI 0) = nI s := fun q => nI_nm1 (k := s) (by omega) (by rw [← q]; decide +kernel)
  rw [decide_eq_false e, Bool.and_false]
set_option maxRecDepth 100000 in
set_option maxHeartbeats 4000000 in
theorem lp_X9_often {d b0 : Nat} {G : GH} {A B : ST} {ad : AD} (hW : World A B ad G) (hC : ∀ k, B 11 k < 65536) {t s : Nat} (ht : t < 30) (hs : s < 5) (hlen : B 12 t ≤ 60) : ∀ (fu : Nat) (k : Nat), k = 0 ∨ k + 1 ≤ B 12 t → B 12 t - k < fu → WP mX9_often d b0 (fun r G' => r = some (.int (nI (scn B t (nI s)))) ∧ G' = G) (fun _ _ => False) G 0 0 5 [(4, .int (nI k)), (3, .int (nI (cntB (csB (rg B 11 (60 * t) 60) (B 12 t) (nI s)) k))), (0, .ref (ad 31 0)), (1, .int (nI t)), (2, .int (nI s))] [] := by
  intro fu
  induction fu with
  | zero => intro k hinv hn; exact absurd hn (Nat.not_lt_zero _)
  | succ fu ih =>
    intro k hinv hn
    refine r_iload dX9_often_5 0 rfl ?_
    refine r_iconst (v := 1) dX9_often_7 (by decide) ?_
    refine r_iadd dX9_often_8 ?_
    refine r_top (nI (k + 1)) (nI_1 k) ?_
    refine r_aload_n dX9_often_9 rfl 2 rfl ?_
    refine r_get 12 dX9_often_10 fRX9_38 (hW.g 31 0 rfl) rfl ?_
    refine r_iload_n dX9_often_13 rfl 3 rfl ?_
    refine r_iald dX9_often_14 (hW.g 32 12 rfl) (vp_in_nI (by omega) (by decide)) ?_
    refine r_top (nI (B 12 t)) (by rw [nI_cl (by omega)]; exact rgm (by omega)) ?_
    refine r_icmp_ge 70 dX9_often_15 (by decide) (fun c_1 => ?_) (fun c_1 => ?_)
    · refine r_iload_n dX9_often_70 rfl 1 rfl ?_
      refine r_ireti dX9_often_71 rfl ?_
      have hk : B 12 t ≤ k + 1 := ni_le (by omega) (by omega) c_1
      have e : cntB (csB (rg B 11 (60 * t) 60) (B 12 t) (nI s)) k = scn B t (nI s) := by
        unfold scn
        by_cases h0 : B 12 t = 0
        · have hk0 : k = 0 := by omega
          rw [hk0, h0]
        · have h1 : B 12 t = k + 1 := by omega
          have h2 := cs_last (B := B) h1 hs hlen
          have h3 : cntB (csB (rg B 11 (60 * t) 60) (B 12 t) (nI s)) (k + 1) = cntB (csB (rg B 11 (60 * t) 60) (B 12 t) (nI s)) k := by
            show cntB (csB (rg B 11 (60 * t) 60) (B 12 t) (nI s)) k + (if (csB (rg B 11 (60 * t) 60) (B 12 t) (nI s)) k then 1 else 0) = _
            rw [h2]; rfl
          rw [← h3, ← h1]
      exact ⟨by rw [e], rfl⟩
    · have hk1 : k + 1 < B 12 t := ni_nle (by omega) (by omega) c_1
      have h91 := hC (60 * t + k)
      have h92 := hC (60 * t + k + 1)
      refine r_iload_n dX9_often_18 rfl 1 rfl ?_
      refine r_aload_n dX9_often_19 rfl 2 rfl ?_
      refine r_get 11 dX9_often_20 fRX9_35 (hW.g 31 0 rfl) rfl ?_
      refine r_bipush (v := 60) dX9_often_23 (by decide) ?_
      refine r_iload_n dX9_often_25 rfl 3 rfl ?_
      refine r_imul dX9_often_26 ?_
      refine r_top (nI (60 * t)) (pk_mul 60 t) ?_
      refine r_iload dX9_often_27 0 rfl ?_
      refine r_iadd dX9_often_29 ?_
      refine r_top (nI (60 * t + k)) (nI_add _ _) ?_
      refine r_cald dX9_often_30 (hW.g 32 11 rfl) (vp_in_nI (by omega) (by decide)) ?_
      refine r_top (nI (B 11 (60 * t + k))) (by rw [nI_cl (by omega)]; exact rgm (by omega)) ?_
      refine r_bipush (v := 91) dX9_often_31 (by decide) ?_
      refine r_icmp_ne 61 dX9_often_33 (by decide) (fun c_2 => ?_) (fun c_2 => ?_)
      · refine r_iconst (v := 0) dX9_often_61 (by decide) ?_
        have hp : (csB (rg B 11 (60 * t) 60) (B 12 t) (nI s)) k = false := by rw [cs_k hC hlen hk1 hs, decide_eq_false (p := B 11 (60 * t + k) = 91) (ni_ne (b := 91) (by omega) (by decide) c_2)] <;> rfl
        refine r_iadd dX9_often_62 ?_
        refine r_top (nI (cntB (csB (rg B 11 (60 * t) 60) (B 12 t) (nI s)) (k + 1))) (by show nI _ + 0 = nI (cntB (csB (rg B 11 (60 * t) 60) (B 12 t) (nI s)) k + (if (csB (rg B 11 (60 * t) 60) (B 12 t) (nI s)) k then 1 else 0)); rw [hp, if_neg (by decide)]; exact nI_add _ 0) ?_
        refine r_istore_n [(3, .int (nI (cntB (csB (rg B 11 (60 * t) 60) (B 12 t) (nI s)) (k + 1)))), (4, .int (nI k)), (0, .ref (ad 31 0)), (1, .int (nI t)), (2, .int (nI s))] dX9_often_63 rfl (by decide) rfl ?_
        refine r_iinc (nI (k + 1)) [(4, .int (nI (k + 1))), (3, .int (nI (cntB (csB (rg B 11 (60 * t) 60) (B 12 t) (nI s)) (k + 1)))), (0, .ref (ad 31 0)), (1, .int (nI t)), (2, .int (nI s))] dX9_often_64 1 rfl (nI_1 k) (by decide) rfl ?_
        refine r_goto 5 dX9_often_67 (by decide) ?_
        exact WP.loc [0, 1, 2, 3, 4] rfl (ih (k + 1) (Or.inr (by omega)) (by omega))
      · refine r_aload_n dX9_often_36 rfl 2 rfl ?_
        refine r_get 11 dX9_often_37 fRX9_35 (hW.g 31 0 rfl) rfl ?_
        refine r_bipush (v := 60) dX9_often_40 (by decide) ?_
        refine r_iload_n dX9_often_42 rfl 3 rfl ?_
        refine r_imul dX9_often_43 ?_
        refine r_top (nI (60 * t)) (pk_mul 60 t) ?_
        refine r_iload dX9_often_44 0 rfl ?_
        refine r_iadd dX9_often_46 ?_
        refine r_top (nI (60 * t + k)) (nI_add _ _) ?_
        refine r_iconst (v := 1) dX9_often_47 (by decide) ?_
        refine r_iadd dX9_often_48 ?_
        refine r_top (nI (60 * t + k + 1)) (nI_1 _) ?_
        refine r_cald dX9_often_49 (hW.g 32 11 rfl) (vp_in_nI (by omega) (by decide)) ?_
        refine r_top (nI (B 11 (60 * t + k + 1))) (by rw [nI_cl (by omega)]; exact rgm (by omega)) ?_
        refine r_bipush (v := 48) dX9_often_50 (by decide) ?_
        refine r_iload_n dX9_often_52 rfl 4 rfl ?_
        refine r_iadd dX9_often_53 ?_
        refine r_top (nI (48 + s)) (nI_add 48 s) ?_
        refine r_icmp_ne 61 dX9_often_54 (by decide) (fun c_4 => ?_) (fun c_4 => ?_)
        · refine r_iconst (v := 0) dX9_often_61 (by decide) ?_
          have hp : (csB (rg B 11 (60 * t) 60) (B 12 t) (nI s)) k = false := by rw [cs_k hC hlen hk1 hs, decide_eq_true (p := B 11 (60 * t + k) = 91) (ni_eq (b := 91) (by omega) (by decide) c_2), decide_eq_false (p := B 11 (60 * t + k + 1) = 48 + s) (ni_ne (by omega) (by omega) c_4)] <;> rfl
          refine r_iadd dX9_often_62 ?_
          refine r_top (nI (cntB (csB (rg B 11 (60 * t) 60) (B 12 t) (nI s)) (k + 1))) (by show nI _ + 0 = nI (cntB (csB (rg B 11 (60 * t) 60) (B 12 t) (nI s)) k + (if (csB (rg B 11 (60 * t) 60) (B 12 t) (nI s)) k then 1 else 0)); rw [hp, if_neg (by decide)]; exact nI_add _ 0) ?_
          refine r_istore_n [(3, .int (nI (cntB (csB (rg B 11 (60 * t) 60) (B 12 t) (nI s)) (k + 1)))), (4, .int (nI k)), (0, .ref (ad 31 0)), (1, .int (nI t)), (2, .int (nI s))] dX9_often_63 rfl (by decide) rfl ?_
          refine r_iinc (nI (k + 1)) [(4, .int (nI (k + 1))), (3, .int (nI (cntB (csB (rg B 11 (60 * t) 60) (B 12 t) (nI s)) (k + 1)))), (0, .ref (ad 31 0)), (1, .int (nI t)), (2, .int (nI s))] dX9_often_64 1 rfl (nI_1 k) (by decide) rfl ?_
          refine r_goto 5 dX9_often_67 (by decide) ?_
          exact WP.loc [0, 1, 2, 3, 4] rfl (ih (k + 1) (Or.inr (by omega)) (by omega))
        · refine r_iconst (v := 1) dX9_often_57 (by decide) ?_
          refine r_goto 62 dX9_often_58 (by decide) ?_
          have hp : (csB (rg B 11 (60 * t) 60) (B 12 t) (nI s)) k = true := by rw [cs_k hC hlen hk1 hs, decide_eq_true (p := B 11 (60 * t + k) = 91) (ni_eq (b := 91) (by omega) (by decide) c_2), decide_eq_true (p := B 11 (60 * t + k + 1) = 48 + s) (ni_eq (by omega) (by omega) c_4)] <;> rfl
          refine r_iadd dX9_often_62 ?_
          refine r_top (nI (cntB (csB (rg B 11 (60 * t) 60) (B 12 t) (nI s)) (k + 1))) (by show nI _ + 1 = nI (cntB (csB (rg B 11 (60 * t) 60) (B 12 t) (nI s)) k + (if (csB (rg B 11 (60 * t) 60) (B 12 t) (nI s)) k then 1 else 0)); rw [hp, if_pos rfl]; exact nI_1 _) ?_
          refine r_istore_n [(3, .int (nI (cntB (csB (rg B 11 (60 * t) 60) (B 12 t) (nI s)) (k + 1)))), (4, .int (nI k)), (0, .ref (ad 31 0)), (1, .int (nI t)), (2, .int (nI s))] dX9_often_63 rfl (by decide) rfl ?_
          refine r_iinc (nI (k + 1)) [(4, .int (nI (k + 1))), (3, .int (nI (cntB (csB (rg B 11 (60 * t) 60) (B 12 t) (nI s)) (k + 1)))), (0, .ref (ad 31 0)), (1, .int (nI t)), (2, .int (nI s))] dX9_often_64 1 rfl (nI_1 k) (by decide) rfl ?_
          refine r_goto 5 dX9_often_67 (by decide) ?_
          exact WP.loc [0, 1, 2, 3, 4] rfl (ih (k + 1) (Or.inr (by omega)) (by omega))
set_option maxRecDepth 100000 in
set_option maxHeartbeats 4000000 in
theorem c_often {d b0 : Nat} {G : GH} {A B : ST} {ad : AD} (hW : World A B ad G) (hC : ∀ k, B 11 k < 65536) {t s : Nat} (ht : t < 30) (hs : s < 5) (hlen : B 12 t ≤ 60) : CTd mX9_often d b0 G [.ref (ad 31 0), .int (nI t), .int (nI s)] 0 0 (some (.int (nI (scn B t (nI s))))) G := by
  refine CT.intro (by decide +kernel) rfl (Nat.le_of_ble_eq_true rfl) ?_
  show WP mX9_often _ _ _ _ _ 0 0 0 [(0, .ref (ad 31 0)), (1, .int (nI t)), (2, .int (nI s))] []
  refine r_iconst (v := nI (cntB (csB (rg B 11 (60 * t) 60) (B 12 t) (nI s)) 0)) dX9_often_0 rfl ?_
  refine r_istore_n [(3, .int (nI (cntB (csB (rg B 11 (60 * t) 60) (B 12 t) (nI s)) 0))), (0, .ref (ad 31 0)), (1, .int (nI t)), (2, .int (nI s))] dX9_often_1 rfl (by decide) rfl ?_
  refine r_iconst (v := nI 0) dX9_often_2 (by decide) ?_
  refine r_istore [(4, .int (nI 0)), (3, .int (nI (cntB (csB (rg B 11 (60 * t) 60) (B 12 t) (nI s)) 0))), (0, .ref (ad 31 0)), (1, .int (nI t)), (2, .int (nI s))] dX9_often_3 (by decide) rfl ?_
  exact lp_X9_often hW hC ht hs hlen _ 0 (Or.inl rfl) (Nat.lt_succ_self _)
theorem scn_26 {B : ST} {v t : Nat} {sl : Int32} : scn (setA B 26 0 v) t sl = scn B t sl := by
  unfold scn
  rw [rg_set_f (by decide), setA_f (by decide)]
theorem scn_lt {B : ST} {t : Nat} {sl : Int32} (h : B 12 t ≤ 60) : scn B t sl < 2 ^ 31 := by
  have := cntB_le (csB (rg B 11 (60 * t) 60) (B 12 t) sl) (B 12 t)
  unfold scn
  omega
theorem sco_abs {p0 p1 p2 n0 n1 n2 : Nat} (h0 : n0 < 2 ^ 31) (h1 : n1 < 2 ^ 31) (h2 : n2 < 2 ^ 31) : (((true && (decide (p0 = 0) || decide ((-1 : Int32) = -1) || decide ((-1 : Int32) = nI n0))) && (decide (p1 = 0) || decide ((if p0 = 0 then (-1 : Int32) else nI n0) = -1) || decide ((if p0 = 0 then (-1 : Int32) else nI n0) = nI n1))) && (decide (p2 = 0) || decide ((if p1 = 0 then (if p0 = 0 then (-1 : Int32) else nI n0) else nI n1) = -1) || decide ((if p1 = 0 then (if p0 = 0 then (-1 : Int32) else nI n0) else nI n1) = nI n2))) = true ↔ (p0 ≠ 0 → p1 ≠ 0 → n0 = n1) ∧ (p0 ≠ 0 → p2 ≠ 0 → n0 = n2) ∧ (p1 ≠ 0 → p2 ≠ 0 → n1 = n2) := by
  have a0 : ¬ nI n0 = -1 := nI_nm1 h0
  have a1 : ¬ nI n1 = -1 := nI_nm1 h1
  have b01 : (nI n0 = nI n1) ↔ n0 = n1 := nI_eq h0 h1
  have b02 : (nI n0 = nI n2) ↔ n0 = n2 := nI_eq h0 h2
  have b12 : (nI n1 = nI n2) ↔ n1 = n2 := nI_eq h1 h2
  by_cases q0 : p0 = 0 <;> by_cases q1 : p1 = 0 <;> by_cases q2 : p2 = 0 <;> simp [q0, q1, q2, a0, a1, b01, b02, b12] <;> omega
theorem sco_all {A : ST} {c : Nat} {sl : Int32} (hb : ∀ a, a < 3 → A 12 (3 * c + a) ≤ 60) : sco A c sl 3 = true ↔ ∀ a b, a < 3 → b < 3 → A 12 (3 * c + a) ≠ 0 → A 12 (3 * c + b) ≠ 0 → scn A (3 * c + a) sl = scn A (3 * c + b) sl := by
  refine (sco_abs (p0 := A 12 (3 * c + 0)) (p1 := A 12 (3 * c + 1)) (p2 := A 12 (3 * c + 2)) (scn_lt (sl := sl) (hb 0 (by decide))) (scn_lt (sl := sl) (hb 1 (by decide))) (scn_lt (sl := sl) (hb 2 (by decide)))).trans ⟨fun h a b ha hb2 => ?_, fun h => ⟨h 0 1 (by decide) (by decide), h 0 2 (by decide) (by decide), h 1 2 (by decide) (by decide)⟩⟩
  obtain ⟨h1, h2, h3⟩ := h
  have ca : a = 0 ∨ a = 1 ∨ a = 2 := by omega
  have cb : b = 0 ∨ b = 1 ∨ b = 2 := by omega
  rcases ca with e | e | e <;> rcases cb with e2 | e2 | e2 <;> rw [e, e2] <;> intro g1 g2
  · rfl
  · exact h1 g1 g2
  · exact h2 g1 g2
  · exact (h1 g2 g1).symm
  · rfl
  · exact h3 g1 g2
  · exact (h2 g2 g1).symm
  · exact (h3 g2 g1).symm
  · rfl
def lkP (B : ST) (c k : Nat) : Bool := !(decide (0 < B 12 (3 * c + k / 5 % 3)) && decide (0 < B 12 (3 * c + k / 5 / 3))) || decide (scn B (3 * c + k / 5 % 3) (nI (k % 5)) = scn B (3 * c + k / 5 / 3) (nI (k % 5)))
theorem lkP_use {B : ST} {c k : Nat} (h : lkP B c k = true) (h1 : B 12 (3 * c + k / 5 % 3) ≠ 0) (h2 : B 12 (3 * c + k / 5 / 3) ≠ 0) : scn B (3 * c + k / 5 % 3) (nI (k % 5)) = scn B (3 * c + k / 5 / 3) (nI (k % 5)) := by
  unfold lkP at h
  rw [decide_eq_true (show 0 < B 12 (3 * c + k / 5 % 3) by omega), decide_eq_true (show 0 < B 12 (3 * c + k / 5 / 3) by omega)] at h
  exact of_decide_eq_true h
theorem lk_slk {B : ST} {c : Nat} (hb : ∀ a, a < 3 → B 12 (3 * c + a) ≤ 60) : allB (lkP B c) 45 = slk B c := by
  have h : allB (lkP B c) 45 = true ↔ slk B c = true := by
    unfold slk
    rw [allB_iff, allB_iff]
    refine ⟨fun h s hs => (sco_all hb).mpr (fun a b ha hb2 g1 g2 => ?_), fun h k hk => ?_⟩
    · have h9 := h (5 * (a + 3 * b) + s) (by omega)
      have e1 : (5 * (a + 3 * b) + s) / 5 % 3 = a := by omega
      have e2 : (5 * (a + 3 * b) + s) / 5 / 3 = b := by omega
      have e3 : (5 * (a + 3 * b) + s) % 5 = s := by omega
      have h8 := lkP_use h9
      rw [e1, e2, e3] at h8
      exact h8 g1 g2
    · have h9 := (sco_all hb).mp (h (k % 5) (by omega)) (k / 5 % 3) (k / 5 / 3) (by omega) (by omega)
      unfold lkP
      by_cases g1 : B 12 (3 * c + k / 5 % 3) = 0
      · rw [decide_eq_false (show ¬ 0 < B 12 (3 * c + k / 5 % 3) by omega)]; rfl
      · by_cases g2 : B 12 (3 * c + k / 5 / 3) = 0
        · rw [decide_eq_false (show ¬ 0 < B 12 (3 * c + k / 5 / 3) by omega), Bool.and_false]; rfl
        · rw [decide_eq_true (h9 g1 g2), Bool.or_true]
  cases h1 : allB (lkP B c) 45 with
  | true => exact (h.mp h1).symm
  | false =>
    cases h2 : slk B c with
    | false => rfl
    | true => rw [h.mpr h2] at h1; cases h1
set_option maxRecDepth 100000 in
set_option maxHeartbeats 4000000 in
theorem lp_X9_isLinked {d b0 : Nat} {G : GH} {A B : ST} {ad : AD} (hW : World A (setA B 26 0 0) ad G) (hI : Inv B) {c : Nat} (hc : c < B 9 0) : ∀ (fu : Nat) (k : Nat), k ≤ 45 → 45 - k < fu → WP mX9_isLinked (d + 4) b0 (MPo (b2i (slk B c)) 0 B A ad) (fun _ _ => False) G 0 0 26 [(3, .int (nI k)), (2, .int (b2i (allB (lkP B c) k))), (0, .ref (ad 31 0)), (1, .int (nI c))] [] := by
  intro fu
  induction fu with
  | zero => intro k hinv hn; exact absurd hn (Nat.not_lt_zero _)
  | succ fu ih =>
    intro k hinv hn
    have hb9 := hI.b9
    refine r_iload_n dX9_isLinked_26 rfl 0 rfl ?_
    refine r_bipush (v := 45) dX9_isLinked_27 (by decide) ?_
    refine r_icmp_ge 123 dX9_isLinked_29 (by decide) (fun c_1 => ?_) (fun c_1 => ?_)
    · refine r_iload_n dX9_isLinked_123 rfl 1 rfl ?_
      refine r_ret .boolean dX9_isLinked_124 rfl b2i_Z ?_
      have hk : k = 45 := by have := ni_le (a := 45) (by decide) (by omega) c_1; omega
      exact ⟨by rw [hk, lk_slk (fun a ha => (hI.tx _ (by omega)).1)], (setA B 26 0 0), hW, rfl, (s26 (fun f _ => rfl))⟩
    · have hk0 : k < 45 := ni_nle (b := k) (a := 45) (by decide) (by omega) c_1
      have hta := (hI.tx (3 * c + (k / 5 % 3)) (by omega)).1
      have htb := (hI.tx (3 * c + (k / 5 / 3)) (by omega)).1
      have h5 := pk_div (a := k) (d := 5) (by omega) (by decide) (by decide)
      have h3 := pk_rem (a := k / 5) (d := 3) (by omega) (by decide) (by decide)
      have h33 := pk_div (a := k / 5) (d := 3) (by omega) (by decide) (by decide)
      have hr5 := pk_rem (a := k) (d := 5) (by omega) (by decide) (by decide)
      refine r_iload_n dX9_isLinked_32 rfl 3 rfl ?_
      refine r_iload_n dX9_isLinked_33 rfl 0 rfl ?_
      refine r_iconst (v := 5) dX9_isLinked_34 (by decide) ?_
      refine r_idiv dX9_isLinked_35 (by decide) ?_
      refine r_top (nI (k / 5)) h5 ?_
      refine r_iconst (v := 3) dX9_isLinked_36 (by decide) ?_
      refine r_irem dX9_isLinked_37 (by decide) ?_
      refine r_top (nI (k / 5 % 3)) h3 ?_
      refine r_callS (st := []) [.int (nI c), .int (nI (k / 5 % 3))] 0 0 dX9_isLinked_38 kX9_at nX9_at lRX9_128 (c_mat c (k / 5 % 3)) rfl rfl (Nat.le_of_ble_eq_true rfl) (Nat.le_refl _) (Nat.le_refl _) (fun _ _ h => h.elim) ?_
      refine cx_det (st2 := [.int (nI (3 * c + (k / 5 % 3)))]) rfl ?_
      refine r_istore [(4, .int (nI (3 * c + (k / 5 % 3)))), (3, .int (nI k)), (2, .int (b2i (allB (lkP B c) k))), (0, .ref (ad 31 0)), (1, .int (nI c))] dX9_isLinked_41 (by decide) rfl ?_
      refine r_iload_n dX9_isLinked_43 rfl 4 rfl ?_
      refine r_iload_n dX9_isLinked_44 rfl 1 rfl ?_
      refine r_iconst (v := 5) dX9_isLinked_45 (by decide) ?_
      refine r_idiv dX9_isLinked_46 (by decide) ?_
      refine r_top (nI (k / 5)) h5 ?_
      refine r_iconst (v := 3) dX9_isLinked_47 (by decide) ?_
      refine r_idiv dX9_isLinked_48 (by decide) ?_
      refine r_top (nI (k / 5 / 3)) h33 ?_
      refine r_callS (st := []) [.int (nI c), .int (nI (k / 5 / 3))] 0 0 dX9_isLinked_49 kX9_at nX9_at lRX9_128 (c_mat c (k / 5 / 3)) rfl rfl (Nat.le_of_ble_eq_true rfl) (Nat.le_refl _) (Nat.le_refl _) (fun _ _ h => h.elim) ?_
      refine cx_det (st2 := [.int (nI (3 * c + (k / 5 / 3)))]) rfl ?_
      refine r_istore [(5, .int (nI (3 * c + (k / 5 / 3)))), (4, .int (nI (3 * c + (k / 5 % 3)))), (3, .int (nI k)), (2, .int (b2i (allB (lkP B c) k))), (0, .ref (ad 31 0)), (1, .int (nI c))] dX9_isLinked_52 (by decide) rfl ?_
      refine r_aload_n dX9_isLinked_54 rfl 4 rfl ?_
      refine r_get 12 dX9_isLinked_55 fRX9_38 (hW.g 31 0 rfl) rfl ?_
      refine r_iload dX9_isLinked_58 1 rfl ?_
      refine r_iald dX9_isLinked_60 (hW.g 32 12 rfl) (vp_in_nI (by omega) (by decide)) ?_
      refine r_top (nI (B 12 (3 * c + (k / 5 % 3)))) (by rw [nI_cl (by omega)]; exact rgm (by omega)) ?_
      refine r_if_le 78 dX9_isLinked_61 (by decide) (fun c_4 => ?_) (fun c_4 => ?_)
      · refine r_iconst (v := 0) dX9_isLinked_78 (by decide) ?_
        refine r_istore [(6, .int 0), (5, .int (nI (3 * c + (k / 5 / 3)))), (4, .int (nI (3 * c + (k / 5 % 3)))), (3, .int (nI k)), (2, .int (b2i (allB (lkP B c) k))), (0, .ref (ad 31 0)), (1, .int (nI c))] dX9_isLinked_79 (by decide) rfl ?_
        refine r_iload_n dX9_isLinked_81 rfl 4 rfl ?_
        refine r_if_eq 115 dX9_isLinked_82 (by decide) (fun c_5 => ?_) (fun c_5 => ?_)
        · refine r_iconst (v := b2i (allB (lkP B c) (k + 1))) dX9_isLinked_115 (by show _ = b2i (allB (lkP B c) k && lkP B c k); rw [b2i_0 c_5] <;> rfl) ?_
          refine r_istore_n [(2, .int (b2i (allB (lkP B c) (k + 1)))), (6, .int 0), (5, .int (nI (3 * c + (k / 5 / 3)))), (4, .int (nI (3 * c + (k / 5 % 3)))), (3, .int (nI k)), (0, .ref (ad 31 0)), (1, .int (nI c))] dX9_isLinked_116 rfl (by decide) rfl ?_
          refine r_iinc (nI (k + 1)) [(3, .int (nI (k + 1))), (2, .int (b2i (allB (lkP B c) (k + 1)))), (6, .int 0), (5, .int (nI (3 * c + (k / 5 / 3)))), (4, .int (nI (3 * c + (k / 5 % 3)))), (0, .ref (ad 31 0)), (1, .int (nI c))] dX9_isLinked_117 4 rfl (nI_1 k) (by decide) rfl ?_
          refine r_goto 26 dX9_isLinked_120 (by decide) ?_
          exact WP.loc [0, 1, 5, 6] rfl (ih (k + 1) (by omega) (by omega))
        · refine r_iload dX9_isLinked_85 0 rfl ?_
          refine r_if_eq 111 dX9_isLinked_87 (by decide) (fun c_7 => ?_) (fun c_7 => absurd (by decide) c_7)
          have hlk : lkP B c k = true := by unfold lkP; rw [decide_eq_false (show ¬ 0 < B 12 (3 * c + (k / 5 % 3)) by have h9 := ni_le (b := 0) (by omega) (by decide) c_4; omega)]; rfl
          refine r_iconst (v := b2i (allB (lkP B c) (k + 1))) dX9_isLinked_111 (by show _ = b2i (allB (lkP B c) k && lkP B c k); rw [b2i_n0 c_5, hlk] <;> rfl) ?_
          refine r_goto 116 dX9_isLinked_112 (by decide) ?_
          refine r_istore_n [(2, .int (b2i (allB (lkP B c) (k + 1)))), (6, .int 0), (5, .int (nI (3 * c + (k / 5 / 3)))), (4, .int (nI (3 * c + (k / 5 % 3)))), (3, .int (nI k)), (0, .ref (ad 31 0)), (1, .int (nI c))] dX9_isLinked_116 rfl (by decide) rfl ?_
          refine r_iinc (nI (k + 1)) [(3, .int (nI (k + 1))), (2, .int (b2i (allB (lkP B c) (k + 1)))), (6, .int 0), (5, .int (nI (3 * c + (k / 5 / 3)))), (4, .int (nI (3 * c + (k / 5 % 3)))), (0, .ref (ad 31 0)), (1, .int (nI c))] dX9_isLinked_117 4 rfl (nI_1 k) (by decide) rfl ?_
          refine r_goto 26 dX9_isLinked_120 (by decide) ?_
          exact WP.loc [0, 1, 5, 6] rfl (ih (k + 1) (by omega) (by omega))
      · refine r_aload_n dX9_isLinked_64 rfl 4 rfl ?_
        refine r_get 12 dX9_isLinked_65 fRX9_38 (hW.g 31 0 rfl) rfl ?_
        refine r_iload dX9_isLinked_68 0 rfl ?_
        refine r_iald dX9_isLinked_70 (hW.g 32 12 rfl) (vp_in_nI (by omega) (by decide)) ?_
        refine r_top (nI (B 12 (3 * c + (k / 5 / 3)))) (by rw [nI_cl (by omega)]; exact rgm (by omega)) ?_
        refine r_if_le 78 dX9_isLinked_71 (by decide) (fun c_9 => ?_) (fun c_9 => ?_)
        · refine r_iconst (v := 0) dX9_isLinked_78 (by decide) ?_
          refine r_istore [(6, .int 0), (5, .int (nI (3 * c + (k / 5 / 3)))), (4, .int (nI (3 * c + (k / 5 % 3)))), (3, .int (nI k)), (2, .int (b2i (allB (lkP B c) k))), (0, .ref (ad 31 0)), (1, .int (nI c))] dX9_isLinked_79 (by decide) rfl ?_
          refine r_iload_n dX9_isLinked_81 rfl 4 rfl ?_
          refine r_if_eq 115 dX9_isLinked_82 (by decide) (fun c_10 => ?_) (fun c_10 => ?_)
          · refine r_iconst (v := b2i (allB (lkP B c) (k + 1))) dX9_isLinked_115 (by show _ = b2i (allB (lkP B c) k && lkP B c k); rw [b2i_0 c_10] <;> rfl) ?_
            refine r_istore_n [(2, .int (b2i (allB (lkP B c) (k + 1)))), (6, .int 0), (5, .int (nI (3 * c + (k / 5 / 3)))), (4, .int (nI (3 * c + (k / 5 % 3)))), (3, .int (nI k)), (0, .ref (ad 31 0)), (1, .int (nI c))] dX9_isLinked_116 rfl (by decide) rfl ?_
            refine r_iinc (nI (k + 1)) [(3, .int (nI (k + 1))), (2, .int (b2i (allB (lkP B c) (k + 1)))), (6, .int 0), (5, .int (nI (3 * c + (k / 5 / 3)))), (4, .int (nI (3 * c + (k / 5 % 3)))), (0, .ref (ad 31 0)), (1, .int (nI c))] dX9_isLinked_117 4 rfl (nI_1 k) (by decide) rfl ?_
            refine r_goto 26 dX9_isLinked_120 (by decide) ?_
            exact WP.loc [0, 1, 5, 6] rfl (ih (k + 1) (by omega) (by omega))
          · refine r_iload dX9_isLinked_85 0 rfl ?_
            refine r_if_eq 111 dX9_isLinked_87 (by decide) (fun c_12 => ?_) (fun c_12 => absurd (by decide) c_12)
            have hlk : lkP B c k = true := by unfold lkP; rw [decide_eq_false (show ¬ 0 < B 12 (3 * c + (k / 5 / 3)) by have h9 := ni_le (b := 0) (by omega) (by decide) c_9; omega), Bool.and_false]; rfl
            refine r_iconst (v := b2i (allB (lkP B c) (k + 1))) dX9_isLinked_111 (by show _ = b2i (allB (lkP B c) k && lkP B c k); rw [b2i_n0 c_10, hlk] <;> rfl) ?_
            refine r_goto 116 dX9_isLinked_112 (by decide) ?_
            refine r_istore_n [(2, .int (b2i (allB (lkP B c) (k + 1)))), (6, .int 0), (5, .int (nI (3 * c + (k / 5 / 3)))), (4, .int (nI (3 * c + (k / 5 % 3)))), (3, .int (nI k)), (0, .ref (ad 31 0)), (1, .int (nI c))] dX9_isLinked_116 rfl (by decide) rfl ?_
            refine r_iinc (nI (k + 1)) [(3, .int (nI (k + 1))), (2, .int (b2i (allB (lkP B c) (k + 1)))), (6, .int 0), (5, .int (nI (3 * c + (k / 5 / 3)))), (4, .int (nI (3 * c + (k / 5 % 3)))), (0, .ref (ad 31 0)), (1, .int (nI c))] dX9_isLinked_117 4 rfl (nI_1 k) (by decide) rfl ?_
            refine r_goto 26 dX9_isLinked_120 (by decide) ?_
            exact WP.loc [0, 1, 5, 6] rfl (ih (k + 1) (by omega) (by omega))
        · refine r_iconst (v := 1) dX9_isLinked_74 (by decide) ?_
          refine r_goto 79 dX9_isLinked_75 (by decide) ?_
          refine r_istore [(6, .int 1), (5, .int (nI (3 * c + (k / 5 / 3)))), (4, .int (nI (3 * c + (k / 5 % 3)))), (3, .int (nI k)), (2, .int (b2i (allB (lkP B c) k))), (0, .ref (ad 31 0)), (1, .int (nI c))] dX9_isLinked_79 (by decide) rfl ?_
          refine r_iload_n dX9_isLinked_81 rfl 4 rfl ?_
          refine r_if_eq 115 dX9_isLinked_82 (by decide) (fun c_14 => ?_) (fun c_14 => ?_)
          · refine r_iconst (v := b2i (allB (lkP B c) (k + 1))) dX9_isLinked_115 (by show _ = b2i (allB (lkP B c) k && lkP B c k); rw [b2i_0 c_14] <;> rfl) ?_
            refine r_istore_n [(2, .int (b2i (allB (lkP B c) (k + 1)))), (6, .int 1), (5, .int (nI (3 * c + (k / 5 / 3)))), (4, .int (nI (3 * c + (k / 5 % 3)))), (3, .int (nI k)), (0, .ref (ad 31 0)), (1, .int (nI c))] dX9_isLinked_116 rfl (by decide) rfl ?_
            refine r_iinc (nI (k + 1)) [(3, .int (nI (k + 1))), (2, .int (b2i (allB (lkP B c) (k + 1)))), (6, .int 1), (5, .int (nI (3 * c + (k / 5 / 3)))), (4, .int (nI (3 * c + (k / 5 % 3)))), (0, .ref (ad 31 0)), (1, .int (nI c))] dX9_isLinked_117 4 rfl (nI_1 k) (by decide) rfl ?_
            refine r_goto 26 dX9_isLinked_120 (by decide) ?_
            exact WP.loc [0, 1, 5, 6] rfl (ih (k + 1) (by omega) (by omega))
          · refine r_iload dX9_isLinked_85 0 rfl ?_
            refine r_if_eq 111 dX9_isLinked_87 (by decide) (fun c_16 => absurd c_16 (by decide)) (fun c_16 => ?_)
            refine r_aload_n dX9_isLinked_90 rfl 5 rfl ?_
            refine r_iload dX9_isLinked_91 2 rfl ?_
            refine r_iload_n dX9_isLinked_93 rfl 3 rfl ?_
            refine r_iconst (v := 5) dX9_isLinked_94 (by decide) ?_
            refine r_irem dX9_isLinked_95 (by decide) ?_
            refine r_top (nI (k % 5)) hr5 ?_
            have ho_96 := c_often (d := d + 3) (b0 := b0) hW hI.ch.2.2.2.2 (t := 3 * c + (k / 5 % 3)) (s := k % 5) (by omega) (by omega) hta
            rw [scn_26] at ho_96
            refine r_callV (st := []) [.int (nI (3 * c + (k / 5 % 3))), .int (nI (k % 5))] 0 0 dX9_isLinked_96 kX9_often nX9_often lRX9_132 (hW.g 31 0 rfl) rfl ho_96 rfl rfl (Nat.le_of_ble_eq_true rfl) (Nat.le_refl _) (Nat.le_refl _) (fun _ _ h => h.elim) ?_
            refine cx_det (st2 := [.int (nI (scn B (3 * c + (k / 5 % 3)) (nI (k % 5))))]) rfl ?_
            refine r_aload_n dX9_isLinked_99 rfl 5 rfl ?_
            refine r_iload dX9_isLinked_100 1 rfl ?_
            refine r_iload_n dX9_isLinked_102 rfl 3 rfl ?_
            refine r_iconst (v := 5) dX9_isLinked_103 (by decide) ?_
            refine r_irem dX9_isLinked_104 (by decide) ?_
            refine r_top (nI (k % 5)) hr5 ?_
            have ho_105 := c_often (d := d + 3) (b0 := b0) hW hI.ch.2.2.2.2 (t := 3 * c + (k / 5 / 3)) (s := k % 5) (by omega) (by omega) htb
            rw [scn_26] at ho_105
            refine r_callV (st := [.int (nI (scn B (3 * c + (k / 5 % 3)) (nI (k % 5))))]) [.int (nI (3 * c + (k / 5 / 3))), .int (nI (k % 5))] 0 0 dX9_isLinked_105 kX9_often nX9_often lRX9_132 (hW.g 31 0 rfl) rfl ho_105 rfl rfl (Nat.le_of_ble_eq_true rfl) (Nat.le_refl _) (Nat.le_refl _) (fun _ _ h => h.elim) ?_
            refine cx_det (st2 := [.int (nI (scn B (3 * c + (k / 5 / 3)) (nI (k % 5)))), .int (nI (scn B (3 * c + (k / 5 % 3)) (nI (k % 5))))]) rfl ?_
            refine r_icmp_ne 115 dX9_isLinked_108 (by decide) (fun c_17 => ?_) (fun c_17 => ?_)
            · have hlk : lkP B c k = false := by unfold lkP; rw [decide_eq_true (ni_gt0 c_4), decide_eq_true (ni_gt0 c_9), decide_eq_false (ni_ne (scn_lt hta) (scn_lt htb) c_17)]; rfl
              refine r_iconst (v := b2i (allB (lkP B c) (k + 1))) dX9_isLinked_115 (by show _ = b2i (allB (lkP B c) k && lkP B c k); rw [b2i_n0 c_14, hlk] <;> rfl) ?_
              refine r_istore_n [(2, .int (b2i (allB (lkP B c) (k + 1)))), (6, .int 1), (5, .int (nI (3 * c + (k / 5 / 3)))), (4, .int (nI (3 * c + (k / 5 % 3)))), (3, .int (nI k)), (0, .ref (ad 31 0)), (1, .int (nI c))] dX9_isLinked_116 rfl (by decide) rfl ?_
              refine r_iinc (nI (k + 1)) [(3, .int (nI (k + 1))), (2, .int (b2i (allB (lkP B c) (k + 1)))), (6, .int 1), (5, .int (nI (3 * c + (k / 5 / 3)))), (4, .int (nI (3 * c + (k / 5 % 3)))), (0, .ref (ad 31 0)), (1, .int (nI c))] dX9_isLinked_117 4 rfl (nI_1 k) (by decide) rfl ?_
              refine r_goto 26 dX9_isLinked_120 (by decide) ?_
              exact WP.loc [0, 1, 5, 6] rfl (ih (k + 1) (by omega) (by omega))
            · have hlk : lkP B c k = true := by unfold lkP; rw [decide_eq_true (ni_eq (scn_lt hta) (scn_lt htb) c_17), Bool.or_true]
              refine r_iconst (v := b2i (allB (lkP B c) (k + 1))) dX9_isLinked_111 (by show _ = b2i (allB (lkP B c) k && lkP B c k); rw [b2i_n0 c_14, hlk] <;> rfl) ?_
              refine r_goto 116 dX9_isLinked_112 (by decide) ?_
              refine r_istore_n [(2, .int (b2i (allB (lkP B c) (k + 1)))), (6, .int 1), (5, .int (nI (3 * c + (k / 5 / 3)))), (4, .int (nI (3 * c + (k / 5 % 3)))), (3, .int (nI k)), (0, .ref (ad 31 0)), (1, .int (nI c))] dX9_isLinked_116 rfl (by decide) rfl ?_
              refine r_iinc (nI (k + 1)) [(3, .int (nI (k + 1))), (2, .int (b2i (allB (lkP B c) (k + 1)))), (6, .int 1), (5, .int (nI (3 * c + (k / 5 / 3)))), (4, .int (nI (3 * c + (k / 5 % 3)))), (0, .ref (ad 31 0)), (1, .int (nI c))] dX9_isLinked_117 4 rfl (nI_1 k) (by decide) rfl ?_
              refine r_goto 26 dX9_isLinked_120 (by decide) ?_
              exact WP.loc [0, 1, 5, 6] rfl (ih (k + 1) (by omega) (by omega))
set_option maxRecDepth 100000 in
set_option maxHeartbeats 4000000 in
theorem m_isLinked_0 {d b0 : Nat} {G : GH} {A B : ST} {ad : AD} (hW : World A B ad G) (hI : Inv B) {c : Nat} (hc : c < B 9 0) : CT mX9_isLinked (d + 4) b0 G [.ref (ad 31 0), .int (nI c)] 0 0 (MPo (b2i (slk B c)) 0 B A ad) (fun _ _ => False) := by
  have hb0 := hI.b0
  have hb2 := hI.b2
  have hb9 := hI.b9
  have hb15 := hI.b15
  have hb18 := hI.b18
  refine CT.intro (by decide +kernel) rfl (Nat.le_of_ble_eq_true rfl) ?_
  show WP mX9_isLinked _ _ _ _ _ 0 0 0 [(0, .ref (ad 31 0)), (1, .int (nI c))] []
  refine r_aload_n dX9_isLinked_0 rfl 0 rfl ?_
  refine r_aload_n dX9_isLinked_1 rfl 0 rfl ?_
  refine r_iload_n dX9_isLinked_2 rfl 1 rfl ?_
  refine r_callV (st := [.ref (ad 31 0)]) [.int (nI c)] 0 0 dX9_isLinked_3 kX9_isClause nX9_isClause lRX9_125 (hW.g 31 0 rfl) rfl (c_X9_isClause hW (Nat.le_trans hb9 (by decide)) (nI c)) rfl rfl (Nat.le_of_ble_eq_true rfl) (Nat.le_refl _) (Nat.le_refl _) (fun _ _ h => h.elim) ?_
  refine cx_det (st2 := [.int (b2i (inB (nI c) (B 9 0))), .ref (ad 31 0)]) rfl ?_
  refine r_if_eq 13 dX9_isLinked_6 (by decide) (fun c_1 => absurd c_1 (b2i_no (inB_k hc (by omega)))) (fun c_1 => ?_)
  refine r_iconst (v := 0) dX9_isLinked_9 (by decide) ?_
  refine r_goto 14 dX9_isLinked_10 (by decide) ?_
  refine r_callV (st := []) [.int 0] 0 0 dX9_isLinked_14 kX9_goes nX9_goes lRX9_92 (hW.g 31 0 rfl) rfl (c_goes hW 0) rfl rfl (Nat.le_of_ble_eq_true rfl) (Nat.le_refl _) (Nat.le_refl _) (fun _ _ h => h.elim) ?_
  refine cx_det (st2 := [.int 1]) rfl ?_
  have hW_2 : World A (setA B 26 0 0) ad (va_up G (ad 31 0) (some (.inr (9, (mF B ad).set 26 (.int (nI 0)))))) := m_s26 hW 0
  refine r_heap (G' := va_up G (ad 31 0) (some (.inr (9, (mF B ad).set 26 (.int (nI 0)))))) rfl ?_
  refine r_if_ne 22 dX9_isLinked_17 (by decide) (fun c_3 => ?_) (fun c_3 => absurd c_3 (by decide))
  refine r_iconst (v := b2i (allB (lkP B c) 0)) dX9_isLinked_22 rfl ?_
  refine r_istore_n [(2, .int (b2i (allB (lkP B c) 0))), (0, .ref (ad 31 0)), (1, .int (nI c))] dX9_isLinked_23 rfl (by decide) rfl ?_
  refine r_iconst (v := nI 0) dX9_isLinked_24 (by decide) ?_
  refine r_istore_n [(3, .int (nI 0)), (2, .int (b2i (allB (lkP B c) 0))), (0, .ref (ad 31 0)), (1, .int (nI c))] dX9_isLinked_25 rfl (by decide) rfl ?_
  exact lp_X9_isLinked hW_2 hI hc _ 0 (Nat.zero_le _) (Nat.lt_succ_self _)
set_option maxRecDepth 100000 in
set_option maxHeartbeats 4000000 in
theorem m_isLinked_1 {d b0 : Nat} {G : GH} {A B : ST} {ad : AD} (hW : World A B ad G) (hI : Inv B) {x : Int32} (hx : inB x (B 9 0) = false) : CT mX9_isLinked (d + 4) b0 G [.ref (ad 31 0), .int x] 0 0 (MPo 0 1 B A ad) (fun _ _ => False) := by
  have hb0 := hI.b0
  have hb2 := hI.b2
  have hb9 := hI.b9
  have hb15 := hI.b15
  have hb18 := hI.b18
  refine CT.intro (by decide +kernel) rfl (Nat.le_of_ble_eq_true rfl) ?_
  show WP mX9_isLinked _ _ _ _ _ 0 0 0 [(0, .ref (ad 31 0)), (1, .int x)] []
  refine r_aload_n dX9_isLinked_0 rfl 0 rfl ?_
  refine r_aload_n dX9_isLinked_1 rfl 0 rfl ?_
  refine r_iload_n dX9_isLinked_2 rfl 1 rfl ?_
  refine r_callV (st := [.ref (ad 31 0)]) [.int x] 0 0 dX9_isLinked_3 kX9_isClause nX9_isClause lRX9_125 (hW.g 31 0 rfl) rfl (c_X9_isClause hW (Nat.le_trans hb9 (by decide)) x) rfl rfl (Nat.le_of_ble_eq_true rfl) (Nat.le_refl _) (Nat.le_refl _) (fun _ _ h => h.elim) ?_
  refine cx_det (st2 := [.int (b2i (inB x (B 9 0))), .ref (ad 31 0)]) rfl ?_
  refine r_if_eq 13 dX9_isLinked_6 (by decide) (fun c_1 => ?_) (fun c_1 => absurd (b2i_z hx) c_1)
  refine r_iconst (v := 1) dX9_isLinked_13 (by decide) ?_
  refine r_callV (st := []) [.int 1] 0 0 dX9_isLinked_14 kX9_goes nX9_goes lRX9_92 (hW.g 31 0 rfl) rfl (c_goes hW 1) rfl rfl (Nat.le_of_ble_eq_true rfl) (Nat.le_refl _) (Nat.le_refl _) (fun _ _ h => h.elim) ?_
  refine cx_det (st2 := [.int 0]) rfl ?_
  have hW_2 : World A (setA B 26 0 1) ad (va_up G (ad 31 0) (some (.inr (9, (mF B ad).set 26 (.int (nI 1)))))) := m_s26 hW 1
  refine r_heap (G' := va_up G (ad 31 0) (some (.inr (9, (mF B ad).set 26 (.int (nI 1)))))) rfl ?_
  refine r_if_ne 22 dX9_isLinked_17 (by decide) (fun c_3 => absurd (by decide) c_3) (fun c_3 => ?_)
  refine r_iconst (v := 0) dX9_isLinked_20 (by decide) ?_
  refine r_ret .boolean dX9_isLinked_21 rfl rfl ?_
  exact ⟨rfl, (setA B 26 0 1), hW_2, rfl, (s26 (fun f _ => rfl))⟩
set_option maxRecDepth 100000 in
set_option maxHeartbeats 4000000 in
theorem c_mmeets {d b0 : Nat} {G : GH} {A B : ST} {ad : AD} (hW : World A B ad G) {t c : Nat} (ht : t < 8) (hc : c < 10) : CTd mX9_meets d b0 G [.ref (ad 31 0), .int (nI t), .int (nI c)] 0 0 (some (.int (b2i (meB B t c)))) G := by
  refine CT.intro (by decide +kernel) rfl (Nat.le_of_ble_eq_true rfl) ?_
  show WP mX9_meets _ _ _ _ _ 0 0 0 [(0, .ref (ad 31 0)), (1, .int (nI t)), (2, .int (nI c))] []
  refine r_aload_n dX9_meets_0 rfl 0 rfl ?_
  refine r_get 10 dX9_meets_1 fRX9_32 (hW.g 31 0 rfl) rfl ?_
  refine r_iload_n dX9_meets_4 rfl 2 rfl ?_
  refine r_iald dX9_meets_5 (hW.g 32 10 rfl) (vp_in_nI (by omega) (by decide)) ?_
  refine r_top (nI (B 10 c) - 1) (by rw [nI_cl (by omega), if_pos (by omega)] <;> rfl) ?_
  refine r_iconst (v := (-1)) dX9_meets_6 (by decide) ?_
  refine r_icmp_eq 29 dX9_meets_7 (by decide) (fun c_1 => ?_) (fun c_1 => ?_)
  · refine r_iconst (v := 1) dX9_meets_29 (by decide) ?_
    refine r_goto 34 dX9_meets_30 (by decide) ?_
    refine r_ret .boolean dX9_meets_34 rfl rfl ?_
    exact ⟨by rw [← meI_b]; unfold meI s_X1_meets; rw [if_pos c_1], rfl⟩
  · refine r_aload_n dX9_meets_10 rfl 0 rfl ?_
    refine r_get 20 dX9_meets_11 fRX9_57 (hW.g 31 0 rfl) rfl ?_
    refine r_iload_n dX9_meets_14 rfl 1 rfl ?_
    refine r_iald dX9_meets_15 (hW.g 32 20 rfl) (vp_in_nI (by omega) (by decide)) ?_
    refine r_top (nI (B 20 t)) (by rw [nI_cl (by omega)]; exact rgm (by omega)) ?_
    refine r_aload_n dX9_meets_16 rfl 0 rfl ?_
    refine r_get 10 dX9_meets_17 fRX9_32 (hW.g 31 0 rfl) rfl ?_
    refine r_iload_n dX9_meets_20 rfl 2 rfl ?_
    refine r_iald dX9_meets_21 (hW.g 32 10 rfl) (vp_in_nI (by omega) (by decide)) ?_
    refine r_top (nI (B 10 c) - 1) (by rw [nI_cl (by omega), if_pos (by omega)] <;> rfl) ?_
    refine r_ishr dX9_meets_22 ?_
    refine r_iconst (v := 1) dX9_meets_23 (by decide) ?_
    refine r_iand dX9_meets_24 ?_
    refine r_iconst (v := 1) dX9_meets_25 (by decide) ?_
    refine r_icmp_ne 33 dX9_meets_26 (by decide) (fun c_2 => ?_) (fun c_2 => ?_)
    · refine r_iconst (v := 0) dX9_meets_33 (by decide) ?_
      refine r_ret .boolean dX9_meets_34 rfl rfl ?_
      exact ⟨by rw [← meI_b]; unfold meI s_X1_meets; rw [if_neg c_1, if_neg c_2], rfl⟩
    · refine r_iconst (v := 1) dX9_meets_29 (by decide) ?_
      refine r_goto 34 dX9_meets_30 (by decide) ?_
      refine r_ret .boolean dX9_meets_34 rfl rfl ?_
      exact ⟨by rw [← meI_b]; unfold meI s_X1_meets; rw [if_neg c_1, if_pos c_2], rfl⟩
