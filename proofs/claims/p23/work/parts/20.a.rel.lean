/-- the law's rows (B 1 to B 5: m, c, l, d, p) tell the class's numbers A -/
def Rl (A B : ST) : Prop :=
  (B 1 0 = A 2 0 ∧ B 1 1 = A 9 0 ∧ B 1 2 = A 15 0 ∧ B 1 3 = A 18 0 ∧ B 1 4 = A 0 0) ∧ A 9 0 ≤ 9 ∧
  (∀ k, k < 9 → (k < A 9 0 → B 2 (7 * k) = A 10 k) ∧ ∀ g, g < 3 → B 2 (7 * k + 1 + g) = (if A 12 (3 * k + g) = 0 then 0 else 1) ∧ B 2 (7 * k + 4 + g) = A 13 (3 * k + g)) ∧
  (∀ i, i < 6 → B 3 (7 * i) = A 17 i ∧ ∀ k, k < A 17 i → B 3 (7 * i + 1 + k) = A 16 (6 * i + k)) ∧
  (∀ e, e < A 18 0 → B 4 e = A 20 e) ∧
  (∀ g, g < 3 → B 5 g = A 21 g)
section RL0
variable {A B : ST} (h : Rl A B)
theorem Rl.m0 (h : Rl A B) : B 1 0 = A 2 0 := h.1.1
theorem Rl.m1 (h : Rl A B) : B 1 1 = A 9 0 := h.1.2.1
theorem Rl.m2 (h : Rl A B) : B 1 2 = A 15 0 := h.1.2.2.1
theorem Rl.m3 (h : Rl A B) : B 1 3 = A 18 0 := h.1.2.2.2.1
theorem Rl.m4 (h : Rl A B) : B 1 4 = A 0 0 := h.1.2.2.2.2
theorem Rl.n9 (h : Rl A B) : A 9 0 ≤ 9 := h.2.1
theorem Rl.c0 (h : Rl A B) {k : Nat} (hk : k < A 9 0) : B 2 (7 * k) = A 10 k := (h.2.2.1 k (Nat.lt_of_lt_of_le hk h.2.1)).1 hk
theorem Rl.c1 (h : Rl A B) {k g : Nat} (hk : k < 9) (hg : g < 3) : B 2 (7 * k + 1 + g) = (if A 12 (3 * k + g) = 0 then 0 else 1) := ((h.2.2.1 k hk).2 g hg).1
theorem Rl.c4 (h : Rl A B) {k g : Nat} (hk : k < 9) (hg : g < 3) : B 2 (7 * k + 4 + g) = A 13 (3 * k + g) := ((h.2.2.1 k hk).2 g hg).2
theorem Rl.l0 (h : Rl A B) {i : Nat} (hi : i < 6) : B 3 (7 * i) = A 17 i := (h.2.2.2.1 i hi).1
theorem Rl.l1 (h : Rl A B) {i k : Nat} (hi : i < 6) (hk : k < A 17 i) : B 3 (7 * i + 1 + k) = A 16 (6 * i + k) := (h.2.2.2.1 i hi).2 k hk
theorem Rl.d0 (h : Rl A B) {e : Nat} (he : e < A 18 0) : B 4 e = A 20 e := h.2.2.2.2.1 e he
theorem Rl.p0 (h : Rl A B) {g : Nat} (hg : g < 3) : B 5 g = A 21 g := h.2.2.2.2.2 g hg
end RL0
/-- only the buffer is another -/
def Kp (A A2 : ST) : Prop := ∀ f, f < 22 → f ≠ 0 → f ≠ 1 → A2 f = A f
theorem Kp.rf {A : ST} : Kp A A := fun _ _ _ _ => rfl
theorem Kp.tr {A A2 A3 : ST} (h : Kp A A2) (g : Kp A2 A3) : Kp A A3 := fun f h1 h2 h3 => (g f h1 h2 h3).trans (h f h1 h2 h3)
theorem Kp.e {A A2 : ST} (h : Kp A A2) (f : Nat) (h1 : f < 22 := by decide) (h2 : f ≠ 0 := by decide) (h3 : f ≠ 1 := by decide) : A2 f = A f := h f h1 h2 h3
theorem Rl.buf {A B A2 : ST} (h : Rl A B) (hk : Kp A A2) {v : Nat} (hv : v = A2 0 0) : Rl A2 (setA B 1 4 v) := by
  have e1 : ∀ f k, f ≠ 1 → setA B 1 4 v f k = B f k := fun f k hf => setA_f hf
  have e2 : ∀ k, k ≠ 4 → setA B 1 4 v 1 k = B 1 k := fun k hk => setA_n hk
  have n9 := h.n9
  refine ⟨⟨?_, ?_, ?_, ?_, ?_⟩, ?_, fun k hk9 => ⟨fun hk1 => ?_, fun g hg => ⟨?_, ?_⟩⟩, fun i hi => ⟨?_, fun k hk1 => ?_⟩, fun e he => ?_, fun g hg => ?_⟩
  · rw [e2 0 (by decide), hk.e 2]; exact h.m0
  · rw [e2 1 (by decide), hk.e 9]; exact h.m1
  · rw [e2 2 (by decide), hk.e 15]; exact h.m2
  · rw [e2 3 (by decide), hk.e 18]; exact h.m3
  · rw [setA_s]; exact hv
  · rw [hk.e 9]; exact n9
  · rw [e1 2 _ (by decide), hk.e 10]; rw [hk.e 9] at hk1; exact h.c0 hk1
  · rw [e1 2 _ (by decide), hk.e 12]; exact h.c1 hk9 hg
  · rw [e1 2 _ (by decide), hk.e 13]; exact h.c4 hk9 hg
  · rw [e1 3 _ (by decide), hk.e 17]; exact h.l0 hi
  · rw [e1 3 _ (by decide), hk.e 16]; rw [hk.e 17] at hk1; exact h.l1 hi hk1
  · rw [e1 4 _ (by decide), hk.e 20]; rw [hk.e 18] at he; exact h.d0 he
  · rw [e1 5 _ (by decide), hk.e 21]; exact h.p0 hg
theorem ffI_r (f : Nat → Int32) (len : Nat) : ∀ n, n ≤ len → ffI f len n = -1 ∨ ∃ k, k ≤ len ∧ ffI f len n = nI k
  | 0, _ => by
    show (if len = 0 then nI 0 else if cw f len = 0 then -1 else nI len) = -1 ∨ ∃ k, k ≤ len ∧ (if len = 0 then nI 0 else if cw f len = 0 then -1 else nI len) = nI k
    split
    · exact Or.inr ⟨0, Nat.zero_le _, rfl⟩
    · split
      · exact Or.inl rfl
      · exact Or.inr ⟨len, Nat.le_refl _, rfl⟩
  | n + 1, hn => by
    show (if cw f (len - n) = 5 then nI (len - (n + 1)) else ffI f len n) = -1 ∨ ∃ k, k ≤ len ∧ (if cw f (len - n) = 5 then nI (len - (n + 1)) else ffI f len n) = nI k
    split
    · exact Or.inr ⟨len - (n + 1), by omega, rfl⟩
    · exact ffI_r f len n (by omega)
theorem ffS_r (f : Nat → Int32) (len : Nat) : ffS f len = -1 ∨ ∃ k, k ≤ len ∧ ffS f len = nI k := ffI_r f len len (Nat.le_refl _)
theorem ffS_0 (f : Nat → Int32) : ffS f 0 = nI 0 := rfl
theorem nI_nm {k : Nat} (h : k < 2 ^ 31) : ¬ nI k = -1 := fun e => by
  have h1 := congrArg Int32.toInt e
  rw [nI_toInt h, show (-1 : Int32).toInt = -1 by decide] at h1
  omega
theorem nxt_5 {w c : Nat} (hw : ¬ w < 5) : nxt w c = 5 := by
  unfold nxt
  rw [if_neg (by omega), if_neg (by omega), if_neg (by omega), if_neg (by omega), if_neg (by omega)]
/-- five signs a slot -/
theorem slots_le (f : Nat → Nat) : ∀ n, pw f n < 5 → 5 * cntB (fun k => decide (f k = 91)) n ≤ n + (if pw f n = 0 then 0 else 5 - pw f n)
  | 0, _ => by simp [cntB, pw]
  | n + 1, h => by
    have e : pw f (n + 1) = nxt (pw f n) (f n) := rfl
    by_cases hw : pw f n < 5
    · have ih := slots_le f n hw
      have ec : cntB (fun k => decide (f k = 91)) (n + 1) = cntB (fun k => decide (f k = 91)) n + (if decide (f n = 91) = true then 1 else 0) := rfl
      rw [ec]
      rw [e] at h ⊢
      generalize cntB (fun k => decide (f k = 91)) n = C at *
      generalize pw f n = w at *
      generalize f n = c at *
      unfold nxt at h ⊢
      have hw5 : w = 0 ∨ w = 1 ∨ w = 2 ∨ w = 3 ∨ w = 4 := by omega
      rcases hw5 with rfl | rfl | rfl | rfl | rfl
      · by_cases hc : c = 91
        · simp [hc] at ih ⊢; omega
        · by_cases hc2 : (97 ≤ c ∧ c ≤ 122) ∨ c = 32 ∨ c = 46
          · simp [hc, hc2] at ih ⊢; omega
          · simp [hc, hc2] at h
      · by_cases hc : 48 ≤ c ∧ c ≤ 52
        · have h91 : ¬ c = 91 := by omega
          simp [hc, h91] at ih ⊢; omega
        · simp [hc] at h
      · by_cases hc : c = 110 ∨ c = 103 ∨ c = 100 ∨ c = 97
        · have h91 : ¬ c = 91 := by omega
          simp [hc, h91] at ih ⊢; omega
        · simp [hc] at h
      · by_cases hc : c = 115 ∨ c = 112
        · have h91 : ¬ c = 91 := by omega
          simp [hc, h91] at ih ⊢; omega
        · simp [hc] at h
      · by_cases hc : c = 93
        · have h91 : ¬ c = 91 := by omega
          simp [hc] at ih ⊢; omega
        · simp [hc] at h
    · rw [e, nxt_5 hw] at h
      exact absurd h (by decide)
theorem told_le {A : ST} (hI : Inv A) (h : ffS (rg A 1 0 60) (A 0 0) = -1) : cntB (slB (rg A 1 0 60) (A 0 0)) (A 0 0) ≤ 12 := by
  have hp := ffS_pw hI.b0 hI.ch.1 h
  have h1 := slots_le (A 1) (A 0 0) (by rw [hp]; decide)
  rw [hp, if_pos rfl] at h1
  have h2 : cntB (slB (rg A 1 0 60) (A 0 0)) (A 0 0) = cntB (fun k => decide (A 1 k = 91)) (A 0 0) := by
    refine cntB_congr (fun k hk => ?_)
    unfold slB
    rw [chr_rg hI.b0, if_pos hk, Nat.zero_add]
    have h3 := hI.ch.1 k
    by_cases h9 : A 1 k = 91
    · rw [decide_eq_true h9, h9]; rfl
    · rw [decide_eq_false h9]
      exact decide_eq_false (fun q => h9 (ni_eq (b := 91) (by omega) (by decide) q))
  have h4 := hI.b0
  omega
set_option maxRecDepth 100000 in
set_option maxHeartbeats 4000000 in
theorem l_isIn {d b0 : Nat} {G : GH} {Q : Nat → Nat} {A B : ST} (hL : LW Q A B G) (hI : Inv A) (hR : Rl A B) {c e : Nat} (hc : c < A 9 0) (he : e < A 18 0) : CTd mL_isIn d b0 G [.ref (Q 2), .ref (Q 4), .int (nI c), .int (nI e)] 0 0 (some (.int (b2i (meB A e c)))) G := by
  have hn9 := hR.n9
  have hb18 := hI.b18
  have hq1 := hI.co c hc
  have hq2 := hR.c0 hc
  refine CT.intro (by decide +kernel) rfl (Nat.le_of_ble_eq_true rfl) ?_
  show WP mL_isIn _ _ _ _ _ _ _ 0 [(0, .ref (Q 2)), (1, .ref (Q 4)), (2, .int (nI c)), (3, .int (nI e))] []
  refine r_aload_n dL_isIn_0 rfl 0 rfl ?_
  refine r_bipush (v := (nI 7)) dL_isIn_1 (by decide) ?_
  refine r_iload_n dL_isIn_3 rfl 2 rfl ?_
  refine n_imul dL_isIn_4 ?_
  refine n_iald dL_isIn_5 hL.r2 (by omega) (by decide) ?_
  refine n_if_eq 27 dL_isIn_6 (by decide) (by omega) (fun c1 => ?_) (fun c1 => ?_)
  · refine r_iconst (v := (nI 1)) dL_isIn_27 (by decide) ?_
    refine r_goto 32 dL_isIn_28 (by decide) ?_
    refine r_ret .boolean dL_isIn_32 rfl rfl ?_
    have h10 : A 10 c = 0 := by rw [← hR.c0 hc]; exact c1
    have hm : meB A e c = true := by unfold meB meI s_X1_meets; rw [h10, if_pos (by decide)]; rfl
    exact ⟨by rw [hm]; rfl, rfl⟩
  · refine r_aload_n dL_isIn_9 rfl 1 rfl ?_
    refine r_iload_n dL_isIn_10 rfl 3 rfl ?_
    refine n_iald dL_isIn_11 hL.r4 (by omega) (by decide) ?_
    refine r_aload_n dL_isIn_12 rfl 0 rfl ?_
    refine r_bipush (v := (nI 7)) dL_isIn_13 (by decide) ?_
    refine r_iload_n dL_isIn_15 rfl 2 rfl ?_
    refine n_imul dL_isIn_16 ?_
    refine n_iald dL_isIn_17 hL.r2 (by omega) (by decide) ?_
    refine r_iconst (v := (nI 1)) dL_isIn_18 (by decide) ?_
    refine n_isub dL_isIn_19 (by omega) ?_
    refine r_ishr dL_isIn_20 ?_
    refine r_iconst (v := (nI 1)) dL_isIn_21 (by decide) ?_
    refine r_iand dL_isIn_22 ?_
    refine r_iconst (v := (nI 1)) dL_isIn_23 (by decide) ?_
    refine r_icmp_ne 31 dL_isIn_24 (by decide) (fun c2 => ?_) (fun c2 => ?_)
    · refine r_iconst (v := (nI 0)) dL_isIn_31 (by decide) ?_
      refine r_ret .boolean dL_isIn_32 rfl rfl ?_
      have h10 : ¬ A 10 c = 0 := by rw [← hR.c0 hc]; exact c1
      have hx9 : meI A e c = (if ((nI (A 20 e)) >>> ((nI (A 10 c) - 1) &&& 31)) &&& 1 = 1 then 1 else 0) := by
        unfold meI s_X1_meets
        have h8 := hI.co c hc
        rw [if_neg (fun q => by
          rw [cn_m1 h8] at q; exact h10 q)]
      rw [hR.d0 he, hR.c0 hc, ← pk_sub (show 1 ≤ A 10 c by omega)] at c2
      have c3 : ¬ (((nI (A 20 e)) >>> ((nI (A 10 c) - 1) &&& 31)) &&& 1) = 1 := c2
      have hm : meB A e c = false := by unfold meB; rw [hx9, if_neg c3]; rfl
      exact ⟨by rw [hm]; rfl, rfl⟩
    · refine r_iconst (v := (nI 1)) dL_isIn_27 (by decide) ?_
      refine r_goto 32 dL_isIn_28 (by decide) ?_
      refine r_ret .boolean dL_isIn_32 rfl rfl ?_
      have h10 : ¬ A 10 c = 0 := by rw [← hR.c0 hc]; exact c1
      have hx9 : meI A e c = (if ((nI (A 20 e)) >>> ((nI (A 10 c) - 1) &&& 31)) &&& 1 = 1 then 1 else 0) := by
        unfold meI s_X1_meets
        have h8 := hI.co c hc
        rw [if_neg (fun q => by
          rw [cn_m1 h8] at q; exact h10 q)]
      rw [hR.d0 he, hR.c0 hc, ← pk_sub (show 1 ≤ A 10 c by omega)] at c2
      have c3 : (((nI (A 20 e)) >>> ((nI (A 10 c) - 1) &&& 31)) &&& 1) = 1 := c2
      have hm : meB A e c = true := by unfold meB; rw [hx9, if_pos c3]; rfl
      exact ⟨by rw [hm]; rfl, rfl⟩
def al1 (A : ST) : Nat → Int64
  | 0 => (ffS (rg A 1 0 60) (A 0 0)).toInt64
  | k + 1 => 31 * al1 A k + (b2i (slk A k)).toInt64
def al2 (A : ST) (e : Nat) : Nat → Int64
  | 0 => al1 A (A 9 0)
  | k + 1 => 31 * al2 A e k + (nI (fof A (k / e) (k % e) (k % 3) (k % 4) (A 17 (k / e)))).toInt64 + (if 0 < k % 8 then 0 else 7 * (nI (wcL (bld true (ltA A (k / e) (k % e) (k % 3))) * A 21 (k % 3))).toInt64)
abbrev alA (A : ST) : Int64 := al2 A (A 18 0) (A 15 0 * A 18 0)
set_option maxRecDepth 100000 in
set_option maxHeartbeats 4000000 in
theorem l_all2 {d b0 : Nat} {Q : Nat → Nat} {A B : ST} (hI : Inv A) (hR : Rl A B) {E : Nat} (hE : E = A 15 0 * A 18 0) (hE2 : E ≤ 48) : ∀ (fu : Nat) (k : Nat) (G : GH), LW Q A B G ∧ k ≤ E → E - k < fu → WP mL_all (d + 10) b0 (fun r G' => r = some (.long (alA A)) ∧ LW Q A B G') NoX G (40 * (E - k)) (800 * (E - k)) 45 [(4, .int (nI k)), (2, .long (al2 A (B 1 3) k)), (0, .ref (Q 0)), (1, .ref (Q 1))] [] := by
  intro fu
  induction fu with
  | zero => intro k G hinv hn; exact absurd hn (Nat.not_lt_zero _)
  | succ fu ih =>
    intro k G hinv hn
    obtain ⟨hL, hk⟩ := hinv
    have hm0 := hR.m0
    have hm1 := hR.m1
    have hm2 := hR.m2
    have hm3 := hR.m3
    have hm4 := hR.m4
    have hn9 := hR.n9
    have hb0 := hI.b0
    have hb2 := hI.b2
    have hb15 := hI.b15
    have hb18 := hI.b18
    refine r_iload dL_all_45 0 rfl ?_
    refine r_aload_n dL_all_47 rfl 3 rfl ?_
    refine r_iconst (v := (nI 2)) dL_all_48 (by decide) ?_
    refine n_iald dL_all_49 hL.r1 (by omega) (by decide) ?_
    refine r_aload_n dL_all_50 rfl 3 rfl ?_
    refine r_iconst (v := (nI 3)) dL_all_51 (by decide) ?_
    refine n_iald dL_all_52 hL.r1 (by omega) (by decide) ?_
    refine n_imul dL_all_53 ?_
    refine r_top (nI E) (by rw [hm2, hm3, hE]) ?_
    refine n_icmp_ge 133 dL_all_54 (by decide) (by omega) (by omega) (fun ce => ?_) (fun ce => ?_)
    · refine r_lload_n dL_all_133 rfl 1 rfl ?_
      refine r_lret dL_all_134 rfl ?_
      have hk : k = E := by omega
      refine ⟨?_, hL⟩
      rw [hk, hE, hm3]
    · have h18 : 0 < B 1 3 := Nat.pos_of_ne_zero (fun q => by rw [hm3] at q; rw [q, Nat.mul_zero] at hE; omega)
      have hdv : k / B 1 3 < A 15 0 := Nat.div_lt_of_lt_mul (by rw [hm3, Nat.mul_comm, ← hE]; exact ce)
      have hmd : k % B 1 3 < A 18 0 := by rw [← hm3]; exact Nat.mod_lt _ h18
      refine WP.bud (bc' := 40 * (E - (k + 1)) + 40) (bs' := 800 * (E - (k + 1)) + 800) (by omega) (by omega) ?_
      refine r_ldc2 dL_all_57 conl_86 ?_
      refine r_lload_n dL_all_60 rfl 1 rfl ?_
      refine r_lmul dL_all_61 ?_
      refine r_aload_n dL_all_62 rfl 2 rfl ?_
      refine r_iload dL_all_63 0 rfl ?_
      refine r_aload_n dL_all_65 rfl 3 rfl ?_
      refine r_iconst (v := (nI 3)) dL_all_66 (by decide) ?_
      refine n_iald dL_all_67 hL.r1 (by omega) (by decide) ?_
      refine n_idiv dL_all_68 (by omega) h18 (by omega) ?_
      refine r_iload dL_all_69 0 rfl ?_
      refine r_aload_n dL_all_71 rfl 3 rfl ?_
      refine r_iconst (v := (nI 3)) dL_all_72 (by decide) ?_
      refine n_iald dL_all_73 hL.r1 (by omega) (by decide) ?_
      refine n_irem dL_all_74 (by omega) h18 (by omega) ?_
      refine r_iload dL_all_75 0 rfl ?_
      refine r_iconst (v := (nI 3)) dL_all_77 (by decide) ?_
      refine n_irem dL_all_78 (by omega) (by omega) (by omega) ?_
      refine r_iload dL_all_79 0 rfl ?_
      refine r_iconst (v := (nI 4)) dL_all_81 (by decide) ?_
      refine n_irem dL_all_82 (by omega) (by omega) (by omega) ?_
      obtain ⟨fshq2, hq2⟩ := hL.r0
      refine r_callV (st := [.long (31 * (al2 A (B 1 3) k))]) [.int (nI (k / (B 1 3))), .int (nI (k % (B 1 3))), .int (nI (k % 3)), .int (nI (k % 4))] (40 * (E - (k + 1)) + 20) (800 * (E - (k + 1)) + 400) dL_all_83 kX8_faultOf nX8_faultOf lRL_58 hq2 rfl (L_faultOf hL hI hdv hmd (Nat.mod_lt _ (by decide)) (Nat.mod_lt _ (by decide))) rfl rfl (Nat.le_of_ble_eq_true rfl) (by omega) (by omega) (fun _ _ h => h.elim) ?_
      intro r G3 hr
      obtain ⟨rfl, hL4⟩ := hr
      show WP mL_all _ _ _ _ _ _ _ 86 [(4, .int (nI k)), (2, .long (al2 A (B 1 3) k)), (0, .ref (Q 0)), (1, .ref (Q 1))] [.int (nI (fof A (k / B 1 3) (k % B 1 3) (k % 3) (k % 4) (A 17 (k / B 1 3)))), .long (31 * (al2 A (B 1 3) k))]
      refine r_i2l dL_all_86 ?_
      refine r_ladd dL_all_87 ?_
      refine r_iload dL_all_88 0 rfl ?_
      refine r_bipush (v := (nI 8)) dL_all_90 (by decide) ?_
      refine n_irem dL_all_92 (by omega) (by omega) (by omega) ?_
      refine n_if_le 100 dL_all_93 (by decide) (by omega) (fun c8 => ?_) (fun c8 => ?_)
      · refine r_ldc2 dL_all_100 conl_94 ?_
        refine r_aload_n dL_all_103 rfl 2 rfl ?_
        refine r_iload dL_all_104 0 rfl ?_
        refine r_aload_n dL_all_106 rfl 3 rfl ?_
        refine r_iconst (v := (nI 3)) dL_all_107 (by decide) ?_
        refine n_iald dL_all_108 hL4.r1 (by omega) (by decide) ?_
        refine n_idiv dL_all_109 (by omega) h18 (by omega) ?_
        refine r_iload dL_all_110 0 rfl ?_
        refine r_aload_n dL_all_112 rfl 3 rfl ?_
        refine r_iconst (v := (nI 3)) dL_all_113 (by decide) ?_
        refine n_iald dL_all_114 hL4.r1 (by omega) (by decide) ?_
        refine n_irem dL_all_115 (by omega) h18 (by omega) ?_
        refine r_iload dL_all_116 0 rfl ?_
        refine r_iconst (v := (nI 3)) dL_all_118 (by decide) ?_
        refine n_irem dL_all_119 (by omega) (by omega) (by omega) ?_
        obtain ⟨fshq6, hq6⟩ := hL4.r0
        refine r_callV (st := [.long 7, .long ((31 * (al2 A (B 1 3) k)) + (((nI (fof A (k / B 1 3) (k % B 1 3) (k % 3) (k % 4) (A 17 (k / B 1 3))))).toInt64))]) [.int (nI (k / (B 1 3))), .int (nI (k % (B 1 3))), .int (nI (k % 3))] (40 * (E - (k + 1)) + 0) (800 * (E - (k + 1)) + 0) dL_all_120 kX8_costs nX8_costs lRL_68 hq6 rfl (L_costs hL4 hI hdv hmd (Nat.mod_lt _ (by decide))) rfl rfl (Nat.le_of_ble_eq_true rfl) (by omega) (by omega) (fun _ _ h => h.elim) ?_
        intro r G7 hr
        obtain ⟨rfl, hL8⟩ := hr
        show WP mL_all _ _ _ _ _ _ _ 123 [(4, .int (nI k)), (2, .long (al2 A (B 1 3) k)), (0, .ref (Q 0)), (1, .ref (Q 1))] [.int (nI (wcL (bld true (ltA A (k / B 1 3) (k % B 1 3) (k % 3))) * A 21 (k % 3))), .long 7, .long ((31 * (al2 A (B 1 3) k)) + (((nI (fof A (k / B 1 3) (k % B 1 3) (k % 3) (k % 4) (A 17 (k / B 1 3))))).toInt64))]
        refine r_i2l dL_all_123 ?_
        refine r_lmul dL_all_124 ?_
        refine r_ladd dL_all_125 ?_
        refine r_topl (al2 A (B 1 3) (k + 1)) (by
          show _ = 31 * al2 A (B 1 3) k + (nI (fof A (k / B 1 3) (k % B 1 3) (k % 3) (k % 4) (A 17 (k / B 1 3)))).toInt64 + (if 0 < k % 8 then 0 else 7 * (nI (wcL (bld true (ltA A (k / B 1 3) (k % B 1 3) (k % 3))) * A 21 (k % 3))).toInt64)
          rw [if_neg (by omega)]) ?_
        refine r_lstore_n [(2, .long (al2 A (B 1 3) (k + 1))), (4, .int (nI k)), (0, .ref (Q 0)), (1, .ref (Q 1))] dL_all_126 rfl (by decide) rfl ?_
        refine r_iinc (nI (k + 1)) [(4, .int (nI (k + 1))), (2, .long (al2 A (B 1 3) (k + 1))), (0, .ref (Q 0)), (1, .ref (Q 1))] dL_all_127 1 rfl (nI_add k 1) (by decide) rfl ?_
        refine r_goto 45 dL_all_130 (by decide) ?_
        exact WP.loc [0, 1, 2, 3] rfl (WP.bud (by omega) (by omega) (ih (k + 1) _ ⟨hL8, by omega⟩ (by omega)))
      · refine r_lconst (v := 0) dL_all_96 (by decide) ?_
        refine r_goto 125 dL_all_97 (by decide) ?_
        refine r_ladd dL_all_125 ?_
        refine r_topl (al2 A (B 1 3) (k + 1)) (by
          show _ = 31 * al2 A (B 1 3) k + (nI (fof A (k / B 1 3) (k % B 1 3) (k % 3) (k % 4) (A 17 (k / B 1 3)))).toInt64 + (if 0 < k % 8 then 0 else 7 * (nI (wcL (bld true (ltA A (k / B 1 3) (k % B 1 3) (k % 3))) * A 21 (k % 3))).toInt64)
          rw [if_pos c8]) ?_
        refine r_lstore_n [(2, .long (al2 A (B 1 3) (k + 1))), (4, .int (nI k)), (0, .ref (Q 0)), (1, .ref (Q 1))] dL_all_126 rfl (by decide) rfl ?_
        refine r_iinc (nI (k + 1)) [(4, .int (nI (k + 1))), (2, .long (al2 A (B 1 3) (k + 1))), (0, .ref (Q 0)), (1, .ref (Q 1))] dL_all_127 1 rfl (nI_add k 1) (by decide) rfl ?_
        refine r_goto 45 dL_all_130 (by decide) ?_
        exact WP.loc [0, 1, 2, 3] rfl (WP.bud (by omega) (by omega) (ih (k + 1) _ ⟨hL4, by omega⟩ (by omega)))
set_option maxRecDepth 100000 in
set_option maxHeartbeats 4000000 in
theorem l_all1 {d b0 : Nat} {Q : Nat → Nat} {A B : ST} (hI : Inv A) (hR : Rl A B) : ∀ (fu : Nat) (k : Nat) (G : GH), LW Q A B G ∧ k ≤ A 9 0 → A 9 0 - k < fu → WP mL_all (d + 10) b0 (fun r G' => r = some (.long (alA A)) ∧ LW Q A B G') NoX G (20 * (A 9 0 - k) + 1920) (400 * (A 9 0 - k) + 38400) 9 [(4, .int (nI k)), (2, .long (al1 A k)), (0, .ref (Q 0)), (1, .ref (Q 1))] [] := by
  intro fu
  induction fu with
  | zero => intro k G hinv hn; exact absurd hn (Nat.not_lt_zero _)
  | succ fu ih =>
    intro k G hinv hn
    obtain ⟨hL, hk⟩ := hinv
    have hm0 := hR.m0
    have hm1 := hR.m1
    have hm2 := hR.m2
    have hm3 := hR.m3
    have hm4 := hR.m4
    have hn9 := hR.n9
    have hb0 := hI.b0
    have hb2 := hI.b2
    have hb15 := hI.b15
    have hb18 := hI.b18
    refine r_iload dL_all_9 0 rfl ?_
    refine r_aload_n dL_all_11 rfl 3 rfl ?_
    refine r_iconst (v := (nI 1)) dL_all_12 (by decide) ?_
    refine n_iald dL_all_13 hL.r1 (by omega) (by decide) ?_
    refine n_icmp_ge 42 dL_all_14 (by decide) (by omega) (by omega) (fun ce => ?_) (fun ce => ?_)
    · refine r_iconst (v := (nI 0)) dL_all_42 (by decide) ?_
      refine r_istore [(4, .int (nI 0)), (2, .long (al1 A k)), (0, .ref (Q 0)), (1, .ref (Q 1))] dL_all_43 (by decide) rfl ?_
      have hk9 : k = A 9 0 := by omega
      rw [hk9]
      have hE2 : A 15 0 * A 18 0 ≤ 48 := Nat.mul_le_mul hb15 hb18
      exact WP.loc [0, 1, 2, 3] rfl (WP.bud (by omega) (by omega) (l_all2 hI hR rfl hE2 (A 15 0 * A 18 0 + 1) 0 G ⟨hL, Nat.zero_le _⟩ (by omega)))
    · refine WP.bud (bc' := 20 * (A 9 0 - (k + 1)) + 1940) (bs' := 400 * (A 9 0 - (k + 1)) + 38800) (by omega) (by omega) ?_
      refine r_ldc2 dL_all_17 conl_86 ?_
      refine r_lload_n dL_all_20 rfl 1 rfl ?_
      refine r_lmul dL_all_21 ?_
      refine r_aload_n dL_all_22 rfl 2 rfl ?_
      refine r_bipush (v := (nI 7)) dL_all_23 (by decide) ?_
      refine r_iload dL_all_25 0 rfl ?_
      refine r_iconst (v := (nI 0)) dL_all_27 (by decide) ?_
      refine r_iconst (v := (nI 0)) dL_all_28 (by decide) ?_
      refine r_iconst (v := (nI 0)) dL_all_29 (by decide) ?_
      refine r_callSW (st := [.long (31 * (al1 A k))]) [.ref (Q 0), .int (nI 7), .int (nI k), .int (nI 0), .int (nI 0), .int (nI 0)] (20 * (A 9 0 - (k + 1)) + 1920) (400 * (A 9 0 - (k + 1)) + 38400) dL_all_30 kL_act nL_act lRL_88 (L_isLinked hL hI (show k < A 9 0 by omega)) rfl rfl (Nat.le_of_ble_eq_true rfl) (by omega) (by omega) (fun _ _ h => h.elim) ?_
      intro r G2 hr
      obtain ⟨rfl, hL3⟩ := hr
      show WP mL_all _ _ _ _ _ _ _ 33 [(4, .int (nI k)), (2, .long (al1 A k)), (0, .ref (Q 0)), (1, .ref (Q 1))] [.int (b2i (slk A k)), .long (31 * (al1 A k))]
      refine r_i2l dL_all_33 ?_
      refine r_ladd dL_all_34 ?_
      refine r_lstore_n [(2, .long ((31 * (al1 A k)) + (((b2i (slk A k))).toInt64))), (4, .int (nI k)), (0, .ref (Q 0)), (1, .ref (Q 1))] dL_all_35 rfl (by decide) rfl ?_
      refine r_iinc (nI (k + 1)) [(4, .int (nI (k + 1))), (2, .long ((31 * (al1 A k)) + (((b2i (slk A k))).toInt64))), (0, .ref (Q 0)), (1, .ref (Q 1))] dL_all_36 1 rfl (nI_add k 1) (by decide) rfl ?_
      refine r_goto 9 dL_all_39 (by decide) ?_
      exact WP.loc [0, 1, 2, 3] rfl (WP.bud (by omega) (by omega) (ih (k + 1) _ ⟨hL3, by omega⟩ (by omega)))
set_option maxRecDepth 100000 in
set_option maxHeartbeats 4000000 in
theorem l_all {d b0 : Nat} {G : GH} {Q : Nat → Nat} {A B : ST} (hL : LW Q A B G) (hI : Inv A) (hR : Rl A B) : CT mL_all (d + 10) b0 G [.ref (Q 0), .ref (Q 1)] 2200 44000 (fun r G' => r = some (.long (alA A)) ∧ LW Q A B G') NoX := by
  have hm0 := hR.m0
  have hm1 := hR.m1
  have hm2 := hR.m2
  have hm3 := hR.m3
  have hm4 := hR.m4
  have hn9 := hR.n9
  have hb0 := hI.b0
  have hb2 := hI.b2
  have hb15 := hI.b15
  have hb18 := hI.b18
  refine CT.intro (by decide +kernel) rfl (Nat.le_of_ble_eq_true rfl) ?_
  show WP mL_all _ _ _ _ _ _ _ 0 [(0, .ref (Q 0)), (1, .ref (Q 1))] []
  refine r_aload_n dL_all_0 rfl 0 rfl ?_
  obtain ⟨fshq1, hq1⟩ := hL.r0
  refine r_callV (st := []) [] 2180 43600 dL_all_1 kX8_fault nX8_fault lRL_83 hq1 rfl (L_fault (d := d + 1) hL hI) rfl rfl (Nat.le_of_ble_eq_true rfl) (by omega) (by omega) (fun _ _ h => h.elim) ?_
  intro r G2 hr
  obtain ⟨rfl, hL3⟩ := hr
  show WP mL_all _ _ _ _ _ _ _ 4 [(0, .ref (Q 0)), (1, .ref (Q 1))] [.int (ffS (rg A 1 0 60) (A 0 0))]
  refine r_i2l dL_all_4 ?_
  refine r_lstore_n [(2, .long (((ffS (rg A 1 0 60) (A 0 0))).toInt64)), (0, .ref (Q 0)), (1, .ref (Q 1))] dL_all_5 rfl (by decide) rfl ?_
  refine r_iconst (v := (nI 0)) dL_all_6 (by decide) ?_
  refine r_istore [(4, .int (nI 0)), (2, .long (((ffS (rg A 1 0 60) (A 0 0))).toInt64)), (0, .ref (Q 0)), (1, .ref (Q 1))] dL_all_7 (by decide) rfl ?_
  exact WP.loc [0, 1, 2, 3] rfl (WP.bud (by omega) (by omega) (l_all1 hI hR (A 9 0 + 1) 0 _ ⟨hL3, Nat.zero_le _⟩ (by omega)))
