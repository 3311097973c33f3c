def smS (B : ST) (σ : Nat → Bool) : ST := fun f k => if f = 25 then (if k < 20 then b2n (σ k) else B 25 k) else B f k
def zB (B : ST) (n : Nat) : ST := fun f k => if f = 25 then (if k < n then 0 else B 25 k) else B f k
theorem smS_f {B : ST} {σ : Nat → Bool} {f : Nat} (h : f ≠ 25) : smS B σ f = B f := by funext k; unfold smS; rw [if_neg h]
theorem sm25 {B : ST} {σ : Nat → Bool} {j : Nat} (h : j < 20) : smS B σ 25 j = b2n (σ j) := by unfold smS; rw [if_pos rfl, if_pos h]
theorem smS_set {B : ST} {σ : Nat → Bool} {j : Nat} (h : j < 20) : setA (smS B σ) 25 j 1 = smS B (fun i => if i = j then true else σ i) := by
  funext f k
  by_cases e : f = 25
  · rw [e]
    by_cases e2 : k = j
    · rw [e2, setA_s, sm25 h, if_pos rfl]; rfl
    · rw [setA_n e2]
      show (if k < 20 then b2n (σ k) else B 25 k) = (if k < 20 then b2n (if k = j then true else σ k) else B 25 k)
      rw [if_neg e2]
  · rw [setA_f e, smS_f e, smS_f e]
theorem zB_0 {B : ST} : zB B 0 = B := by
  funext f k
  unfold zB
  by_cases e : f = 25
  · rw [if_pos e, if_neg (Nat.not_lt_zero k), e]
  · rw [if_neg e]
theorem zB_s {B : ST} {n : Nat} : setA (zB B n) 25 n 0 = zB B (n + 1) := by
  funext f k
  by_cases e : f = 25
  · rw [e]
    by_cases e2 : k = n
    · rw [e2, setA_s]; unfold zB; rw [if_pos rfl, if_pos (by omega)]
    · rw [setA_n e2]; unfold zB; rw [if_pos rfl, if_pos rfl]
      by_cases e3 : k < n
      · rw [if_pos e3, if_pos (by omega)]
      · rw [if_neg e3, if_neg (by omega)]
  · rw [setA_f e]; unfold zB; rw [if_neg e, if_neg e]
theorem zB_20 {B : ST} : zB B 20 = smS B (fun _ => false) := by
  funext f k
  unfold zB smS
  by_cases e : f = 25
  · rw [if_pos e, if_pos e]; rfl
  · rw [if_neg e, if_neg e]
theorem sm_me {B : ST} {σ : Nat → Bool} {t c : Nat} : meB (smS B σ) t c = meB B t c := meB_c (fun f hf => smS_f (by omega))
def brQ (B : ST) (σ : Nat → Bool) (l t p : Nat) : Bool := decide (B 10 (cla B l p) ≠ 0) && !(σ (2 * cla B l p + b2n (meB B t (cla B l p))))
def brc (B : ST) (σ : Nat → Bool) (l t n : Nat) : Nat := cntB (brQ B σ l t) n
/-- what is sampled is what is covered -/
def Cou (B : ST) (l : Nat) (σ f : Nat → Bool) : Prop := ∀ p, p < B 17 l → B 10 (cla B l p) ≠ 0 → ∀ b, b < 2 → σ (2 * cla B l p + b) = f (2 * p + b)
theorem brF_at {A : ST} {l t n m b : Nat} (hb : b < 2) : brF A l t n (2 * m + b) = (decide (m < n) && (decide (A 10 (cla A l m) ≠ 0) && (decide (b = 1) == meB A t (cla A l m)))) := by
  unfold brF
  rw [show (2 * m + b) / 2 = m by omega, show (2 * m + b) % 2 = b by omega]
theorem brc_nws {B : ST} {σ f : Nat → Bool} {l t : Nat} (hC : Cou B l σ f) (h17 : B 17 l ≤ 6) : brc B σ l t (B 17 l) = nws B l f t := by
  have key : ∀ m, m ≤ 6 → cntB (fun j => brF B l t (B 17 l) j && !f j) (2 * m) = cntB (brQ B σ l t) (min m (B 17 l)) := by
    intro m
    induction m with
    | zero => intro _; rw [Nat.zero_min]; rfl
    | succ m ih =>
      intro hm
      have e1 : cntB (fun j => brF B l t (B 17 l) j && !f j) (2 * (m + 1)) = cntB (fun j => brF B l t (B 17 l) j && !f j) (2 * m) + (if (brF B l t (B 17 l) (2 * m + 0) && !f (2 * m + 0)) then 1 else 0) + (if (brF B l t (B 17 l) (2 * m + 1) && !f (2 * m + 1)) then 1 else 0) := rfl
      rw [e1, ih (by omega), brF_at (by decide), brF_at (by decide)]
      by_cases h : m < B 17 l
      · rw [Nat.min_eq_left (by omega), Nat.min_eq_left (by omega)]
        have e2 : cntB (brQ B σ l t) (m + 1) = cntB (brQ B σ l t) m + (if brQ B σ l t m then 1 else 0) := rfl
        rw [e2, decide_eq_true h]
        unfold brQ
        by_cases hc : B 10 (cla B l m) ≠ 0
        · rw [decide_eq_true hc]
          have c0 := hC m h hc 0 (by decide)
          have c1 := hC m h hc 1 (by decide)
          cases hm2 : meB B t (cla B l m) with
          | true =>
            show _ = _ + (if (true && !(σ (2 * cla B l m + 1))) then 1 else 0)
            rw [c1]
            cases f (2 * m + 1) <;> cases f (2 * m + 0) <;> rfl
          | false =>
            show _ = _ + (if (true && !(σ (2 * cla B l m + 0))) then 1 else 0)
            rw [c0]
            cases f (2 * m + 1) <;> cases f (2 * m + 0) <;> rfl
        · rw [decide_eq_false hc]; rfl
      · rw [Nat.min_eq_right (by omega), Nat.min_eq_right (by omega), decide_eq_false h]; rfl
  have h6 := key 6 (by decide)
  rw [Nat.min_eq_right h17] at h6
  exact h6.symm
theorem mbF_2 (A : ST) (l : Nat) (f : Nat → Bool) : ∀ n, ((mbF A l f n).1 = -1 ∧ (mbF A l f n).2 = 0) ∨ ∃ t, t < n ∧ (mbF A l f n).1 = nI t ∧ (mbF A l f n).2 = nws A l f t ∧ 0 < nws A l f t
  | 0 => Or.inl ⟨rfl, rfl⟩
  | n + 1 => by
    have e : mbF A l f (n + 1) = if nws A l f n ≤ (mbF A l f n).2 then mbF A l f n else (nI n, nws A l f n) := rfl
    by_cases h : nws A l f n ≤ (mbF A l f n).2
    · rw [e, if_pos h]
      rcases mbF_2 A l f n with q | ⟨t, h1, h2⟩
      · exact Or.inl q
      · exact Or.inr ⟨t, by omega, h2⟩
    · rw [e, if_neg h]
      exact Or.inr ⟨n, by omega, rfl, rfl, by omega⟩
theorem mbF_0 {A : ST} {l : Nat} {f : Nat → Bool} : ∀ n, (∀ t, t < n → nws A l f t = 0) → (mbF A l f n).1 = -1
  | 0, _ => rfl
  | n + 1, h => by
    have e : mbF A l f (n + 1) = if nws A l f n ≤ (mbF A l f n).2 then mbF A l f n else (nI n, nws A l f n) := rfl
    rw [e, if_pos (by rw [h n (by omega)]; exact Nat.zero_le _)]
    exact mbF_0 n (fun t ht => h t (by omega))
theorem cnt_le {p q : Nat → Bool} : ∀ n, (∀ k, k < n → p k = true → q k = true) → cntB p n ≤ cntB q n
  | 0, _ => Nat.le_refl 0
  | n + 1, h => by
    have ih := cnt_le n (fun k hk => h k (by omega))
    show cntB p n + (if p n then 1 else 0) ≤ cntB q n + (if q n then 1 else 0)
    by_cases e : p n = true
    · rw [if_pos e, if_pos (h n (by omega) e)]; omega
    · rw [if_neg e]; omega
theorem cnt_lt {p q : Nat → Bool} {k0 : Nat} : ∀ n, (∀ k, k < n → p k = true → q k = true) → k0 < n → q k0 = true → p k0 = false → cntB p n + 1 ≤ cntB q n
  | 0, _, h0, _, _ => absurd h0 (Nat.not_lt_zero _)
  | n + 1, h, h0, h1, h2 => by
    show cntB p n + (if p n then 1 else 0) + 1 ≤ cntB q n + (if q n then 1 else 0)
    by_cases e0 : k0 = n
    · have ih := cnt_le (p := p) (q := q) n (fun k hk => h k (by omega))
      rw [← e0, if_pos h1, if_neg (by rw [h2]; decide)]
      rw [← e0] at ih
      omega
    · have ih := cnt_lt (p := p) (q := q) n (fun k hk => h k (by omega)) (by omega) h1 h2
      by_cases e : p n = true
      · rw [if_pos e, if_pos (h n (by omega) e)]; omega
      · rw [if_neg e]; omega
theorem cnt_0 {p : Nat → Bool} : ∀ n, (∀ k, k < n → p k = false) → cntB p n = 0
  | 0, _ => rfl
  | n + 1, h => by
    show cntB p n + (if p n then 1 else 0) = 0
    rw [cnt_0 n (fun k hk => h k (by omega)), h n (by omega)]; rfl
theorem cnt_0m {p : Nat → Bool} : ∀ n, cntB p n = 0 → ∀ k, k < n → p k = false
  | 0, _, k, hk => absurd hk (Nat.not_lt_zero k)
  | n + 1, h, k, hk => by
    have e : cntB p (n + 1) = cntB p n + (if p n then 1 else 0) := rfl
    rw [e] at h
    by_cases e0 : k = n
    · rw [e0]
      cases hp : p n with
      | false => rfl
      | true => rw [hp, if_pos rfl] at h; omega
    · exact cnt_0m n (by omega) k (by omega)
def ucn (B : ST) (l : Nat) (f : Nat → Bool) : Nat := cntB (fun t => decide (0 < nws B l f t)) (B 18 0)
theorem cvF_s {B : ST} {l c t : Nat} (ht : t < 2 ^ 31) (h : bsI B l c = nI t) : cvF B l (c + 1) = fun j => cvF B l c j || brF B l t (B 17 l) j := by
  show (fun j => cvF B l c j || brF B l (mbF B l (cvF B l c) (B 18 0)).1.toNatClampNeg (B 17 l) j) = _
  rw [show (mbF B l (cvF B l c) (B 18 0)).1 = nI t from h, nI_cl ht]
theorem u_step {B : ST} {l c t : Nat} (ht : t < B 18 0) (h31 : B 18 0 < 2 ^ 31) (h : bsI B l c = nI t) (hp : 0 < nws B l (cvF B l c) t) : ucn B l (cvF B l (c + 1)) + 1 ≤ ucn B l (cvF B l c) := by
  rw [cvF_s (by omega) h]
  refine cnt_lt (k0 := t) _ (fun k _ hk => ?_) ht (decide_eq_true hp) (decide_eq_false ?_)
  · have h1 := of_decide_eq_true hk
    refine decide_eq_true (Nat.lt_of_lt_of_le h1 (cnt_le 12 (fun j _ hj => ?_)))
    rw [Bool.and_eq_true] at hj ⊢
    refine ⟨hj.1, ?_⟩
    have h2 := hj.2
    cases hf : cvF B l c j with
    | false => rfl
    | true => dsimp only at h2; rw [hf] at h2; cases h2
  · have h0 : nws B l (fun j => cvF B l c j || brF B l t (B 17 l) j) t = 0 := cnt_0 12 (fun j _ => by
      dsimp only
      cases brF B l t (B 17 l) j <;> cases cvF B l c j <;> rfl)
    rw [h0]; exact Nat.lt_irrefl 0
theorem u_zero {B : ST} {l : Nat} {f : Nat → Bool} (h : ucn B l f = 0) : (mbF B l f (B 18 0)).1 = -1 := mbF_0 _ (fun t ht => by
  have h1 := of_decide_eq_false (cnt_0m _ h t ht)
  omega)
theorem u_le {B : ST} {l : Nat} {f : Nat → Bool} : ucn B l f ≤ B 18 0 := cntB_le _ _
def smk (B : ST) (l t : Nat) (σ : Nat → Bool) : Nat → Nat → Bool
  | 0 => σ
  | p + 1 => fun i => if i = 2 * cla B l p + b2n (meB B t (cla B l p)) then true else smk B l t σ p i
theorem b2n_lt (b : Bool) : b2n b < 2 := by cases b <;> decide
theorem smk_at {B : ST} {l t : Nat} {σ : Nat → Bool} (hd : ∀ k, k < B 17 l → ∀ j, j < k → cla B l j ≠ cla B l k) {p b : Nat} (hp : p < B 17 l) (hb : b < 2) : ∀ m, m ≤ B 17 l → smk B l t σ m (2 * cla B l p + b) = (σ (2 * cla B l p + b) || (decide (p < m) && decide (b = b2n (meB B t (cla B l p)))))
  | 0, _ => by rw [decide_eq_false (Nat.not_lt_zero p), Bool.false_and, Bool.or_false]; rfl
  | m + 1, hm => by
    have ih := smk_at hd (t := t) (σ := σ) hp hb m (by omega)
    show (if 2 * cla B l p + b = 2 * cla B l m + b2n (meB B t (cla B l m)) then true else smk B l t σ m (2 * cla B l p + b)) = _
    have hbm := b2n_lt (meB B t (cla B l m))
    by_cases e : p = m
    · rw [← e]
      by_cases e2 : b = b2n (meB B t (cla B l p))
      · rw [if_pos (by omega), decide_eq_true e2, decide_eq_true (show p < p + 1 by omega), Bool.and_true, Bool.or_true]
      · rw [if_neg (by omega)]
        rw [← e] at ih
        rw [ih, decide_eq_false e2, Bool.and_false, Bool.and_false]
    · have hne : cla B l p ≠ cla B l m := by
        rcases Nat.lt_or_ge p m with q | q
        · exact hd m (by omega) p q
        · exact fun r => hd p hp m (by omega) r.symm
      rw [if_neg (by omega), ih]
      by_cases q : p < m
      · rw [decide_eq_true q, decide_eq_true (show p < m + 1 by omega)]
      · rw [decide_eq_false q, decide_eq_false (show ¬ p < m + 1 by omega)]
theorem smk_Cou {B : ST} {l t : Nat} {σ f : Nat → Bool} (hd : ∀ k, k < B 17 l → ∀ j, j < k → cla B l j ≠ cla B l k) (hC : Cou B l σ f) : Cou B l (smk B l t σ (B 17 l)) (fun j => f j || brF B l t (B 17 l) j) := by
  intro p hp hc b hb
  rw [smk_at hd hp hb _ (Nat.le_refl _), hC p hp hc b hb]
  show _ = (f (2 * p + b) || brF B l t (B 17 l) (2 * p + b))
  rw [brF_at hb, decide_eq_true hp, decide_eq_true hc, Bool.true_and, Bool.true_and, Bool.true_and]
  have h2 : b = 0 ∨ b = 1 := by omega
  rcases h2 with e | e <;> rw [e] <;> cases meB B t (cla B l p) <;> rfl
theorem nI_dec (m : Nat) : nI (m + 1) + Int32.ofInt (-1) = nI m := by
  rw [show Int32.ofInt (-1) = -1 by decide, ← Int32.sub_eq_add_neg]
  exact nI_m1 m
theorem isZ_b2n {b : Bool} : isZ (nI (b2n b)) := by rw [b2n_i]; exact b2i_Z
set_option maxRecDepth 100000 in
set_option maxHeartbeats 4000000 in
theorem lp_X9_branches {d b0 : Nat} {G : GH} {A B : ST} {ad : AD} {σ f : Nat → Bool} (hW : World A (smS B σ) ad G) (hI : Inv B) {l t : Nat} (hl : l < 6) (ht : t < 8) : ∀ (fu : Nat) (p : Nat), p ≤ B 17 l → B 17 l - p < fu → WP mX9_branches (d + 1) b0 (fun r G' => r = some (.int (nI (brc B σ l t (B 17 l)))) ∧ G' = G) (fun _ _ => False) G 0 0 5 [(4, .int (nI p)), (3, .int (nI (brc B σ l t p))), (0, .ref (ad 31 0)), (1, .int (nI l)), (2, .int (nI t))] [] := by
  intro fu
  induction fu with
  | zero => intro p hinv hn; exact absurd hn (Nat.not_lt_zero _)
  | succ fu ih =>
    intro p hinv hn
    have hb9 := hI.b9
    have h17 := (hI.ro l hl).1
    refine r_iload dX9_branches_5 0 rfl ?_
    refine r_aload_n dX9_branches_7 rfl 2 rfl ?_
    refine r_get 17 dX9_branches_8 fRX9_51 (hW.g 31 0 rfl) rfl ?_
    refine r_iload_n dX9_branches_11 rfl 3 rfl ?_
    refine r_iald dX9_branches_12 (hW.g 32 17 rfl) (vp_in_nI (by omega) (by decide)) ?_
    refine r_top (nI (B 17 l)) (by rw [nI_cl (by omega)]; exact rgm (by omega)) ?_
    refine r_icmp_ge 83 dX9_branches_13 (by decide) (fun c_1 => ?_) (fun c_1 => ?_)
    · refine r_iload_n dX9_branches_83 rfl 1 rfl ?_
      refine r_ireti dX9_branches_84 rfl ?_
      have hp : p = B 17 l := by have := ni_le (by omega) (by omega) c_1; omega
      exact ⟨by rw [hp], rfl⟩
    · have hp : p < B 17 l := ni_nle (by omega) (by omega) c_1
      have hcl : cla B l p < B 9 0 := ((hI.ro l hl).2 p hp).1
      have hc8 := hI.co _ hcl
      refine r_aload_n dX9_branches_16 rfl 2 rfl ?_
      refine r_get 16 dX9_branches_17 fRX9_48 (hW.g 31 0 rfl) rfl ?_
      refine r_bipush (v := 6) dX9_branches_20 (by decide) ?_
      refine r_iload_n dX9_branches_22 rfl 3 rfl ?_
      refine r_imul dX9_branches_23 ?_
      refine r_top (nI (6 * l)) (pk_mul 6 l) ?_
      refine r_iload dX9_branches_24 0 rfl ?_
      refine r_iadd dX9_branches_26 ?_
      refine r_top (nI (6 * l + p)) (nI_add _ _) ?_
      refine r_iald dX9_branches_27 (hW.g 32 16 rfl) (vp_in_nI (by omega) (by decide)) ?_
      refine r_top (nI (B 16 (6 * l + p))) (by rw [nI_cl (by omega)]; exact rgm (by omega)) ?_
      refine r_top (nI (cla B l p)) rfl ?_
      refine r_istore [(5, .int (nI (cla B l p))), (4, .int (nI p)), (3, .int (nI (brc B σ l t p))), (0, .ref (ad 31 0)), (1, .int (nI l)), (2, .int (nI t))] dX9_branches_28 (by decide) rfl ?_
      refine r_iload_n dX9_branches_30 rfl 2 rfl ?_
      refine r_aload_n dX9_branches_31 rfl 3 rfl ?_
      refine r_get 10 dX9_branches_32 fRX9_32 (hW.g 31 0 rfl) rfl ?_
      refine r_iload dX9_branches_35 0 rfl ?_
      refine r_iald dX9_branches_37 (hW.g 32 10 rfl) (vp_in_nI (by omega) (by decide)) ?_
      refine r_top (nI (B 10 (cla B l p)) - 1) (by rw [nI_cl (by omega), if_pos (by omega)] <;> rfl) ?_
      refine r_iconst (v := (-1)) dX9_branches_38 (by decide) ?_
      refine r_icmp_eq 74 dX9_branches_39 (by decide) (fun c_3 => ?_) (fun c_3 => ?_)
      · refine r_iconst (v := 0) dX9_branches_74 (by decide) ?_
        have hq : brQ B σ l t p = false := by unfold brQ; rw [decide_eq_false (fun q => q ((cn_m1 hc8).mp c_3))]; rfl
        refine r_iadd dX9_branches_75 ?_
        refine r_top (nI (brc B σ l t (p + 1))) (by show nI _ + 0 = nI (cntB (brQ B σ l t) p + (if brQ B σ l t p then 1 else 0)); rw [hq]; exact nI_add _ 0) ?_
        refine r_istore_n [(3, .int (nI (brc B σ l t (p + 1)))), (5, .int (nI (cla B l p))), (4, .int (nI p)), (0, .ref (ad 31 0)), (1, .int (nI l)), (2, .int (nI t))] dX9_branches_76 rfl (by decide) rfl ?_
        refine r_iinc (nI (p + 1)) [(4, .int (nI (p + 1))), (3, .int (nI (brc B σ l t (p + 1)))), (5, .int (nI (cla B l p))), (0, .ref (ad 31 0)), (1, .int (nI l)), (2, .int (nI t))] dX9_branches_77 2 rfl (nI_1 p) (by decide) rfl ?_
        refine r_goto 5 dX9_branches_80 (by decide) ?_
        exact WP.loc [0, 1, 3, 4, 5] rfl (ih (p + 1) (by omega) (by omega))
      · refine r_aload_n dX9_branches_42 rfl 3 rfl ?_
        refine r_get 25 dX9_branches_43 fRX9_66 (hW.g 31 0 rfl) rfl ?_
        refine r_iconst (v := 2) dX9_branches_46 (by decide) ?_
        refine r_iload dX9_branches_47 0 rfl ?_
        refine r_imul dX9_branches_49 ?_
        refine r_top (nI (2 * cla B l p)) (pk_mul 2 _) ?_
        refine r_aload_n dX9_branches_50 rfl 3 rfl ?_
        refine r_iload_n dX9_branches_51 rfl 5 rfl ?_
        refine r_iload dX9_branches_52 0 rfl ?_
        have hme := c_mmeets (d := d) (b0 := b0) hW (t := t) (c := cla B l p) (by omega) (by omega)
        rw [sm_me] at hme
        refine r_callV (st := [.int (nI (2 * cla B l p)), .ref (ad 32 25), .int (nI (brc B σ l t p))]) [.int (nI t), .int (nI (cla B l p))] 0 0 dX9_branches_54 kX9_meets nX9_meets lRX9_144 (hW.g 31 0 rfl) rfl hme rfl rfl (Nat.le_of_ble_eq_true rfl) (Nat.le_refl _) (Nat.le_refl _) (fun _ _ h => h.elim) ?_
        refine cx_det (st2 := [.int (b2i (meB B t (cla B l p))), .int (nI (2 * cla B l p)), .ref (ad 32 25), .int (nI (brc B σ l t p))]) rfl ?_
        refine r_if_eq 64 dX9_branches_57 (by decide) (fun c_5 => ?_) (fun c_5 => ?_)
        · refine r_iconst (v := 0) dX9_branches_64 (by decide) ?_
          refine r_iadd dX9_branches_65 ?_
          refine r_top (nI (2 * cla B l p + 0)) (nI_add (2 * cla B l p) 0) ?_
          refine r_zald dX9_branches_66 (hW.g 32 25 rfl) (vp_in_nI (by omega) (by decide)) ?_
          refine r_top (nI ((smS B σ) 25 (2 * cla B l p + 0))) (by rw [nI_cl (by omega)]; exact rgm (by omega)) ?_
          refine r_top (b2i (σ (2 * cla B l p + 0))) (by rw [sm25 (by omega)]; exact b2n_i _) ?_
          refine r_if_ne 74 dX9_branches_67 (by decide) (fun c_6 => ?_) (fun c_6 => ?_)
          · refine r_iconst (v := 0) dX9_branches_74 (by decide) ?_
            have hq : brQ B σ l t p = false := by unfold brQ; rw [decide_eq_true (p := B 10 (cla B l p) ≠ 0) (fun q => c_3 ((cn_m1 hc8).mpr q)), b2i_0 c_5]; show (true && !(σ (2 * cla B l p + 0))) = _; rw [b2i_n0 c_6]; rfl
            refine r_iadd dX9_branches_75 ?_
            refine r_top (nI (brc B σ l t (p + 1))) (by show nI _ + 0 = nI (cntB (brQ B σ l t) p + (if brQ B σ l t p then 1 else 0)); rw [hq]; exact nI_add _ 0) ?_
            refine r_istore_n [(3, .int (nI (brc B σ l t (p + 1)))), (5, .int (nI (cla B l p))), (4, .int (nI p)), (0, .ref (ad 31 0)), (1, .int (nI l)), (2, .int (nI t))] dX9_branches_76 rfl (by decide) rfl ?_
            refine r_iinc (nI (p + 1)) [(4, .int (nI (p + 1))), (3, .int (nI (brc B σ l t (p + 1)))), (5, .int (nI (cla B l p))), (0, .ref (ad 31 0)), (1, .int (nI l)), (2, .int (nI t))] dX9_branches_77 2 rfl (nI_1 p) (by decide) rfl ?_
            refine r_goto 5 dX9_branches_80 (by decide) ?_
            exact WP.loc [0, 1, 3, 4, 5] rfl (ih (p + 1) (by omega) (by omega))
          · refine r_iconst (v := 1) dX9_branches_70 (by decide) ?_
            refine r_goto 75 dX9_branches_71 (by decide) ?_
            have hq : brQ B σ l t p = true := by unfold brQ; rw [decide_eq_true (p := B 10 (cla B l p) ≠ 0) (fun q => c_3 ((cn_m1 hc8).mpr q)), b2i_0 c_5]; show (true && !(σ (2 * cla B l p + 0))) = _; rw [b2i_0 c_6]; rfl
            refine r_iadd dX9_branches_75 ?_
            refine r_top (nI (brc B σ l t (p + 1))) (by show nI _ + 1 = nI (cntB (brQ B σ l t) p + (if brQ B σ l t p then 1 else 0)); rw [hq]; exact nI_1 _) ?_
            refine r_istore_n [(3, .int (nI (brc B σ l t (p + 1)))), (5, .int (nI (cla B l p))), (4, .int (nI p)), (0, .ref (ad 31 0)), (1, .int (nI l)), (2, .int (nI t))] dX9_branches_76 rfl (by decide) rfl ?_
            refine r_iinc (nI (p + 1)) [(4, .int (nI (p + 1))), (3, .int (nI (brc B σ l t (p + 1)))), (5, .int (nI (cla B l p))), (0, .ref (ad 31 0)), (1, .int (nI l)), (2, .int (nI t))] dX9_branches_77 2 rfl (nI_1 p) (by decide) rfl ?_
            refine r_goto 5 dX9_branches_80 (by decide) ?_
            exact WP.loc [0, 1, 3, 4, 5] rfl (ih (p + 1) (by omega) (by omega))
        · refine r_iconst (v := 1) dX9_branches_60 (by decide) ?_
          refine r_goto 65 dX9_branches_61 (by decide) ?_
          refine r_iadd dX9_branches_65 ?_
          refine r_top (nI (2 * cla B l p + 1)) (nI_add (2 * cla B l p) 1) ?_
          refine r_zald dX9_branches_66 (hW.g 32 25 rfl) (vp_in_nI (by omega) (by decide)) ?_
          refine r_top (nI ((smS B σ) 25 (2 * cla B l p + 1))) (by rw [nI_cl (by omega)]; exact rgm (by omega)) ?_
          refine r_top (b2i (σ (2 * cla B l p + 1))) (by rw [sm25 (by omega)]; exact b2n_i _) ?_
          refine r_if_ne 74 dX9_branches_67 (by decide) (fun c_9 => ?_) (fun c_9 => ?_)
          · refine r_iconst (v := 0) dX9_branches_74 (by decide) ?_
            have hq : brQ B σ l t p = false := by unfold brQ; rw [decide_eq_true (p := B 10 (cla B l p) ≠ 0) (fun q => c_3 ((cn_m1 hc8).mpr q)), b2i_n0 c_5]; show (true && !(σ (2 * cla B l p + 1))) = _; rw [b2i_n0 c_9]; rfl
            refine r_iadd dX9_branches_75 ?_
            refine r_top (nI (brc B σ l t (p + 1))) (by show nI _ + 0 = nI (cntB (brQ B σ l t) p + (if brQ B σ l t p then 1 else 0)); rw [hq]; exact nI_add _ 0) ?_
            refine r_istore_n [(3, .int (nI (brc B σ l t (p + 1)))), (5, .int (nI (cla B l p))), (4, .int (nI p)), (0, .ref (ad 31 0)), (1, .int (nI l)), (2, .int (nI t))] dX9_branches_76 rfl (by decide) rfl ?_
            refine r_iinc (nI (p + 1)) [(4, .int (nI (p + 1))), (3, .int (nI (brc B σ l t (p + 1)))), (5, .int (nI (cla B l p))), (0, .ref (ad 31 0)), (1, .int (nI l)), (2, .int (nI t))] dX9_branches_77 2 rfl (nI_1 p) (by decide) rfl ?_
            refine r_goto 5 dX9_branches_80 (by decide) ?_
            exact WP.loc [0, 1, 3, 4, 5] rfl (ih (p + 1) (by omega) (by omega))
          · refine r_iconst (v := 1) dX9_branches_70 (by decide) ?_
            refine r_goto 75 dX9_branches_71 (by decide) ?_
            have hq : brQ B σ l t p = true := by unfold brQ; rw [decide_eq_true (p := B 10 (cla B l p) ≠ 0) (fun q => c_3 ((cn_m1 hc8).mpr q)), b2i_n0 c_5]; show (true && !(σ (2 * cla B l p + 1))) = _; rw [b2i_0 c_9]; rfl
            refine r_iadd dX9_branches_75 ?_
            refine r_top (nI (brc B σ l t (p + 1))) (by show nI _ + 1 = nI (cntB (brQ B σ l t) p + (if brQ B σ l t p then 1 else 0)); rw [hq]; exact nI_1 _) ?_
            refine r_istore_n [(3, .int (nI (brc B σ l t (p + 1)))), (5, .int (nI (cla B l p))), (4, .int (nI p)), (0, .ref (ad 31 0)), (1, .int (nI l)), (2, .int (nI t))] dX9_branches_76 rfl (by decide) rfl ?_
            refine r_iinc (nI (p + 1)) [(4, .int (nI (p + 1))), (3, .int (nI (brc B σ l t (p + 1)))), (5, .int (nI (cla B l p))), (0, .ref (ad 31 0)), (1, .int (nI l)), (2, .int (nI t))] dX9_branches_77 2 rfl (nI_1 p) (by decide) rfl ?_
            refine r_goto 5 dX9_branches_80 (by decide) ?_
            exact WP.loc [0, 1, 3, 4, 5] rfl (ih (p + 1) (by omega) (by omega))
set_option maxRecDepth 100000 in
set_option maxHeartbeats 4000000 in
theorem c_mbrn {d b0 : Nat} {G : GH} {A B : ST} {ad : AD} {σ f : Nat → Bool} (hW : World A (smS B σ) ad G) (hI : Inv B) {l t : Nat} (hl : l < 6) (ht : t < 8) (hC : Cou B l σ f) : CTd mX9_branches (d + 1) b0 G [.ref (ad 31 0), .int (nI l), .int (nI t)] 0 0 (some (.int (nI (nws B l f t)))) G := by
  refine CT.intro (by decide +kernel) rfl (Nat.le_of_ble_eq_true rfl) ?_
  show WP mX9_branches _ _ _ _ _ 0 0 0 [(0, .ref (ad 31 0)), (1, .int (nI l)), (2, .int (nI t))] []
  refine r_iconst (v := nI (brc B σ l t 0)) dX9_branches_0 rfl ?_
  refine r_istore_n [(3, .int (nI (brc B σ l t 0))), (0, .ref (ad 31 0)), (1, .int (nI l)), (2, .int (nI t))] dX9_branches_1 rfl (by decide) rfl ?_
  refine r_iconst (v := nI 0) dX9_branches_2 (by decide) ?_
  refine r_istore [(4, .int (nI 0)), (3, .int (nI (brc B σ l t 0))), (0, .ref (ad 31 0)), (1, .int (nI l)), (2, .int (nI t))] dX9_branches_3 (by decide) rfl ?_
  rw [← brc_nws (σ := σ) (t := t) hC (hI.ro l hl).1]
  exact lp_X9_branches (f := f) hW hI hl ht _ 0 (Nat.zero_le _) (Nat.lt_succ_self _)
