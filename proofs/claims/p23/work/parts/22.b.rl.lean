/-! how the law's rows go with the class's numbers, call by call -/
def Ap (A : ST) : Prop := ∀ t, t < 30 → A 12 t = 0 → A 13 t = 0
theorem Ap.kp {A A2 : ST} (h : Ap A) (hk : Kp A A2) : Ap A2 := fun t ht h12 => by
  rw [hk.e 13]
  rw [hk.e 12] at h12
  exact h t ht h12
section RLS
variable {A B : ST}
theorem ltB_yes {A : ST} {lo hi : Nat} (hb0 : A 0 0 ≤ 60) (hC : ∀ k, k < A 0 0 → sml (A 1 k)) (h1 : lo ≤ A 0 0) (h2 : A 0 0 ≤ hi) : ltB A lo hi = true := by
  unfold ltB
  rw [decide_eq_true h1, decide_eq_true h2, (allB_iff _ _).mpr]
  · rfl
  · intro k hk
    have h3 := hC k hk
    unfold sml at h3
    have e : rg A 1 0 60 k = nI (A 1 k) := rgm (by omega)
    rw [e]
    unfold smB
    rw [sm_n (by omega)]
    have e2 : smn (A 1 k) = true := decide_eq_true h3
    rw [e2]; rfl
theorem rl_z {A' : ST} (h : Rl A B) (e : ∀ f, f ≠ 0 → f ≠ 1 → f ≠ 3 → f ≠ 4 → f ≠ 5 → f ≠ 6 → f ≠ 7 → f ≠ 8 → A' f = A f) (h0 : A' 0 0 = 0) : Rl A' (setA B 1 4 0) := by
  have e2 := e 2 (by decide) (by decide) (by decide) (by decide) (by decide) (by decide) (by decide) (by decide)
  have e9 := e 9 (by decide) (by decide) (by decide) (by decide) (by decide) (by decide) (by decide) (by decide)
  have e10 := e 10 (by decide) (by decide) (by decide) (by decide) (by decide) (by decide) (by decide) (by decide)
  have e12 := e 12 (by decide) (by decide) (by decide) (by decide) (by decide) (by decide) (by decide) (by decide)
  have e13 := e 13 (by decide) (by decide) (by decide) (by decide) (by decide) (by decide) (by decide) (by decide)
  have e15 := e 15 (by decide) (by decide) (by decide) (by decide) (by decide) (by decide) (by decide) (by decide)
  have e16 := e 16 (by decide) (by decide) (by decide) (by decide) (by decide) (by decide) (by decide) (by decide)
  have e17 := e 17 (by decide) (by decide) (by decide) (by decide) (by decide) (by decide) (by decide) (by decide)
  have e18 := e 18 (by decide) (by decide) (by decide) (by decide) (by decide) (by decide) (by decide) (by decide)
  have e20 := e 20 (by decide) (by decide) (by decide) (by decide) (by decide) (by decide) (by decide) (by decide)
  have e21 := e 21 (by decide) (by decide) (by decide) (by decide) (by decide) (by decide) (by decide) (by decide)
  unfold Rl
  rw [e2, e9, e10, e12, e13, e15, e16, e17, e18, e20, e21, h0]
  exact ⟨⟨h.m0, h.m1, h.m2, h.m3, setA_s⟩, h.2.1, h.2.2.1, h.2.2.2.1, h.2.2.2.2.1, h.2.2.2.2.2⟩
/-- nothing but the m row is written anew -/
theorem rl_m {A' B' : ST} (h : Rl A B) (eA : ∀ f, f = 10 ∨ f = 12 ∨ f = 13 ∨ f = 16 ∨ f = 17 ∨ f = 20 ∨ f = 21 → A' f = A f) (e9 : A' 9 0 = A 9 0) (e18 : A' 18 0 = A 18 0) (eB : ∀ f, f ≠ 1 → B' f = B f) (m0 : B' 1 0 = A' 2 0) (m1 : B' 1 1 = A 9 0) (m2 : B' 1 2 = A' 15 0) (m3 : B' 1 3 = A 18 0) (m4 : B' 1 4 = A' 0 0) : Rl A' B' := by
  unfold Rl
  rw [eA 10 (by decide), eA 12 (by decide), eA 13 (by decide), eA 16 (by decide), eA 17 (by decide), eA 20 (by decide), eA 21 (by decide), e9, e18, eB 2 (by decide), eB 3 (by decide), eB 4 (by decide), eB 5 (by decide)]
  exact ⟨⟨m0, m1, m2, m3, m4⟩, h.2.1, h.2.2.1, h.2.2.2.1, h.2.2.2.2.1, h.2.2.2.2.2⟩
theorem rl_word (h : Rl A B) {v : Nat} (hv : v = A 2 0 + 1) {X : ST} (e : ∀ f, f ≠ 3 → f ≠ 4 → f ≠ 2 → f ≠ 0 → X f = A f) (e2 : X 2 0 = A 2 0 + 1) (e0 : X 0 0 = 0) : Rl X (setA (setA B 1 4 0) 1 0 v) := by
  refine rl_m h (fun f hf => ?_) ?_ ?_ (fun f hf => ?_) ?_ ?_ ?_ ?_ ?_
  · exact e f (by omega) (by omega) (by omega) (by omega)
  · rw [e 9 (by decide) (by decide) (by decide) (by decide)]
  · rw [e 18 (by decide) (by decide) (by decide) (by decide)]
  · funext k; rw [setA_f hf, setA_f hf]
  · rw [setA_s, e2, hv]
  · exact h.m1
  · rw [e 15 (by decide) (by decide) (by decide) (by decide)]; exact h.m2
  · exact h.m3
  · rw [e0]; exact (setA_n (by decide)).trans setA_s
/-- the m row is written with what it holds -/
theorem rl_id {B' : ST} (h : Rl A B) (e : ∀ f k, B' f k = B f k) : Rl A B' := by
  have e2 : B' = B := by funext f k; exact e f k
  rw [e2]; exact h
theorem rl_clause (h : Rl A B) {b : Nat} (hn : A 9 0 < 9) {v : Nat} (hv : v = A 9 0 + 1) : Rl (setA (setA A 10 (A 9 0) b) 9 0 (A 9 0 + 1)) (setA (setA B 2 (7 * B 1 1) b) 1 1 v) := by
  have hm1 := h.m1
  refine ⟨⟨h.m0, ?_, h.m2, h.m3, h.m4⟩, ?_, fun k hk => ⟨fun hk1 => ?_, fun g hg => ⟨?_, ?_⟩⟩, fun i hi => ⟨h.l0 hi, fun k hk => h.l1 hi hk⟩, fun e he => h.d0 he, fun g hg => h.p0 hg⟩
  · exact setA_s.trans hv
  · show A 9 0 + 1 ≤ 9
    omega
  · have hk2 : k < A 9 0 + 1 := hk1
    show setA B 2 (7 * B 1 1) b 2 (7 * k) = setA A 10 (A 9 0) b 10 k
    by_cases q : k = A 9 0
    · rw [q, hm1, setA_s, setA_s]
    · rw [setA_n (by omega), setA_n q]; exact h.c0 (by omega)
  · show setA B 2 (7 * B 1 1) b 2 (7 * k + 1 + g) = _
    rw [setA_n (by omega)]; exact h.c1 hk hg
  · show setA B 2 (7 * B 1 1) b 2 (7 * k + 4 + g) = _
    rw [setA_n (by omega)]; exact h.c4 hk hg
theorem rl_text (h : Rl A B) {c g : Nat} (hc : c < A 9 0) (hg : g < 3) (hne : A 0 0 ≠ 0) {i1 i4 : Nat} (h1 : i1 = 7 * c + 1 + g) (h4 : i4 = 7 * c + 4 + g) : Rl (setA (setA (setA (cpyA A 11 (60 * (3 * c + g)) (A 0 0)) 12 (3 * c + g) (A 0 0)) 13 (3 * c + g) 0) 0 0 0) (setA (setA (setA B 2 i1 1) 2 i4 0) 1 4 0) := by
  have hn9 := h.n9
  subst h1 h4
  refine ⟨⟨h.m0, h.m1, h.m2, h.m3, setA_s⟩, hn9, fun k hk => ⟨fun hk1 => ?_, fun g2 hg2 => ⟨?_, ?_⟩⟩, fun i hi => ⟨h.l0 hi, fun k hk => h.l1 hi hk⟩, fun e he => h.d0 he, fun g hg => h.p0 hg⟩
  · show setA (setA B 2 (7 * c + 1 + g) 1) 2 (7 * c + 4 + g) 0 2 (7 * k) = A 10 k
    rw [setA_n (by omega), setA_n (by omega)]; exact h.c0 hk1
  · show setA (setA B 2 (7 * c + 1 + g) 1) 2 (7 * c + 4 + g) 0 2 (7 * k + 1 + g2) = (if setA (cpyA A 11 (60 * (3 * c + g)) (A 0 0)) 12 (3 * c + g) (A 0 0) 12 (3 * k + g2) = 0 then 0 else 1)
    rw [setA_n (by omega)]
    by_cases q : 3 * k + g2 = 3 * c + g
    · have e1 : k = c := by omega
      have e2 : g2 = g := by omega
      rw [e1, e2, setA_s, setA_s, if_neg hne]
    · rw [setA_n (show 7 * k + 1 + g2 ≠ 7 * c + 1 + g by omega), setA_n q, cpyA_f (by decide)]
      exact h.c1 hk hg2
  · show setA (setA B 2 (7 * c + 1 + g) 1) 2 (7 * c + 4 + g) 0 2 (7 * k + 4 + g2) = setA (setA (cpyA A 11 (60 * (3 * c + g)) (A 0 0)) 12 (3 * c + g) (A 0 0)) 13 (3 * c + g) 0 13 (3 * k + g2)
    by_cases q : 3 * k + g2 = 3 * c + g
    · have e1 : k = c := by omega
      have e2 : g2 = g := by omega
      rw [e1, e2, setA_s, setA_s]
    · rw [setA_n (show 7 * k + 4 + g2 ≠ 7 * c + 4 + g by omega), setA_n (show 7 * k + 4 + g2 ≠ 7 * c + 1 + g by omega), setA_n q, setA_f (by decide), cpyA_f (by decide)]
      exact h.c4 hk hg2
theorem ap_text (h : Ap A) {c g : Nat} (hne : A 0 0 ≠ 0) : Ap (setA (setA (setA (cpyA A 11 (60 * (3 * c + g)) (A 0 0)) 12 (3 * c + g) (A 0 0)) 13 (3 * c + g) 0) 0 0 0) := fun t ht h12 => by
  have h2 : setA (cpyA A 11 (60 * (3 * c + g)) (A 0 0)) 12 (3 * c + g) (A 0 0) 12 t = 0 := h12
  show setA (setA (cpyA A 11 (60 * (3 * c + g)) (A 0 0)) 12 (3 * c + g) (A 0 0)) 13 (3 * c + g) 0 13 t = 0
  by_cases q : t = 3 * c + g
  · rw [q, setA_s]
  · rw [setA_n q, cpyA_f (by decide)] at h2
    rw [setA_n q, setA_f (by decide), cpyA_f (by decide)]
    exact h t ht h2
theorem rl_ap (h : Rl A B) {c g v : Nat} (hc : c < A 9 0) (hg : g < 3) {i4 : Nat} (h4 : i4 = 7 * c + 4 + g) : Rl (setA A 13 (3 * c + g) v) (setA B 2 i4 v) := by
  have hn9 := h.n9
  subst h4
  refine ⟨⟨h.m0, h.m1, h.m2, h.m3, h.m4⟩, hn9, fun k hk => ⟨fun hk1 => ?_, fun g2 hg2 => ⟨?_, ?_⟩⟩, fun i hi => ⟨h.l0 hi, fun k hk => h.l1 hi hk⟩, fun e he => h.d0 he, fun g hg => h.p0 hg⟩
  · show setA B 2 (7 * c + 4 + g) v 2 (7 * k) = A 10 k
    rw [setA_n (by omega)]; exact h.c0 hk1
  · show setA B 2 (7 * c + 4 + g) v 2 (7 * k + 1 + g2) = _
    rw [setA_n (by omega)]; exact h.c1 hk hg2
  · show setA B 2 (7 * c + 4 + g) v 2 (7 * k + 4 + g2) = setA A 13 (3 * c + g) v 13 (3 * k + g2)
    by_cases q : 3 * k + g2 = 3 * c + g
    · have e1 : k = c := by omega
      have e2 : g2 = g := by omega
      rw [e1, e2, setA_s, setA_s]
    · rw [setA_n (show 7 * k + 4 + g2 ≠ 7 * c + 4 + g by omega), setA_n q]
      exact h.c4 hk hg2
theorem rl_ap0 (h : Rl A B) {c g : Nat} (hc : c < A 9 0) (hg : g < 3) (h13 : A 13 (3 * c + g) = 0) {i4 : Nat} (h4 : i4 = 7 * c + 4 + g) : Rl A (setA B 2 i4 0) := by
  have hn9 := h.n9
  subst h4
  refine rl_id h (fun f k => ?_)
  by_cases q : f = 2
  · by_cases r : k = 7 * c + 4 + g
    · rw [q, r, setA_s, h.c4 (by omega) hg, h13]
    · rw [q, setA_n r]
  · rw [setA_f q]
theorem ap_ap (h : Ap A) {t v : Nat} (hne : A 12 t ≠ 0) : Ap (setA A 13 t v) := fun s hs h12 => by
  have h2 : A 12 s = 0 := h12
  have q : s ≠ t := fun e => hne (e ▸ h2)
  rw [setA_n q]
  exact h s hs h2
theorem other_ok {c m r : Nat} (hc : c < m) (hr : r < m - 1) : (c + 1 + r) % m < m ∧ c ≠ (c + 1 + r) % m := by
  refine ⟨Nat.mod_lt _ (by omega), ?_⟩
  by_cases q : c + 1 + r < m
  · rw [Nat.mod_eq_of_lt q]; omega
  · rw [Nat.mod_eq_sub_mod (by omega), Nat.mod_eq_of_lt (by omega)]; omega
theorem rl_letter (h : Rl A B) {v : Nat} (hv : v = A 15 0 + 1) : Rl (setA A 15 0 (A 15 0 + 1)) (setA B 1 2 v) :=
  ⟨⟨h.m0, h.m1, setA_s.trans hv, h.m3, h.m4⟩, h.n9, h.2.2.1, h.2.2.2.1, h.2.2.2.2.1, h.2.2.2.2.2⟩
theorem rl_data (h : Rl A B) {b w v : Nat} (hv : v = A 18 0 + 1) : Rl (setA (setA (fillA A (A 18 0) w) 20 (A 18 0) b) 18 0 (A 18 0 + 1)) (setA (setA B 4 (A 18 0) b) 1 3 v) := by
  refine ⟨⟨h.m0, h.m1, h.m2, setA_s.trans hv, h.m4⟩, h.n9, h.2.2.1, h.2.2.2.1, fun e he => ?_, h.2.2.2.2.2⟩
  have he2 : e < A 18 0 + 1 := he
  show setA B 4 (A 18 0) b 4 e = setA (fillA A (A 18 0) w) 20 (A 18 0) b 20 e
  by_cases q : e = A 18 0
  · rw [q, setA_s, setA_s]
  · rw [setA_n q, setA_n q]
    show B 4 e = A 20 e
    exact h.d0 (by omega)
theorem rl_price (h : Rl A B) {l v : Nat} (hl : l < 3) : Rl (setA A 21 l v) (setA B 5 l v) := by
  refine ⟨⟨h.m0, h.m1, h.m2, h.m3, h.m4⟩, h.n9, h.2.2.1, h.2.2.2.1, h.2.2.2.2.1, fun g hg => ?_⟩
  by_cases q : g = l
  · rw [q, setA_s, setA_s]
  · rw [setA_n q, setA_n q]; exact h.p0 hg
theorem rl_put (h : Rl A B) (h6 : ∀ i, i < 6 → A 17 i ≤ 6) {i c j v : Nat} (hi : i < 6) (h17 : A 17 i < 6) (hj : j = 7 * i + 1 + A 17 i) (hv : v = A 17 i + 1) : Rl (setA (setA A 16 (6 * i + A 17 i) c) 17 i (A 17 i + 1)) (setA (setA B 3 (7 * i) v) 3 j c) := by
  subst hj hv
  refine ⟨⟨h.m0, h.m1, h.m2, h.m3, h.m4⟩, h.n9, h.2.2.1, fun i2 hi2 => ⟨?_, fun k hk => ?_⟩, h.2.2.2.2.1, h.2.2.2.2.2⟩
  · show setA (setA B 3 (7 * i) (A 17 i + 1)) 3 (7 * i + 1 + A 17 i) c 3 (7 * i2) = setA (setA A 16 (6 * i + A 17 i) c) 17 i (A 17 i + 1) 17 i2
    rw [setA_n (by omega)]
    by_cases q : i2 = i
    · rw [q, setA_s, setA_s]
    · rw [setA_n (by omega), setA_n q, setA_f (by decide)]; exact h.l0 hi2
  · have hk2 : k < setA (setA A 16 (6 * i + A 17 i) c) 17 i (A 17 i + 1) 17 i2 := hk
    show setA (setA B 3 (7 * i) (A 17 i + 1)) 3 (7 * i + 1 + A 17 i) c 3 (7 * i2 + 1 + k) = setA A 16 (6 * i + A 17 i) c 16 (6 * i2 + k)
    by_cases q : i2 = i
    · subst q
      rw [setA_s] at hk2
      by_cases r : k = A 17 i2
      · rw [r, setA_s, setA_s]
      · rw [setA_n (by omega), setA_n (by omega), setA_n (by omega)]
        exact h.l1 hi (by omega)
    · rw [setA_n q, setA_f (by decide)] at hk2
      have hk6 : k < 6 := Nat.lt_of_lt_of_le hk2 (h6 i2 hi2)
      rw [setA_n (by omega), setA_n (by omega), setA_n (by omega)]
      exact h.l1 hi2 hk2
/-- the letter has the clause, among its first k -/
def hpA (A : ST) (i c : Nat) : Nat → Bool
  | 0 => false
  | k + 1 => hpA A i c k || decide (cla A i k = c)
theorem hpA_hs {i c N : Nat} (hC : ∀ k, k < N → cla A i k < 2 ^ 31) (hc : c < 2 ^ 31) : ∀ n, n ≤ N → N ≤ 6 → hsB (rg A 16 (6 * i) 6) n (nI c) = hpA A i c n
  | 0, _, _ => rfl
  | n + 1, hn, h6 => by
    have ih := hpA_hs hC hc n (by omega) h6
    unfold hsB at ih ⊢
    show (!(allB (fun k => !(decide (rg A 16 (6 * i) 6 k = nI c))) n && !(decide (rg A 16 (6 * i) 6 n = nI c)))) = (hpA A i c n || decide (cla A i n = c))
    rw [Bool.not_and, ih, Bool.not_not]
    congr 1
    have e : rg A 16 (6 * i) 6 n = nI (cla A i n) := by
      dsimp only [rg]
      rw [if_pos (by omega)]
    rw [e]
    by_cases q : cla A i n = c
    · rw [q, decide_eq_true rfl, decide_eq_true rfl]
    · rw [decide_eq_false q]
      exact decide_eq_false (fun r => q (ni_eq (hC n (by omega)) hc r))
end RLS
