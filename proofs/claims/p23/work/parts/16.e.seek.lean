/-- the seeker's three numbers -/
def skA (A : ST) (x y z : Nat) : ST := setA (setA (setA A 33 0 x) 34 0 y) 35 0 z
theorem skA_f {A : ST} {x y z f : Nat} (h : f < 22) : skA A x y z f = A f := by
  funext k
  unfold skA
  rw [setA_f (by omega), setA_f (by omega), setA_f (by omega)]
theorem skA_2 {A : ST} {x y z x' y' z' : Nat} : skA (skA A x y z) x' y' z' = skA A x' y' z' := by
  funext f k
  unfold skA
  by_cases h3 : f = 35
  · rw [h3]
    by_cases hk : k = 0
    · rw [hk, setA_s, setA_s]
    · rw [setA_n hk, setA_n hk, setA_f (by decide), setA_f (by decide), setA_n hk, setA_f (by decide), setA_f (by decide), setA_f (by decide), setA_f (by decide)]
  · rw [setA_f h3, setA_f h3]
    by_cases h2 : f = 34
    · rw [h2]
      by_cases hk : k = 0
      · rw [hk, setA_s, setA_s]
      · rw [setA_n hk, setA_n hk, setA_f (by decide), setA_f (by decide), setA_n hk, setA_f (by decide), setA_f (by decide)]
    · rw [setA_f h2, setA_f h2]
      by_cases h1 : f = 33
      · rw [h1]
        by_cases hk : k = 0
        · rw [hk, setA_s, setA_s]
        · rw [setA_n hk, setA_n hk, setA_f (by decide), setA_f (by decide), setA_n hk]
      · rw [setA_f h1, setA_f h1, setA_f h3, setA_f h2, setA_f h1]
theorem Inv.sk {A : ST} (h : Inv A) (x y z : Nat) : Inv (skA A x y z) := h.congr (fun f hf => skA_f hf)
/-- what is left of the place k when n signs are passed -/
def lf (k n : Nat) : Nat := k + 4294967296 - n
theorem lf_i {k n : Nat} (h : n ≤ 4294967296) : nI (lf k n) = nI k - nI n := by
  unfold lf
  rw [← pk_sub (show n ≤ k + 4294967296 by omega), ← nI_add k 4294967296]
  have e : nI 4294967296 = 0 := by decide
  rw [e, Int32.add_zero]
theorem lf_le {k n : Nat} (h : n ≤ k) : nI (lf k n) = nI (k - n) := by
  unfold lf
  rw [show k + 4294967296 - n = (k - n) + 4294967296 by omega, ← nI_add (k - n) 4294967296]
  have e : nI 4294967296 = 0 := by decide
  rw [e, Int32.add_zero]
theorem lf_sub {k n m : Nat} (h : n + m ≤ 4294967296) : nI (lf k n) - nI m = nI (lf k (n + m)) := by
  unfold lf
  rw [pk_sub (show m ≤ k + 4294967296 - n by omega), show k + 4294967296 - n - m = k + 4294967296 - (n + m) by omega]
theorem lf_neg {k n : Nat} (h : k < n) (hn : n < 2000) : nI (lf k n) < 0 := by
  rw [lf_i (by omega), Int32.lt_iff_toInt_lt, pk_sub_toInt (by omega) (by omega)]
  have e : (0 : Int32).toInt = 0 := by decide
  omega
theorem lf_0 {k n : Nat} (h : n ≤ k) (hk : k < 2 ^ 31) : (nI (lf k n) = 0) ↔ k = n := by
  rw [lf_le h]
  refine ⟨fun q => ?_, fun q => by rw [q, Nat.sub_self]; rfl⟩
  have h1 := ni_eq (b := 0) (show k - n < 2 ^ 31 by omega) (by decide) q
  omega
/-- the seeker after the raw signs L: place k -/
def SkW (A B : ST) (ad : AD) (G : GH) (k : Nat) (L : List Nat) : Prop := ∃ o : Bool, (L.length ≤ k → o = opn true L) ∧ World (skA A (lf k L.length) (b2n o) ((bld true L).getD k 0)) B ad G
section SK
variable {d b0 : Nat} {A B : ST} {ad : AD} {G : GH} {k : Nat} {L : List Nat}
theorem skg {x y z : Nat} (hW : World (skA A x y z) B ad G) : G (ad 14 0) = some (.inr (4, [.int (nI x), .int (nI y), .int (nI z)])) := by
  have h := hW.g 14 0 rfl
  have e : wC (skA A x y z) B ad 14 0 = .inr (4, [.int (nI (skA A x y z 33 0)), .int (nI (skA A x y z 34 0)), .int (nI (skA A x y z 35 0))]) := rfl
  have a1 : skA A x y z 33 0 = x := by unfold skA; rw [setA_f (by decide), setA_f (by decide), setA_s]
  have a2 : skA A x y z 34 0 = y := by unfold skA; rw [setA_f (by decide), setA_s]
  have a3 : skA A x y z 35 0 = z := by unfold skA; rw [setA_s]
  rw [e, a1, a2, a3] at h
  exact h
theorem wsk {x y z : Nat} (hW : World (skA A x y z) B ad G) (x' y' z' : Nat) : World (skA A x' y' z') B ad (va_up G (ad 14 0) (some (.inr (4, [.int (nI x'), .int (nI y'), .int (nI z')])))) := by
  have h := w_sk hW x' y' z'
  rw [show setA (setA (setA (skA A x y z) 33 0 x') 34 0 y') 35 0 z' = skA A x' y' z' from skA_2] at h
  exact h
theorem c_skdone (hk : k < 2 ^ 31) (hL : L.length < 2000) (h : SkW A B ad G k L) : CTd mX4_isDone d b0 G [.ref (ad 14 0)] 0 0 (some (.int (b2i (decide (k < L.length))))) G := by
  obtain ⟨o, h1, hW⟩ := h
  have h2 := c_X4_isDone (d := d) (b0 := b0) (skg hW)
  have e : s_X4_isDone (nI (lf k L.length)) = b2i (decide (k < L.length)) := by
    unfold s_X4_isDone
    by_cases q : k < L.length
    · rw [decide_eq_true q, if_neg (fun r => absurd (lf_neg q hL) (Int32.not_lt.mpr r))]; rfl
    · rw [decide_eq_false q, lf_le (by omega), if_pos (show 0 ≤ nI (k - L.length) from (nI_leI (a := 0) (by decide) (by omega)).mpr (Nat.zero_le _))]; rfl
  rw [e] at h2
  exact h2
theorem c_skleft (h : SkW A B ad G k L) (hle : L.length ≤ k) : CTd mX4_left d b0 G [.ref (ad 14 0)] 0 0 (some (.int (nI (k - L.length)))) G := by
  obtain ⟨o, h1, hW⟩ := h
  have h2 := c_X4_left (d := d) (b0 := b0) (skg hW)
  rw [lf_le hle] at h2
  exact h2
theorem c_skpass {x : Nat} (hk : k < 2 ^ 31) (hx : rawS x) (h : SkW A B ad G k L) (hle : L.length ≤ k) (hL : L.length < 2000) : CT mX4_pass (d + 2) b0 G [.ref (ad 14 0), .int (nI x)] 0 0 (fun r G' => r = none ∧ SkW A B ad G' k (L ++ [x])) (fun _ _ => False) := by
  obtain ⟨o, h1, hW⟩ := h
  have ho := h1 hle
  have hlt := rawS_lt hx
  refine (c_X4_pass (skg hW) (isC_nI hlt)).mono (fun r G' q => ⟨q.1, nxo o x, fun _ => by rw [opn_one, ho], ?_⟩) (fun _ _ q => q)
  rw [q.2]
  have e1 : nI (lf k L.length) - 1 = nI (lf k (L ++ [x]).length) := by
    rw [List.length_append]
    exact lf_sub (m := 1) (by omega)
  have e2 : (if nI (lf k L.length) = 0 then (if nI (b2n o) = 0 then nI x else s_X8_capital (nI x)) else nI ((bld true L).getD k 0)) = nI ((bld true (L ++ [x])).getD k 0) := by
    rw [bld_one]
    by_cases q : k = L.length
    · rw [if_pos ((lf_0 hle hk).mpr q), q, getD_app_r (by rw [bld_len]; omega), bld_len, Nat.sub_self, b2n_i]
      have e3 := cap_n hlt o
      unfold cap at e3
      rw [e3, ho]; rfl
    · rw [if_neg (fun r => q ((lf_0 hle hk).mp r)), getD_big (by rw [bld_len]; omega), getD_big (by rw [List.length_append, bld_len]; show L.length + 1 ≤ k; omega)]
  have e3 : skp (nI (lf k L.length)) (nI (b2n o)) (nI ((bld true L).getD k 0)) (nI x) = .inr (4, [.int (nI (lf k (L ++ [x]).length)), .int (nI (b2n (nxo o x))), .int (nI ((bld true (L ++ [x])).getD k 0))]) := by
    unfold skp
    rw [e1, e2, b2n_i, ope_n hlt, b2n_i]
  rw [e3]
  exact wsk hW _ _ _
theorem bld_low : ∀ (M : List Nat), (∀ x ∈ M, sml x) → bld false M = M
  | [], _ => rfl
  | x :: r, h => by
    have hx := h x List.mem_cons_self
    have e1 : nxo false x = false := by
      unfold nxo
      rw [decide_eq_false (by have := hx.1; omega)]; rfl
    show capN false x :: bld (nxo false x) r = x :: r
    rw [e1, bld_low r (fun y hy => h y (List.mem_cons_of_mem _ hy))]; rfl
theorem opn_low : ∀ (M : List Nat) (o : Bool), (∀ x ∈ M, sml x) → M ≠ [] → opn o M = false
  | [], _, _, h => absurd rfl h
  | x :: r, o, h, _ => by
    have hx := h x List.mem_cons_self
    have e1 : nxo o x = false := by
      unfold nxo smn
      rw [decide_eq_false (by have := hx.1; omega), decide_eq_true (show 97 ≤ x ∧ x ≤ 122 from hx)]; cases o <;> rfl
    show opn (nxo o x) r = false
    rw [e1]
    cases r with
    | nil => rfl
    | cons y r => exact opn_low (y :: r) false (fun z hz => h z (List.mem_cons_of_mem _ hz)) (by simp)
theorem bld_get {M : List Nat} {o : Bool} {j : Nat} (h : ∀ x ∈ M, sml x) (hj : j < M.length) : (bld o M).getD j 0 = if j = 0 then capN o (M.getD 0 0) else M.getD j 0 := by
  cases M with
  | nil => exact absurd hj (Nat.not_lt_zero j)
  | cons x r =>
    cases j with
    | zero => rfl
    | succ j =>
      have hx := h x List.mem_cons_self
      have e1 : nxo o x = false := by
        unfold nxo smn
        rw [decide_eq_false (by have := hx.1; omega), decide_eq_true (show 97 ≤ x ∧ x ≤ 122 from hx)]; cases o <;> rfl
      rw [if_neg (by omega)]
      show (bld (nxo o x) r).getD j 0 = r.getD j 0
      rw [e1, bld_low r (fun y hy => h y (List.mem_cons_of_mem _ hy))]
theorem c_skform {M : List Nat} (hk : k < 2 ^ 31) (hM : ∀ x ∈ M, sml x) (hM1 : M ≠ []) (hM2 : M.length ≤ 14) (h : SkW A B ad G k L) (hle : L.length ≤ k) (hL : L.length < 1500) : CT mX4_passForm (d + 2) b0 G [.ref (ad 14 0), .int (nI M.length), .int (nI (M.getD (k - L.length) 0))] 0 0 (fun r G' => r = none ∧ SkW A B ad G' k (L ++ M)) (fun _ _ => False) := by
  obtain ⟨o, h1, hW⟩ := h
  have ho := h1 hle
  have hlt : M.getD (k - L.length) 0 < 65536 := getD_lt (fun x hx => by have := (hM x hx).2; omega) (by decide)
  refine (c_X4_passForm (skg hW) (nI M.length) (isC_nI hlt)).mono (fun r G' q => ⟨q.1, false, fun _ => by rw [opn_app, opn_low M _ hM hM1], ?_⟩) (fun _ _ q => q)
  rw [q.2]
  have e1 : nI (lf k L.length) - nI M.length = nI (lf k (L ++ M).length) := by
    rw [List.length_append]
    exact lf_sub (by omega)
  have e2 : (if nI M.length ≤ nI (lf k L.length) then nI ((bld true L).getD k 0) else if nI (b2n o) = 0 then nI (M.getD (k - L.length) 0) else if nI (lf k L.length) = 0 then s_X8_capital (nI (M.getD (k - L.length) 0)) else nI (M.getD (k - L.length) 0)) = nI ((bld true (L ++ M)).getD k 0) := by
    rw [bld_app, getD_app_r (by rw [bld_len]; exact hle), bld_len]
    by_cases q : M.length ≤ k - L.length
    · rw [lf_le hle, if_pos ((nI_leI (by omega) (by omega)).mpr q), getD_big (by rw [bld_len]; exact hle), getD_big (by rw [bld_len]; exact q)]
    · rw [if_neg (by rw [lf_le hle]; exact fun r => q ((nI_leI (by omega) (by omega)).mp r)), bld_get hM (by omega), ← ho, b2n_i]
      have e3 := cap_n hlt o
      unfold cap at e3
      by_cases z : k = L.length
      · rw [if_pos ((lf_0 hle hk).mpr z), e3, if_pos (show k - L.length = 0 by omega), show k - L.length = 0 by omega]
      · rw [if_neg (fun r => z ((lf_0 hle hk).mp r)), if_neg (show ¬ k - L.length = 0 by omega)]
        split <;> rfl
  have e3 : skf (nI (lf k L.length)) (nI (b2n o)) (nI ((bld true L).getD k 0)) (nI M.length) (nI (M.getD (k - L.length) 0)) = .inr (4, [.int (nI (lf k (L ++ M).length)), .int (nI (b2n false)), .int (nI ((bld true (L ++ M)).getD k 0))]) := by
    unfold skf
    rw [e1, e2]; rfl
  rw [e3]
  exact wsk hW _ _ _
end SK
