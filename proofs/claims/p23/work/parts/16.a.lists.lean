/-! what a letter lays, as lists of signs -/
def smn (x : Nat) : Bool := decide (97 ≤ x ∧ x ≤ 122)
def capN (o : Bool) (x : Nat) : Nat := if o && smn x then x - 32 else x
def nxo (o : Bool) (x : Nat) : Bool := decide (x = 46) || (o && !smn x)
def opn : Bool → List Nat → Bool
  | o, [] => o
  | o, x :: r => opn (nxo o x) r
def bld : Bool → List Nat → List Nat
  | _, [] => []
  | o, x :: r => capN o x :: bld (nxo o x) r
theorem bld_len : ∀ (L : List Nat) (o : Bool), (bld o L).length = L.length
  | [], _ => rfl
  | x :: r, o => by show (bld (nxo o x) r).length + 1 = r.length + 1; rw [bld_len r]
theorem opn_app : ∀ (L M : List Nat) (o : Bool), opn o (L ++ M) = opn (opn o L) M
  | [], _, _ => rfl
  | x :: r, M, o => opn_app r M (nxo o x)
theorem bld_app : ∀ (L M : List Nat) (o : Bool), bld o (L ++ M) = bld o L ++ bld (opn o L) M
  | [], _, _ => rfl
  | x :: r, M, o => by show capN o x :: bld (nxo o x) (r ++ M) = capN o x :: (bld (nxo o x) r ++ bld (opn (nxo o x) r) M); rw [bld_app r M]
theorem capN_le (o : Bool) (x : Nat) : capN o x ≤ x := by unfold capN; split <;> omega
theorem bld_lt : ∀ (L : List Nat) (o : Bool), (∀ x ∈ L, x < 65536) → ∀ y ∈ bld o L, y < 65536
  | [], _, _, y, hy => by cases hy
  | x :: r, o, h, y, hy => by
    rcases List.mem_cons.mp hy with e | e
    · rw [e]; exact Nat.lt_of_le_of_lt (capN_le o x) (h x List.mem_cons_self)
    · exact bld_lt r _ (fun z hz => h z (List.mem_cons_of_mem _ hz)) y e
theorem bld_one (L : List Nat) (x : Nat) : bld true (L ++ [x]) = bld true L ++ [capN (opn true L) x] := by rw [bld_app]; rfl
theorem opn_one (L : List Nat) (x : Nat) : opn true (L ++ [x]) = nxo (opn true L) x := by rw [opn_app]; rfl
theorem getD_app_l {L M : List Nat} {k z : Nat} (h : k < L.length) : (L ++ M).getD k z = L.getD k z := by
  rw [List.getD_eq_getElem?_getD, List.getD_eq_getElem?_getD, List.getElem?_append_left h]
theorem getD_app_r {L M : List Nat} {k z : Nat} (h : L.length ≤ k) : (L ++ M).getD k z = M.getD (k - L.length) z := by
  rw [List.getD_eq_getElem?_getD, List.getD_eq_getElem?_getD, List.getElem?_append_right h]
theorem getD_big {L : List Nat} {k z : Nat} (h : L.length ≤ k) : L.getD k z = z := by
  rw [List.getD_eq_getElem?_getD, List.getElem?_eq_none h]; rfl
theorem getD_lt {L : List Nat} {k z b : Nat} (h : ∀ x ∈ L, x < b) (hz : z < b) : L.getD k z < b := by
  by_cases hk : k < L.length
  · rw [List.getD_eq_getElem?_getD, List.getElem?_eq_getElem hk]; exact h _ (List.getElem_mem hk)
  · rw [getD_big (by omega)]; exact hz
theorem getD_z {L : List Nat} {k y z : Nat} (h : k < L.length) : L.getD k y = L.getD k z := by
  rw [List.getD_eq_getElem?_getD, List.getD_eq_getElem?_getD, List.getElem?_eq_getElem h]; rfl
/-- a piece of a row -/
def seg (A : ST) (f b n : Nat) : List Nat := (List.range n).map (fun k => A f (b + k))
theorem seg_len {A : ST} {f b n : Nat} : (seg A f b n).length = n := by unfold seg; rw [List.length_map, List.length_range]
theorem seg_get {A : ST} {f b n k z : Nat} (h : k < n) : (seg A f b n).getD k z = A f (b + k) := by
  unfold seg
  rw [List.getD_eq_getElem?_getD, List.getElem?_map, List.getElem?_range h]; rfl
theorem seg_mem {A : ST} {f b n x : Nat} (h : x ∈ seg A f b n) : ∃ k, k < n ∧ x = A f (b + k) := by
  unfold seg at h
  obtain ⟨k, h1, h2⟩ := List.mem_map.mp h
  exact ⟨k, List.mem_range.mp h1, h2.symm⟩
/-- a form -/
def fmL (A : ST) (l w g : Nat) : List Nat := if A 8 (oix l w g) = 0 then seg A 3 (10 * w) (kpA A w (l * 8 + g)) ++ seg A 5 (4 * (l * 8 + g)) (A 6 (l * 8 + g)) else seg A 7 (10 * oix l w g) (A 8 (oix l w g))
theorem fmL_len {A : ST} {l w g : Nat} : (fmL A l w g).length = frL A l w g := by
  unfold fmL frL
  split
  · rw [List.length_append, seg_len, seg_len]
  · rw [seg_len]
section FM
variable {A : ST}
theorem fmL_sml (hI : Inv A) {l w g : Nat} (hl : l < 3) (hw : w < A 2 0) (hg : g < 8) : ∀ x ∈ fmL A l w g, sml x := by
  have hb2 := hI.b2
  have hox : oix l w g < 288 := by show (w * 3 + l) * 8 + g < 288; omega
  intro x hx
  unfold fmL at hx
  split at hx
  · rcases List.mem_append.mp hx with h | h
    · obtain ⟨k, hk, e⟩ := seg_mem h
      have h1 : kpA A w (l * 8 + g) ≤ A 4 w := kep_le _ _ _ _
      rw [e]; exact (hI.st w hw).2.2 k (by omega)
    · obtain ⟨k, hk, e⟩ := seg_mem h
      rw [e]; exact (hI.en _ (by omega)).2 k hk
  · obtain ⟨k, hk, e⟩ := seg_mem hx
    rw [e]; exact (hI.ow _ hox).2 k hk
theorem fmL_le (hI : Inv A) {l w g : Nat} (hl : l < 3) (hw : w < A 2 0) (hg : g < 8) : (fmL A l w g).length ≤ 14 := by
  have hb2 := hI.b2
  have hox : oix l w g < 288 := by show (w * 3 + l) * 8 + g < 288; omega
  rw [fmL_len]; unfold frL
  have h1 : kpA A w (l * 8 + g) ≤ A 4 w := kep_le _ _ _ _
  have h2 := (hI.st w hw).2.1
  have h3 := (hI.en (l * 8 + g) (by omega)).1
  have h4 := (hI.ow _ hox).1
  split <;> omega
theorem fmL_pos (hI : Inv A) {l w g : Nat} (hl : l < 3) (hw : w < A 2 0) (hg : g < 8) : 1 ≤ (fmL A l w g).length := by
  have hb2 := hI.b2
  have hox : oix l w g < 288 := by show (w * 3 + l) * 8 + g < 288; omega
  rw [fmL_len]; unfold frL
  have h2 := (hI.st w hw).1
  split
  · by_cases h3 : A 6 (l * 8 + g) = 0
    · have h4 : kpA A w (l * 8 + g) = A 4 w := by
        show kep _ _ _ _ = _
        unfold kep
        have h5 : voB (chr (rg A 5 (4 * (l * 8 + g)) 4) (A 6 (l * 8 + g)) 0) = false := by
          rw [h3]
          unfold chr
          rw [if_neg (by decide)]; rfl
        rw [h5, Bool.and_false, if_neg (by decide)]
      omega
    · omega
  · omega
end FM
/-- the signs of a form, one by one -/
theorem fmL_get {A : ST} (hI : Inv A) {l w g p : Nat} (hl : l < 3) (hw : w < A 2 0) (hg : g < 8) : frI A l w g p = nI ((fmL A l w g).getD p 0) := by
  have hb2 := hI.b2
  have hox : oix l w g < 288 := by show (w * 3 + l) * 8 + g < 288; omega
  have h1 : kpA A w (l * 8 + g) ≤ A 4 w := kep_le _ _ _ _
  have h2 := (hI.st w hw).2.1
  have h3 := (hI.en (l * 8 + g) (by omega)).1
  have h4 := (hI.ow _ hox).1
  unfold frI fmL
  by_cases h : A 8 (oix l w g) = 0
  · rw [if_pos h, if_pos h]
    by_cases hp : p < kpA A w (l * 8 + g)
    · rw [if_pos hp, chr_rg (by omega), if_pos (by omega), getD_app_l (by rw [seg_len]; exact hp), seg_get hp]
    · rw [if_neg hp, chr_rg h3, getD_app_r (by rw [seg_len]; omega), seg_len]
      by_cases hq : p - kpA A w (l * 8 + g) < A 6 (l * 8 + g)
      · rw [if_pos hq, seg_get hq]
      · rw [if_neg hq, getD_big (by rw [seg_len]; omega)]
  · rw [if_neg h, if_neg h, chr_rg h4]
    by_cases hq : p < A 8 (oix l w g)
    · rw [if_pos hq, seg_get hq]
    · rw [if_neg hq, getD_big (by rw [seg_len]; omega)]
/-! the text automaton -/
theorem pw_five (f : Nat → Nat) {i : Nat} (h : pw f i = 5) : ∀ n, i ≤ n → pw f n = 5 := by
  intro n hn
  induction n with
  | zero => have h0 : i = 0 := by omega
            rw [h0] at h; exact h
  | succ n ih =>
    by_cases e : i = n + 1
    · rw [← e]; exact h
    · show nxt (pw f n) (f n) = 5
      rw [ih (by omega)]; rfl
def cseN (x : Nat) : Nat := if x = 110 then 0 else if x = 103 then 1 else if x = 100 then 2 else 3
def nmbN (x : Nat) : Nat := if x = 112 then 1 else 0
theorem pw_slot {f : Nat → Nat} {i n : Nat} (h0 : pw f i = 0) (h1 : f i = 91) (hn : pw f n = 0) (hi : i < n) : i + 5 ≤ n ∧ (48 ≤ f (i + 1) ∧ f (i + 1) ≤ 52) ∧ (f (i + 2) = 110 ∨ f (i + 2) = 103 ∨ f (i + 2) = 100 ∨ f (i + 2) = 97) ∧ (f (i + 3) = 115 ∨ f (i + 3) = 112) ∧ f (i + 4) = 93 ∧ pw f (i + 5) = 0 := by
  have a1 : pw f (i + 1) = 1 := by show nxt (pw f i) (f i) = 1; rw [h0, h1]; rfl
  have e1 : i + 1 ≠ n := fun e => by rw [← e, a1] at hn; cases hn
  have a2 : pw f (i + 2) = (if 48 ≤ f (i + 1) ∧ f (i + 1) ≤ 52 then 2 else 5) := by show nxt (pw f (i + 1)) (f (i + 1)) = _; rw [a1]; rfl
  have b2 : 48 ≤ f (i + 1) ∧ f (i + 1) ≤ 52 := by
    by_cases q : 48 ≤ f (i + 1) ∧ f (i + 1) ≤ 52
    · exact q
    · rw [if_neg q] at a2
      rw [pw_five f a2 n (by omega)] at hn; cases hn
  rw [if_pos b2] at a2
  have e2 : i + 2 ≠ n := fun e => by rw [← e, a2] at hn; cases hn
  have a3 : pw f (i + 3) = (if f (i + 2) = 110 ∨ f (i + 2) = 103 ∨ f (i + 2) = 100 ∨ f (i + 2) = 97 then 3 else 5) := by show nxt (pw f (i + 2)) (f (i + 2)) = _; rw [a2]; rfl
  have b3 : f (i + 2) = 110 ∨ f (i + 2) = 103 ∨ f (i + 2) = 100 ∨ f (i + 2) = 97 := by
    by_cases q : f (i + 2) = 110 ∨ f (i + 2) = 103 ∨ f (i + 2) = 100 ∨ f (i + 2) = 97
    · exact q
    · rw [if_neg q] at a3
      rw [pw_five f a3 n (by omega)] at hn; cases hn
  rw [if_pos b3] at a3
  have e3 : i + 3 ≠ n := fun e => by rw [← e, a3] at hn; cases hn
  have a4 : pw f (i + 4) = (if f (i + 3) = 115 ∨ f (i + 3) = 112 then 4 else 5) := by show nxt (pw f (i + 3)) (f (i + 3)) = _; rw [a3]; rfl
  have b4 : f (i + 3) = 115 ∨ f (i + 3) = 112 := by
    by_cases q : f (i + 3) = 115 ∨ f (i + 3) = 112
    · exact q
    · rw [if_neg q] at a4
      rw [pw_five f a4 n (by omega)] at hn; cases hn
  rw [if_pos b4] at a4
  have e4 : i + 4 ≠ n := fun e => by rw [← e, a4] at hn; cases hn
  have a5 : pw f (i + 5) = (if f (i + 4) = 93 then 0 else 5) := by show nxt (pw f (i + 4)) (f (i + 4)) = _; rw [a4]; rfl
  have b5 : f (i + 4) = 93 := by
    by_cases q : f (i + 4) = 93
    · exact q
    · rw [if_neg q] at a5
      rw [pw_five f a5 n (by omega)] at hn; cases hn
  rw [if_pos b5] at a5
  exact ⟨by omega, b2, b3, b4, b5, a5⟩
theorem pw_plain {f : Nat → Nat} {i n : Nat} (h0 : pw f i = 0) (h1 : f i ≠ 91) (hn : pw f n = 0) (hi : i < n) : ((97 ≤ f i ∧ f i ≤ 122) ∨ f i = 32 ∨ f i = 46) ∧ pw f (i + 1) = 0 := by
  have a1 : pw f (i + 1) = (if f i = 91 then 1 else if (97 ≤ f i ∧ f i ≤ 122) ∨ f i = 32 ∨ f i = 46 then 0 else 5) := by show nxt (pw f i) (f i) = _; rw [h0]; rfl
  rw [if_neg h1] at a1
  by_cases q : (97 ≤ f i ∧ f i ≤ 122) ∨ f i = 32 ∨ f i = 46
  · rw [if_pos q] at a1; exact ⟨q, a1⟩
  · rw [if_neg q] at a1
    rw [pw_five f a1 n (by omega)] at hn; cases hn
/-! a text, laid -/
abbrev txs (A : ST) (t i : Nat) : Nat := A 11 (60 * t + i)
abbrev txg (A : ST) (t i : Nat) : Nat := 2 * cseN (txs A t (i + 2)) + nmbN (txs A t (i + 3))
abbrev txw (A : ST) (t e i : Nat) : Nat := A 19 (5 * e + (txs A t (i + 1) - 48))
/-- text t, data e, language g: from the sign i on -/
def txL (A : ST) (t e g : Nat) : Nat → Nat → List Nat
  | 0, _ => []
  | n + 1, i => if A 12 t ≤ i then [] else if txs A t i = 91 then fmL A g (txw A t e i) (txg A t i) ++ txL A t e g n (i + 5) else txs A t i :: txL A t e g n (i + 1)
/-- a sign that may stand on a page before capitals -/
def rawS (x : Nat) : Prop := sml x ∨ x = 32 ∨ x = 46
theorem txg_lt (A : ST) (t i : Nat) : txg A t i < 8 := by
  show 2 * cseN _ + nmbN _ < 8
  have h1 : ∀ x, cseN x ≤ 3 := fun x => by unfold cseN; split; decide; split; decide; split <;> decide
  have h2 : ∀ x, nmbN x ≤ 1 := fun x => by unfold nmbN; split <;> decide
  have h3 := h1 (txs A t (i + 2))
  have h4 := h2 (txs A t (i + 3))
  omega
section TX
variable {A : ST}
theorem txL_fuel (hI : Inv A) {t e g : Nat} : ∀ (n m i : Nat), A 12 t - i ≤ n → A 12 t - i ≤ m → txL A t e g n i = txL A t e g m i := by
  intro n
  induction n with
  | zero =>
    intro m i h1 h2
    cases m with
    | zero => rfl
    | succ m => show [] = (if A 12 t ≤ i then [] else _); rw [if_pos (by omega)]
  | succ n ih =>
    intro m i h1 h2
    cases m with
    | zero => show (if A 12 t ≤ i then [] else _) = []; rw [if_pos (by omega)]
    | succ m =>
      show (if A 12 t ≤ i then [] else if txs A t i = 91 then fmL A g (txw A t e i) (txg A t i) ++ txL A t e g n (i + 5) else txs A t i :: txL A t e g n (i + 1)) = (if A 12 t ≤ i then [] else if txs A t i = 91 then fmL A g (txw A t e i) (txg A t i) ++ txL A t e g m (i + 5) else txs A t i :: txL A t e g m (i + 1))
      rw [ih m (i + 5) (by omega) (by omega), ih m (i + 1) (by omega) (by omega)]
theorem txL_ok (hI : Inv A) {t e g : Nat} (ht : t < 30) (he : e < A 18 0) (hg : g < 3) : ∀ (n i : Nat), pw (fun k => A 11 (60 * t + k)) i = 0 → i ≤ A 12 t → (∀ x ∈ txL A t e g n i, rawS x) ∧ 5 * (txL A t e g n i).length ≤ 14 * (A 12 t - i) ∧ (i < A 12 t → 0 < n → 1 ≤ (txL A t e g n i).length) := by
  have htx := hI.tx t ht
  intro n
  induction n with
  | zero => intro i _ _; exact ⟨(fun x hx => by cases hx), Nat.zero_le _, fun _ h => absurd h (by decide)⟩
  | succ n ih =>
    intro i h0 hi
    show (∀ x ∈ (if A 12 t ≤ i then [] else if txs A t i = 91 then fmL A g (txw A t e i) (txg A t i) ++ txL A t e g n (i + 5) else txs A t i :: txL A t e g n (i + 1)), rawS x) ∧ 5 * (if A 12 t ≤ i then [] else if txs A t i = 91 then fmL A g (txw A t e i) (txg A t i) ++ txL A t e g n (i + 5) else txs A t i :: txL A t e g n (i + 1)).length ≤ 14 * (A 12 t - i) ∧ (i < A 12 t → 0 < n + 1 → 1 ≤ (if A 12 t ≤ i then [] else if txs A t i = 91 then fmL A g (txw A t e i) (txg A t i) ++ txL A t e g n (i + 5) else txs A t i :: txL A t e g n (i + 1)).length)
    by_cases h1 : A 12 t ≤ i
    · rw [if_pos h1]; exact ⟨(fun x hx => by cases hx), Nat.zero_le _, fun h => absurd h (by omega)⟩
    · rw [if_neg h1]
      by_cases h2 : txs A t i = 91
      · rw [if_pos h2]
        obtain ⟨p1, p2, p3, p4, p5, p6⟩ := pw_slot h0 h2 htx.2.2 (by omega)
        have hw : txw A t e i < A 2 0 := (hI.da e he).2 _ (by have q := p2; show A 11 (60 * t + (i + 1)) - 48 < 5; omega)
        obtain ⟨q1, q2, q3⟩ := ih (i + 5) p6 p1
        have q4 := fmL_le hI hg hw (txg_lt A t i)
        have q5 := fmL_pos hI hg hw (txg_lt A t i)
        refine ⟨fun x hx => ?_, ?_, fun _ _ => ?_⟩
        · rcases List.mem_append.mp hx with h | h
          · exact Or.inl (fmL_sml hI hg hw (txg_lt A t i) x h)
          · exact q1 x h
        · rw [List.length_append]; omega
        · rw [List.length_append]; omega
      · rw [if_neg h2]
        obtain ⟨p1, p2⟩ := pw_plain h0 h2 htx.2.2 (by omega)
        obtain ⟨q1, q2, q3⟩ := ih (i + 1) p2 (by omega)
        refine ⟨fun x hx => ?_, ?_, fun _ _ => ?_⟩
        · rcases List.mem_cons.mp hx with h | h
          · rw [h]; exact p1
          · exact q1 x h
        · rw [List.length_cons]; omega
        · rw [List.length_cons]; omega
end TX
/-! a letter, laid -/
def isL (A : ST) (l e g p : Nat) : Bool := meB A e (cla A l p) && decide (A 12 (3 * cla A l p + g) ≠ 0)
def ltL (A : ST) (l e g : Nat) : Nat → List Nat
  | 0 => []
  | n + 1 => if isL A l e g n = true then (if ltL A l e g n = [] then txL A (3 * cla A l n + g) e g 60 0 else ltL A l e g n ++ 32 :: txL A (3 * cla A l n + g) e g 60 0) else ltL A l e g n
section LT
variable {A : ST}
theorem ltL_ok (hI : Inv A) {l e g : Nat} (hl : l < A 15 0) (he : e < A 18 0) (hg : g < 3) : ∀ n, n ≤ A 17 l → (∀ x ∈ ltL A l e g n, rawS x) ∧ (ltL A l e g n).length ≤ 169 * n - 1 := by
  have hb15 := hI.b15
  have hb9 := hI.b9
  intro n
  induction n with
  | zero => intro _; exact ⟨(fun x hx => by cases hx), Nat.zero_le _⟩
  | succ n ih =>
    intro hn
    obtain ⟨i1, i2⟩ := ih (by omega)
    have hc : cla A l n < A 9 0 := ((hI.ro l (by omega)).2 n (by omega)).1
    obtain ⟨q1, q2, q3⟩ := txL_ok hI (t := 3 * cla A l n + g) (e := e) (g := g) (by omega) he hg 60 0 rfl (Nat.zero_le _)
    have q4 := (hI.tx (3 * cla A l n + g) (by omega)).1
    show (∀ x ∈ (if isL A l e g n = true then (if ltL A l e g n = [] then txL A (3 * cla A l n + g) e g 60 0 else ltL A l e g n ++ 32 :: txL A (3 * cla A l n + g) e g 60 0) else ltL A l e g n), rawS x) ∧ (if isL A l e g n = true then (if ltL A l e g n = [] then txL A (3 * cla A l n + g) e g 60 0 else ltL A l e g n ++ 32 :: txL A (3 * cla A l n + g) e g 60 0) else ltL A l e g n).length ≤ 169 * (n + 1) - 1
    split
    · split
      · exact ⟨q1, by omega⟩
      · refine ⟨fun x hx => ?_, ?_⟩
        · rcases List.mem_append.mp hx with h | h
          · exact i1 x h
          · rcases List.mem_cons.mp h with h | h
            · rw [h]; exact Or.inr (Or.inl rfl)
            · exact q1 x h
        · rw [List.length_append, List.length_cons]
          cases n with
          | zero => rename_i h9; exact absurd rfl h9
          | succ n => omega
    · exact ⟨i1, by omega⟩
end LT
theorem rawS_lt {x : Nat} (h : rawS x) : x < 65536 := by
  rcases h with h | h | h
  · have h1 := h.2; omega
  · omega
  · omega
