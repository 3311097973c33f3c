theorem g22 {B1 C : ST} {g j v : Nat} (h : ∀ f, f < 22 → B1 f = C f) : ∀ f, f < 22 → setA B1 g j v f = setA C g j v f := fun f hf => by
  funext k
  unfold setA
  rw [h f hf]
theorem c22 {B1 C : ST} {g b n : Nat} (h : ∀ f, f < 22 → B1 f = C f) : ∀ f, f < 22 → cpyA B1 g b n f = cpyA C g b n f := fun f hf => by
  funext k
  unfold cpyA
  rw [h f hf, h 1 (by decide)]
theorem f22 {B1 C : ST} {n w : Nat} (h : ∀ f, f < 22 → B1 f = C f) : ∀ f, f < 22 → fillA B1 n w f = fillA C n w f := fun f hf => by
  funext k
  unfold fillA
  rw [h f hf]
section VC
variable {A A' : ST}
theorem ltB_c (E : ∀ f, f < 22 → A' f = A f) {lo hi : Nat} : ltB A' lo hi = ltB A lo hi := by
  unfold ltB
  rw [rg_e (E 1 (by decide)), E 0 (by decide)]
theorem scn_c (E : ∀ f, f < 22 → A' f = A f) {t : Nat} {sl : Int32} : scn A' t sl = scn A t sl := by
  unfold scn
  rw [rg_e (E 11 (by decide)), E 12 (by decide)]
theorem scl_c (E : ∀ f, f < 22 → A' f = A f) {c : Nat} {sl : Int32} : ∀ n, scl A' c sl n = scl A c sl n
  | 0 => rfl
  | n + 1 => by
    show (if A' 12 (3 * c + n) = 0 then scl A' c sl n else nI (scn A' (3 * c + n) sl)) = (if A 12 (3 * c + n) = 0 then scl A c sl n else nI (scn A (3 * c + n) sl))
    rw [E 12 (by decide), scl_c E n, scn_c E]
theorem sco_c (E : ∀ f, f < 22 → A' f = A f) {c : Nat} {sl : Int32} : ∀ n, sco A' c sl n = sco A c sl n
  | 0 => rfl
  | n + 1 => by
    show (sco A' c sl n && (decide (A' 12 (3 * c + n) = 0) || decide (scl A' c sl n = -1) || decide (scl A' c sl n = nI (scn A' (3 * c + n) sl)))) = (sco A c sl n && (decide (A 12 (3 * c + n) = 0) || decide (scl A c sl n = -1) || decide (scl A c sl n = nI (scn A (3 * c + n) sl))))
    rw [E 12 (by decide), scl_c E n, scn_c E, sco_c E n]
theorem slk_c (E : ∀ f, f < 22 → A' f = A f) {c : Nat} : slk A' c = slk A c := by
  unfold slk
  exact allB_congr (fun s _ => sco_c E 3)
theorem hlB_c (E : ∀ f, f < 22 → A' f = A f) {l o : Nat} : hlB A' l o = hlB A l o := by
  unfold hlB
  rw [rg_e (E 16 (by decide)), E 17 (by decide)]
theorem rlB_c (E : ∀ f, f < 22 → A' f = A f) {l t c k h : Nat} : rlB A' l t c k h = rlB A l t c k h := by
  unfold rlB
  rw [E 9 (by decide)]
  refine congrArg (fun b => !b) (allB_congr (fun o _ => ?_))
  unfold rlP isB
  rw [E 14 (by decide), hlB_c E, meB_c E]
theorem fof_c (E : ∀ f, f < 22 → A' f = A f) {l t g k : Nat} : ∀ n, fof A' l t g k n = fof A l t g k n
  | 0 => rfl
  | n + 1 => by
    have h : ∀ p, fap A' l t g k p = fap A l t g k p := fun p => by
      unfold fap fau
      rw [meB_c E, cla_c E, E 12 (by decide), E 13 (by decide), rlB_c E, rlB_c E]
    show (if fap A' l t g k (A' 17 l - (n + 1)) = 0 then fof A' l t g k n else 10 * (A' 17 l - (n + 1)) + fap A' l t g k (A' 17 l - (n + 1))) = (if fap A l t g k (A 17 l - (n + 1)) = 0 then fof A l t g k n else 10 * (A 17 l - (n + 1)) + fap A l t g k (A 17 l - (n + 1)))
    rw [E 17 (by decide), h, fof_c E n]
theorem ltA_c (E : ∀ f, f < 22 → A' f = A f) {l e g : Nat} : ltA A' l e g = ltA A l e g := by
  unfold ltA
  rw [ltL_c E, E 17 (by decide)]
end VC
/-- an answer of yes or no -/
def yn (v : Int32) : Prop := v = 0 ∨ v = 1
theorem yn_b (b : Bool) : yn (b2i b) := by cases b with
  | true => exact Or.inr rfl
  | false => exact Or.inl rfl
def S1 (C st : ST) (ad : AD) (cd : Nat) (v : Int32) : Option Value → GH → Prop := fun r G1 => r = some (.int (nI cd)) ∧ ∃ (A1 B1 : ST) (ad1 : AD), World A1 B1 ad1 G1 ∧ (∀ k i, lvw C k i → ad1 k i = ad k i) ∧ Pag A1 ∧ (∀ f, f < 22 → A1 f = st f) ∧ (∀ f, f < 22 → B1 f = C f) ∧ (cd = 0 → B1 40 0 = n32 v)
def S2 (st : ST) (cd : Nat) (v : Int32) (A1 : ST) (ad1 : AD) : Option Value → GH → Prop := fun r G2 => ∃ v2 : Int32, r = some (.int v2) ∧ ∃ B2 : ST, World A1 B2 ad1 G2 ∧ B2 26 0 = cd ∧ (∀ f, f < 22 → B2 f = st f) ∧ (cd = 0 → v2 = v ∧ B2 40 0 = n32 v)
/-- a call by its wrapper mL and the reference's mX: one exception or one answer, the same numbers -/
def OP (b0 : Nat) (C : ST) (ad : AD) (G : GH) (mL mX : MD) (av : List Value) (Q : Int32 → Prop) : Prop := ∃ (cd : Nat) (v : Int32) (st : ST), cd < 4 ∧ Inv st ∧ (cd = 0 → Q v) ∧ CT mL 9 b0 G (.ref (ad 0 0) :: (av ++ [.ref (ad 33 0)])) 20 400 (S1 C st ad cd v) (fun _ _ => False) ∧ ∀ (A1 B1 : ST) (ad1 : AD) (G1 : GH), World A1 B1 ad1 G1 → (∀ f, f < 22 → B1 f = C f) → (cd = 0 → B1 40 0 = n32 v) → CT mX 9 b0 G1 (.ref (ad1 31 0) :: av) 0 0 (S2 st cd v A1 ad1) (fun _ _ => False)
theorem OP.ok {b0 : Nat} {C : ST} {ad : AD} {G : GH} {mL mX : MD} {av : List Value} {Q : Int32 → Prop} {v : Int32} {st : ST} (hQ : Q v) (hI : Inv st) (hL : CT mL 9 b0 G (.ref (ad 0 0) :: (av ++ [.ref (ad 33 0)])) 20 400 (LPo v st C ad C) (fun _ _ => False)) (hM : ∀ (A1 B1 : ST) (ad1 : AD) (G1 : GH), World A1 B1 ad1 G1 → (∀ f, f < 22 → B1 f = C f) → ∃ (v2 : Int32) (stm : ST), CT mX 9 b0 G1 (.ref (ad1 31 0) :: av) 0 0 (MPo v2 0 stm A1 ad1) (fun _ _ => False) ∧ v2 = v ∧ (∀ f, f < 22 → stm f = st f) ∧ stm 40 = B1 40) : OP b0 C ad G mL mX av Q := by
  refine ⟨0, v, st, by decide, hI, fun _ => hQ, hL.mono (fun r G1 h => ?_) (fun _ _ h => h), fun A1 B1 ad1 G1 hW1 hB h40 => ?_⟩
  · obtain ⟨h1, A1, ad1, h2, h3, h4, h5⟩ := h
    exact ⟨h1, A1, _, ad1, h2, h3, h4, h5, fun f hf => by funext k; exact setA_f (by omega), fun _ => setA_s⟩
  · obtain ⟨v2, stm, h1, h2, h3, h4⟩ := hM A1 B1 ad1 G1 hW1 hB
    refine h1.mono (fun r G2 h => ?_) (fun _ _ h => h)
    obtain ⟨g1, B2, g2, g3, g4⟩ := h
    exact ⟨v2, g1, B2, g2, g3, fun f hf => (g4 f (Or.inl hf)).trans (h3 f hf), fun h0 => ⟨h2, by rw [g4 40 (Or.inr rfl), h4]; exact h40 h0⟩⟩
theorem OP.ex {b0 : Nat} {C : ST} {ad : AD} {G : GH} {mL mX : MD} {av : List Value} {Q : Int32 → Prop} (cd : Nat) (h0 : cd ≠ 0) (h4 : cd < 4) (hI : Inv C) (hP : Pag C) (hW : World C C ad G) (hL : CT mL 9 b0 G (.ref (ad 0 0) :: (av ++ [.ref (ad 33 0)])) 20 400 (fun r G' => r = some (.int (nI cd)) ∧ G' = G) (fun _ _ => False)) (hM : ∀ (A1 B1 : ST) (ad1 : AD) (G1 : GH), World A1 B1 ad1 G1 → (∀ f, f < 22 → B1 f = C f) → ∃ v2 : Int32, CT mX 9 b0 G1 (.ref (ad1 31 0) :: av) 0 0 (MPo v2 cd B1 A1 ad1) (fun _ _ => False)) : OP b0 C ad G mL mX av Q := by
  refine ⟨cd, 0, C, h4, hI, fun q => absurd q h0, hL.mono (fun r G1 h => ?_) (fun _ _ h => h), fun A1 B1 ad1 G1 hW1 hB _ => ?_⟩
  · obtain ⟨h1, h2⟩ := h
    exact ⟨h1, C, C, ad, by rw [h2]; exact hW, fun _ _ _ => rfl, hP, fun _ _ => rfl, fun _ _ => rfl, fun q => absurd q h0⟩
  · obtain ⟨v2, h1⟩ := hM A1 B1 ad1 G1 hW1 hB
    refine h1.mono (fun r G2 h => ?_) (fun _ _ h => h)
    obtain ⟨g1, B2, g2, g3, g4⟩ := h
    exact ⟨v2, g1, B2, g2, g3, fun f hf => (g4 f (Or.inl hf)).trans (hB f hf), fun q => absurd q h0⟩
/-- .. and without a wrapper -/
def OD (b0 : Nat) (C : ST) (ad : AD) (G : GH) (mC mX : MD) : Prop := ∃ (v : Int32) (st : ST), Inv st ∧ CT mC 9 b0 G [.ref (ad 0 0)] 20 400 (OPo v st C ad C) (fun _ _ => False) ∧ ∀ (A1 B1 : ST) (ad1 : AD) (G1 : GH), World A1 B1 ad1 G1 → (∀ f, f < 22 → B1 f = C f) → CT mX 9 b0 G1 [.ref (ad1 31 0)] 0 0 (fun r G2 => r = some (.int v) ∧ ∃ B2 : ST, World A1 B2 ad1 G2 ∧ ∀ f, f < 22 → B2 f = st f) (fun _ _ => False)
theorem nI_any (x : Int32) : ∃ k : Nat, k < 2 ^ 32 ∧ x = nI k := ⟨n32 x, x.toBitVec.isLt, (n32_s x).symm⟩
set_option maxHeartbeats 2000000 in
theorem o_type {b0 : Nat} {G : GH} {C : ST} {ad : AD} (hW : World C C ad G) (hI : Inv C) (hP : Pag C) {c : Nat} (hc : c < 65536) : OP b0 C ad G mL_type mX9_type [.int (nI c)] (fun _ => True) := by
  have hb0 := hI.b0
  have hb2 := hI.b2
  have hb9 := hI.b9
  have hb15 := hI.b15
  have hb18 := hI.b18
  by_cases hlt : C 0 0 < 60
  · exact OP.ok trivial (i_type hI hc hlt) (w_type_0 hW (c_type_0 hW hI hP hc hlt)) (fun A1 B1 ad1 G1 hW1 hB => ⟨_, _, m_type_0 hW1 (hI.congr hB) hc (by rw [hB 0 (by decide)]; exact hlt), by rw [hB 0 (by decide)], fun f hf => by rw [hB 0 (by decide)]; exact g22 (g22 hB) f hf, rfl⟩)
  · exact OP.ex 1 (by decide) (by decide) hI hP hW (w_type_1 hW (c_type_1 hW hI hlt)) (fun A1 B1 ad1 G1 hW1 hB => ⟨_, m_type_1 hW1 (hI.congr hB) (by rw [hB 0 (by decide)]; exact hlt)⟩)
set_option maxHeartbeats 2000000 in
theorem o_word {b0 : Nat} {G : GH} {C : ST} {ad : AD} (hW : World C C ad G) (hI : Inv C) (hP : Pag C)  : OP b0 C ad G mL_word mX9_word [] (fun _ => True) := by
  have hb0 := hI.b0
  have hb2 := hI.b2
  have hb9 := hI.b9
  have hb15 := hI.b15
  have hb18 := hI.b18
  cases hl : ltB C 1 10 with
  | false => exact OP.ex 1 (by decide) (by decide) hI hP hW (w_word_1 hW (c_word_1a hW hI hl)) (fun A1 B1 ad1 G1 hW1 hB => ⟨_, m_word_1a hW1 (hI.congr hB) (by rw [ltB_c hB]; exact hl)⟩)
  | true =>
    by_cases hn : C 2 0 < 12
    · exact OP.ok trivial (i_word hI hl hn) (w_word_0 hW (c_word_0 hW hI hP hl hn)) (fun A1 B1 ad1 G1 hW1 hB => ⟨_, _, m_word_0 hW1 (hI.congr hB) (by rw [ltB_c hB]; exact hl) (by rw [hB 2 (by decide)]; exact hn), by rw [hB 2 (by decide)], fun f hf => by rw [hB 0 (by decide), hB 2 (by decide), setA_cm (f := 2) (g := 0) (by decide), setA_cm (f := 4) (g := 0) (by decide)]; exact g22 (g22 (g22 (c22 hB))) f hf, rfl⟩)
    · exact OP.ex 1 (by decide) (by decide) hI hP hW (w_word_1 hW (c_word_1b hW hI hl hn)) (fun A1 B1 ad1 G1 hW1 hB => ⟨_, m_word_1b hW1 (hI.congr hB) (by rw [ltB_c hB]; exact hl) (by rw [hB 2 (by decide)]; exact hn)⟩)
set_option maxHeartbeats 2000000 in
theorem o_form {b0 : Nat} {G : GH} {C : ST} {ad : AD} (hW : World C C ad G) (hI : Inv C) (hP : Pag C) (x y z : Int32) : OP b0 C ad G mL_form mX9_form [.int x, .int y, .int z] (fun _ => True) := by
  have hb0 := hI.b0
  have hb2 := hI.b2
  have hb9 := hI.b9
  have hb15 := hI.b15
  have hb18 := hI.b18
  cases hx : inB x 3 with
  | false => exact OP.ex 1 (by decide) (by decide) hI hP hW (w_form_1 hW (c_form_1a hW hI hx)) (fun A1 B1 ad1 G1 hW1 hB => ⟨_, m_form_1a hW1 (hI.congr hB) hx⟩)
  | true =>
    obtain ⟨l, hl, rfl⟩ := inB_t (by omega) hx
    by_cases hy1 : y = -1
    · subst hy1
      cases hz : inB z 8 with
      | false => exact OP.ex 2 (by decide) (by decide) hI hP hW (w_form_2 hW (c_form_2a hW hI hl hz)) (fun A1 B1 ad1 G1 hW1 hB => ⟨_, m_form_2a hW1 (hI.congr hB) hl hz⟩)
      | true =>
        obtain ⟨g, hg, rfl⟩ := inB_t (by omega) hz
        cases hb : ltB C 0 4 with
        | false => exact OP.ex 3 (by decide) (by decide) hI hP hW (w_form_3 hW (c_form_3a hW hI hl hg hb)) (fun A1 B1 ad1 G1 hW1 hB => ⟨_, m_form_3a hW1 (hI.congr hB) hl hg (by rw [ltB_c hB]; exact hb)⟩)
        | true => exact OP.ok trivial (i_end hI hb) (w_form_0 hW (c_form_0a hW hI hP hl hg hb)) (fun A1 B1 ad1 G1 hW1 hB => ⟨_, _, m_form_0a hW1 (hI.congr hB) hl hg (by rw [ltB_c hB]; exact hb), by rw [hB 0 (by decide)], fun f hf => by rw [hB 0 (by decide), setA_cm (f := 6) (g := 0) (by decide)]; exact g22 (g22 (c22 hB)) f hf, rfl⟩)
    · cases hy : inB y (C 2 0) with
      | false => exact OP.ex 1 (by decide) (by decide) hI hP hW (w_form_1 hW (c_form_1b hW hI hl hy1 hy)) (fun A1 B1 ad1 G1 hW1 hB => ⟨_, m_form_1b hW1 (hI.congr hB) hl hy1 (by rw [hB 2 (by decide)]; exact hy)⟩)
      | true =>
        obtain ⟨w, hw, rfl⟩ := inB_t (by omega) hy
        cases hz : inB z 8 with
        | false => exact OP.ex 2 (by decide) (by decide) hI hP hW (w_form_2 hW (c_form_2b hW hI hl hw hz)) (fun A1 B1 ad1 G1 hW1 hB => ⟨_, m_form_2b hW1 (hI.congr hB) hl (by rw [hB 2 (by decide)]; exact hw) hz⟩)
        | true =>
          obtain ⟨g, hg, rfl⟩ := inB_t (by omega) hz
          cases hb : ltB C 1 10 with
          | false => exact OP.ex 3 (by decide) (by decide) hI hP hW (w_form_3 hW (c_form_3b hW hI hl hw hg hb)) (fun A1 B1 ad1 G1 hW1 hB => ⟨_, m_form_3b hW1 (hI.congr hB) hl (by rw [hB 2 (by decide)]; exact hw) hg (by rw [ltB_c hB]; exact hb)⟩)
          | true =>
            by_cases h8 : C 8 (oix l w g) = 0
            · exact OP.ok trivial (i_own hI hb) (w_form_0 hW (c_form_0c hW hI hP hl hw hg hb h8)) (fun A1 B1 ad1 G1 hW1 hB => ⟨_, _, m_form_0b hW1 (hI.congr hB) hl (by rw [hB 2 (by decide)]; exact hw) hg (by rw [ltB_c hB]; exact hb), by rw [hB 0 (by decide)], fun f hf => by rw [hB 0 (by decide), setA_cm (f := 8) (g := 0) (by decide)]; exact g22 (g22 (c22 hB)) f hf, rfl⟩)
            · exact OP.ok trivial (i_own hI hb) (w_form_0 hW (c_form_0b hW hI hP hl hw hg hb h8)) (fun A1 B1 ad1 G1 hW1 hB => ⟨_, _, m_form_0b hW1 (hI.congr hB) hl (by rw [hB 2 (by decide)]; exact hw) hg (by rw [ltB_c hB]; exact hb), by rw [hB 0 (by decide)], fun f hf => by rw [hB 0 (by decide), setA_cm (f := 8) (g := 0) (by decide)]; exact g22 (g22 (c22 hB)) f hf, rfl⟩)
set_option maxHeartbeats 2000000 in
theorem o_clause {b0 : Nat} {G : GH} {C : ST} {ad : AD} (hW : World C C ad G) (hI : Inv C) (hP : Pag C) (x : Int32) : OP b0 C ad G mL_clause mX9_clause [.int x] (fun _ => True) := by
  have hb0 := hI.b0
  have hb2 := hI.b2
  have hb9 := hI.b9
  have hb15 := hI.b15
  have hb18 := hI.b18
  by_cases hx : x = -1 ∨ inB x 8 = true
  · have hb : ∃ b : Nat, b ≤ 8 ∧ x = nI b - 1 := by
      rcases hx with q | q
      · exact ⟨0, by decide, by rw [q]; decide⟩
      · obtain ⟨k, hk, e⟩ := inB_t (by decide) q
        exact ⟨k + 1, by omega, by rw [nI_m1, e]⟩
    obtain ⟨b, hb8, rfl⟩ := hb
    have hxd : (decide (nI b - 1 = -1) || inB (nI b - 1) 8) = true := by
      rcases hx with q | q
      · rw [decide_eq_true q, Bool.true_or]
      · rw [q, Bool.or_true]
    by_cases hn : C 9 0 < 10
    · exact OP.ok trivial (i_clause hI hb8 hn) (w_clause_0 hW (c_clause_0 hW hI hP hx hn)) (fun A1 B1 ad1 G1 hW1 hB => ⟨_, _, m_clause_0 hW1 (hI.congr hB) hxd (by rw [hB 9 (by decide)]; exact hn), by rw [hB 9 (by decide)], fun f hf => by rw [hB 9 (by decide)]; exact g22 (g22 hB) f hf, rfl⟩)
    · exact OP.ex 2 (by decide) (by decide) hI hP hW (w_clause_2 hW (c_clause_2 hW hI hx hn)) (fun A1 B1 ad1 G1 hW1 hB => ⟨_, m_clause_2 hW1 (hI.congr hB) hxd (by rw [hB 9 (by decide)]; exact hn)⟩)
  · have h1 : ¬ x = -1 := fun q => hx (Or.inl q)
    have h2 : inB x 8 = false := by
      cases q : inB x 8 with
      | false => rfl
      | true => exact absurd (Or.inr q) hx
    exact OP.ex 1 (by decide) (by decide) hI hP hW (w_clause_1 hW (c_clause_1 hW hI h1 h2)) (fun A1 B1 ad1 G1 hW1 hB => ⟨_, m_clause_1 hW1 (hI.congr hB) (by rw [decide_eq_false h1, h2]; rfl)⟩)
set_option maxHeartbeats 2000000 in
theorem o_text {b0 : Nat} {G : GH} {C : ST} {ad : AD} (hW : World C C ad G) (hI : Inv C) (hP : Pag C) (x y : Int32) : OP b0 C ad G mL_text mX9_text [.int x, .int y] (fun _ => True) := by
  have hb0 := hI.b0
  have hb2 := hI.b2
  have hb9 := hI.b9
  have hb15 := hI.b15
  have hb18 := hI.b18
  cases hx : inB x (C 9 0) with
  | false => exact OP.ex 1 (by decide) (by decide) hI hP hW (w_text_1 hW (c_text_1 hW hI (by rw [hx]; rfl))) (fun A1 B1 ad1 G1 hW1 hB => ⟨_, m_text_1a hW1 (hI.congr hB) (by rw [hB 9 (by decide)]; exact hx)⟩)
  | true =>
    obtain ⟨c, hc, rfl⟩ := inB_t (by omega) hx
    cases hy : inB y 3 with
    | false => exact OP.ex 1 (by decide) (by decide) hI hP hW (w_text_1 hW (c_text_1 hW hI (by rw [hy, Bool.and_false]))) (fun A1 B1 ad1 G1 hW1 hB => ⟨_, m_text_1b hW1 (hI.congr hB) (by rw [hB 9 (by decide)]; exact hc) hy⟩)
    | true =>
      obtain ⟨l, hl, rfl⟩ := inB_t (by omega) hy
      by_cases hff : ffS (rg C 1 0 60) (C 0 0) = -1
      · exact OP.ok trivial (i_text hI (by omega) hff) (w_text_0 hW (c_text_0 hW hI hP hc hl hff)) (fun A1 B1 ad1 G1 hW1 hB => ⟨_, _, m_text_0 hW1 (hI.congr hB) (by rw [hB 9 (by decide)]; exact hc) hl (by rw [rg_e (hB 1 (by decide)), hB 0 (by decide)]; exact hff), by rw [rg_e (hB 1 (by decide)), hB 0 (by decide)], fun f hf => by rw [hB 0 (by decide), setA_cm (f := 13) (g := 0) (by decide), setA_cm (f := 12) (g := 0) (by decide)]; exact g22 (g22 (g22 (c22 hB))) f hf, rfl⟩)
      · exact OP.ex 2 (by decide) (by decide) hI hP hW (w_text_2 hW (c_text_2 hW hI hc hl hff)) (fun A1 B1 ad1 G1 hW1 hB => ⟨_, m_text_2 hW1 (hI.congr hB) (by rw [hB 9 (by decide)]; exact hc) hl (by rw [rg_e (hB 1 (by decide)), hB 0 (by decide)]; exact hff)⟩)
set_option maxHeartbeats 2000000 in
theorem o_approve {b0 : Nat} {G : GH} {C : ST} {ad : AD} (hW : World C C ad G) (hI : Inv C) (hP : Pag C) (x y : Int32) : OP b0 C ad G mL_approve mX9_approve [.int x, .int y] yn := by
  have hb0 := hI.b0
  have hb2 := hI.b2
  have hb9 := hI.b9
  have hb15 := hI.b15
  have hb18 := hI.b18
  cases hx : inB x (C 9 0) with
  | false => exact OP.ex 1 (by decide) (by decide) hI hP hW (w_approve_1 hW (c_approve_1 hW hI (by rw [hx]; rfl))) (fun A1 B1 ad1 G1 hW1 hB => ⟨_, m_approve_1a hW1 (hI.congr hB) (by rw [hB 9 (by decide)]; exact hx)⟩)
  | true =>
    obtain ⟨c, hc, rfl⟩ := inB_t (by omega) hx
    cases hy : inB y 3 with
    | false => exact OP.ex 1 (by decide) (by decide) hI hP hW (w_approve_1 hW (c_approve_1 hW hI (by rw [hy, Bool.and_false]))) (fun A1 B1 ad1 G1 hW1 hB => ⟨_, m_approve_1b hW1 (hI.congr hB) (by rw [hB 9 (by decide)]; exact hc) hy⟩)
    | true =>
      obtain ⟨l, hl, rfl⟩ := inB_t (by omega) hy
      have htx := hI.tx (3 * c + l) (by omega)
      by_cases hth : 0 < C 12 (3 * c + l)
      · by_cases ha : C 13 (3 * c + l) = 0
        · exact OP.ok (yn_b _) (i_approve hI (by omega)) (w_approve_0 hW (b := true) (c_approve_0 hW hI hP hc hl hth ha)) (fun A1 B1 ad1 G1 hW1 hB => ⟨_, _, m_approve_0 hW1 (hI.congr hB) (by rw [hB 9 (by decide)]; exact hc) hl (by rw [hB 12 (by decide)]; exact hth) (by rw [hB 12 (by decide)]; exact htx.1) (by rw [hB 13 (by decide)]; exact ha), rfl, g22 hB, rfl⟩)
        · have ha : C 13 (3 * c + l) = 1 := by have := htx.2.1; omega
          exact OP.ok (yn_b _) (i_approve hI (by omega)) (w_approve_0 hW (b := false) (c_approve_0b hW hI hP hc hl hth ha)) (fun A1 B1 ad1 G1 hW1 hB => ⟨_, _, m_approve_0b hW1 (hI.congr hB) (by rw [hB 9 (by decide)]; exact hc) hl (by rw [hB 12 (by decide)]; exact hth) (by rw [hB 12 (by decide)]; exact htx.1) (by rw [hB 13 (by decide)]; exact ha), rfl, g22 hB, rfl⟩)
      · exact OP.ex 2 (by decide) (by decide) hI hP hW (w_approve_2 hW (c_approve_2 hW hI hc hl hth)) (fun A1 B1 ad1 G1 hW1 hB => ⟨_, m_approve_2 hW1 (hI.congr hB) (by rw [hB 9 (by decide)]; exact hc) hl (by rw [hB 12 (by decide)]; omega)⟩)
set_option maxHeartbeats 2000000 in
theorem o_relate {b0 : Nat} {G : GH} {C : ST} {ad : AD} (hW : World C C ad G) (hI : Inv C) (hP : Pag C) (x y z u : Int32) : OP b0 C ad G mL_relate mX9_relate [.int x, .int y, .int z, .int u] (fun _ => True) := by
  have hb0 := hI.b0
  have hb2 := hI.b2
  have hb9 := hI.b9
  have hb15 := hI.b15
  have hb18 := hI.b18
  cases hx : inB x (C 9 0) with
  | false => exact OP.ex 1 (by decide) (by decide) hI hP hW (w_relate_1 hW (c_relate_1a hW hI hx)) (fun A1 B1 ad1 G1 hW1 hB => ⟨_, m_relate_1a hW1 (hI.congr hB) (by rw [hB 9 (by decide)]; exact hx)⟩)
  | true =>
    obtain ⟨c, hc, rfl⟩ := inB_t (by omega) hx
    cases hy : inB y (C 9 0) with
    | false => exact OP.ex 1 (by decide) (by decide) hI hP hW (w_relate_1 hW (c_relate_1b hW hI hc hy)) (fun A1 B1 ad1 G1 hW1 hB => ⟨_, m_relate_1b hW1 (hI.congr hB) (by rw [hB 9 (by decide)]; exact hc) (by rw [hB 9 (by decide)]; exact hy)⟩)
    | true =>
      obtain ⟨o, ho, rfl⟩ := inB_t (by omega) hy
      by_cases hco : c = o
      · subst hco
        exact OP.ex 2 (by decide) (by decide) hI hP hW (w_relate_2 hW (c_relate_2a hW hI hc)) (fun A1 B1 ad1 G1 hW1 hB => ⟨_, m_relate_2a hW1 (hI.congr hB) (by rw [hB 9 (by decide)]; exact hc)⟩)
      · cases hz : inB z 4 with
        | false => exact OP.ex 2 (by decide) (by decide) hI hP hW (w_relate_2 hW (c_relate_2b hW hI hc ho hco hz)) (fun A1 B1 ad1 G1 hW1 hB => ⟨_, m_relate_2b hW1 (hI.congr hB) (by rw [hB 9 (by decide)]; exact hc) (by rw [hB 9 (by decide)]; exact ho) hco hz⟩)
        | true =>
          obtain ⟨k, hk, rfl⟩ := inB_t (by omega) hz
          cases hu : inB u 3 with
          | false =>
            rcases inB_no hu with q | ⟨q, q2⟩
            · exact OP.ex 2 (by decide) (by decide) hI hP hW (w_relate_2 hW (c_relate_2c hW hI hc ho hco hk q)) (fun A1 B1 ad1 G1 hW1 hB => ⟨_, m_relate_2c hW1 (hI.congr hB) (by rw [hB 9 (by decide)]; exact hc) (by rw [hB 9 (by decide)]; exact ho) hco hk hu⟩)
            · exact OP.ex 2 (by decide) (by decide) hI hP hW (w_relate_2 hW (c_relate_2d hW hI hc ho hco hk q (nI_nle1 (by decide) q2))) (fun A1 B1 ad1 G1 hW1 hB => ⟨_, m_relate_2c hW1 (hI.congr hB) (by rw [hB 9 (by decide)]; exact hc) (by rw [hB 9 (by decide)]; exact ho) hco hk hu⟩)
          | true =>
            obtain ⟨v, hv, rfl⟩ := inB_t (by omega) hu
            exact OP.ok trivial (i_relate hI hc ho hk hv) (w_relate_0 hW (c_relate_0 hW hI hP hc ho hco hk hv)) (fun A1 B1 ad1 G1 hW1 hB => ⟨_, _, m_relate_0 hW1 (hI.congr hB) (by rw [hB 9 (by decide)]; exact hc) (by rw [hB 9 (by decide)]; exact ho) hco hk hv, by rw [hB 14 (by decide), show 10 * (10 * k + c) + o = 100 * k + 10 * c + o by omega], fun f hf => by rw [show 10 * (10 * k + c) + o = 100 * k + 10 * c + o by omega]; exact g22 hB f hf, rfl⟩)
set_option maxHeartbeats 2000000 in
theorem o_isLinked {b0 : Nat} {G : GH} {C : ST} {ad : AD} (hW : World C C ad G) (hI : Inv C) (hP : Pag C) (x : Int32) : OP b0 C ad G mL_isLinked mX9_isLinked [.int x] yn := by
  have hb0 := hI.b0
  have hb2 := hI.b2
  have hb9 := hI.b9
  have hb15 := hI.b15
  have hb18 := hI.b18
  cases hx : inB x (C 9 0) with
  | false => exact OP.ex 1 (by decide) (by decide) hI hP hW (w_isLinked_1 hW (c_isLinked_1 hW hI hx)) (fun A1 B1 ad1 G1 hW1 hB => ⟨_, m_isLinked_1 hW1 (hI.congr hB) (by rw [hB 9 (by decide)]; exact hx)⟩)
  | true =>
    obtain ⟨c, hc, rfl⟩ := inB_t (by omega) hx
    exact OP.ok (yn_b _) (hI) (w_isLinked_0 hW (c_isLinked_0 hW hI hP hc)) (fun A1 B1 ad1 G1 hW1 hB => ⟨_, _, m_isLinked_0 hW1 (hI.congr hB) (by rw [hB 9 (by decide)]; exact hc), by rw [slk_c hB], hB, rfl⟩)
set_option maxHeartbeats 2000000 in
theorem o_letter {b0 : Nat} {G : GH} {C : ST} {ad : AD} (hW : World C C ad G) (hI : Inv C) (hP : Pag C)  : OP b0 C ad G mL_letter mX9_letter [] (fun _ => True) := by
  have hb0 := hI.b0
  have hb2 := hI.b2
  have hb9 := hI.b9
  have hb15 := hI.b15
  have hb18 := hI.b18
  by_cases hn : C 15 0 < 6
  · exact OP.ok trivial (i_letter hI hn) (w_letter_0 hW (c_letter_0 hW hI hP hn)) (fun A1 B1 ad1 G1 hW1 hB => ⟨_, _, m_letter_0 hW1 (hI.congr hB) (by rw [hB 15 (by decide)]; exact hn), by rw [hB 15 (by decide)], fun f hf => by rw [hB 15 (by decide)]; exact g22 hB f hf, rfl⟩)
  · exact OP.ex 1 (by decide) (by decide) hI hP hW (w_letter_1 hW (c_letter_1 hW hI hn)) (fun A1 B1 ad1 G1 hW1 hB => ⟨_, m_letter_1 hW1 (hI.congr hB) (by rw [hB 15 (by decide)]; exact hn)⟩)
set_option maxHeartbeats 2000000 in
theorem o_put {b0 : Nat} {G : GH} {C : ST} {ad : AD} (hW : World C C ad G) (hI : Inv C) (hP : Pag C) (x y : Int32) : OP b0 C ad G mL_put mX9_put [.int x, .int y] (fun _ => True) := by
  have hb0 := hI.b0
  have hb2 := hI.b2
  have hb9 := hI.b9
  have hb15 := hI.b15
  have hb18 := hI.b18
  cases hx : inB x (C 15 0) with
  | false => exact OP.ex 1 (by decide) (by decide) hI hP hW (w_put_1 hW (c_put_1a hW hI hx)) (fun A1 B1 ad1 G1 hW1 hB => ⟨_, m_put_1a hW1 (hI.congr hB) (by rw [hB 15 (by decide)]; exact hx)⟩)
  | true =>
    obtain ⟨l, hl, rfl⟩ := inB_t (by omega) hx
    cases hy : inB y (C 9 0) with
    | false => exact OP.ex 1 (by decide) (by decide) hI hP hW (w_put_1 hW (c_put_1b hW hI hl hy)) (fun A1 B1 ad1 G1 hW1 hB => ⟨_, m_put_1b hW1 (hI.congr hB) (by rw [hB 15 (by decide)]; exact hl) (by rw [hB 9 (by decide)]; exact hy)⟩)
    | true =>
      obtain ⟨c, hc, rfl⟩ := inB_t (by omega) hy
      cases hh : hlB C l c with
      | true => exact OP.ex 2 (by decide) (by decide) hI hP hW (w_put_2 hW (c_put_2a hW hI hl hc hh)) (fun A1 B1 ad1 G1 hW1 hB => ⟨_, m_put_2a hW1 (hI.congr hB) (by rw [hB 15 (by decide)]; exact hl) (by rw [hB 9 (by decide)]; exact hc) (by rw [hlB_c hB]; exact hh)⟩)
      | false =>
        by_cases hrm : C 17 l < 6
        · exact OP.ok trivial (i_put hI hl hc hh hrm) (w_put_0 hW (c_put_0 hW hI hP hl hc hh hrm)) (fun A1 B1 ad1 G1 hW1 hB => ⟨_, _, m_put_0 hW1 (hI.congr hB) (by rw [hB 15 (by decide)]; exact hl) (by rw [hB 9 (by decide)]; exact hc) (by rw [hlB_c hB]; exact hh) (by rw [hB 17 (by decide)]; exact hrm), by rw [hB 17 (by decide)], fun f hf => by rw [hB 17 (by decide)]; exact g22 (g22 hB) f hf, rfl⟩)
        · exact OP.ex 2 (by decide) (by decide) hI hP hW (w_put_2 hW (c_put_2b hW hI hl hc hh hrm)) (fun A1 B1 ad1 G1 hW1 hB => ⟨_, m_put_2b hW1 (hI.congr hB) (by rw [hB 15 (by decide)]; exact hl) (by rw [hB 9 (by decide)]; exact hc) (by rw [hlB_c hB]; exact hh) (by rw [hB 17 (by decide)]; exact hrm)⟩)
set_option maxHeartbeats 2000000 in
theorem o_data {b0 : Nat} {G : GH} {C : ST} {ad : AD} (hW : World C C ad G) (hI : Inv C) (hP : Pag C) (x y : Int32) : OP b0 C ad G mL_data mX9_data [.int x, .int y] (fun _ => True) := by
  have hb0 := hI.b0
  have hb2 := hI.b2
  have hb9 := hI.b9
  have hb15 := hI.b15
  have hb18 := hI.b18
  cases hx : inB x (C 2 0) with
  | false => exact OP.ex 1 (by decide) (by decide) hI hP hW (w_data_1 hW (c_data_1 hW hI hx)) (fun A1 B1 ad1 G1 hW1 hB => ⟨_, m_data_1 hW1 (hI.congr hB) (by rw [hB 2 (by decide)]; exact hx)⟩)
  | true =>
    obtain ⟨w, hw, rfl⟩ := inB_t (by omega) hx
    cases hy : inB y 256 with
    | false =>
      rcases inB_no hy with q | ⟨q, q2⟩
      · exact OP.ex 2 (by decide) (by decide) hI hP hW (w_data_2 hW (c_data_2a hW hI hw q)) (fun A1 B1 ad1 G1 hW1 hB => ⟨_, m_data_2 hW1 (hI.congr hB) (by rw [hB 2 (by decide)]; exact hw) hy⟩)
      · exact OP.ex 2 (by decide) (by decide) hI hP hW (w_data_2 hW (c_data_2b hW hI hw q (nI_nle1 (by decide) q2))) (fun A1 B1 ad1 G1 hW1 hB => ⟨_, m_data_2 hW1 (hI.congr hB) (by rw [hB 2 (by decide)]; exact hw) hy⟩)
    | true =>
      obtain ⟨b, hb, rfl⟩ := inB_t (by omega) hy
      by_cases hn : C 18 0 < 8
      · exact OP.ok trivial (i_data hI hw hb hn) (w_data_0 hW (c_data_0 hW hI hP hw hb hn)) (fun A1 B1 ad1 G1 hW1 hB => ⟨_, _, m_data_0 hW1 (hI.congr hB) (by rw [hB 2 (by decide)]; exact hw) hb (by rw [hB 18 (by decide)]; exact hn), by rw [hB 18 (by decide)], fun f hf => by rw [hB 18 (by decide)]; exact g22 (g22 (f22 hB)) f hf, rfl⟩)
      · exact OP.ex 3 (by decide) (by decide) hI hP hW (w_data_3 hW (c_data_3 hW hI hw hb hn)) (fun A1 B1 ad1 G1 hW1 hB => ⟨_, m_data_3 hW1 (hI.congr hB) (by rw [hB 2 (by decide)]; exact hw) hb (by rw [hB 18 (by decide)]; exact hn)⟩)
set_option maxHeartbeats 2000000 in
theorem o_fill {b0 : Nat} {G : GH} {C : ST} {ad : AD} (hW : World C C ad G) (hI : Inv C) (hP : Pag C) (x y z : Int32) : OP b0 C ad G mL_fill mX9_fill [.int x, .int y, .int z] (fun _ => True) := by
  have hb0 := hI.b0
  have hb2 := hI.b2
  have hb9 := hI.b9
  have hb15 := hI.b15
  have hb18 := hI.b18
  cases hx : inB x (C 18 0) with
  | false => exact OP.ex 1 (by decide) (by decide) hI hP hW (w_fill_1 hW (c_fill_1a hW hI hx)) (fun A1 B1 ad1 G1 hW1 hB => ⟨_, m_fill_1a hW1 (hI.congr hB) (by rw [hB 18 (by decide)]; exact hx)⟩)
  | true =>
    obtain ⟨t, ht, rfl⟩ := inB_t (by omega) hx
    cases hy : inB y 5 with
    | false => exact OP.ex 1 (by decide) (by decide) hI hP hW (w_fill_1 hW (c_fill_1b hW hI ht hy)) (fun A1 B1 ad1 G1 hW1 hB => ⟨_, m_fill_1b hW1 (hI.congr hB) (by rw [hB 18 (by decide)]; exact ht) hy⟩)
    | true =>
      obtain ⟨s, hs, rfl⟩ := inB_t (by omega) hy
      cases hz : inB z (C 2 0) with
      | false => exact OP.ex 1 (by decide) (by decide) hI hP hW (w_fill_1 hW (c_fill_1c hW hI ht hs hz)) (fun A1 B1 ad1 G1 hW1 hB => ⟨_, m_fill_1c hW1 (hI.congr hB) (by rw [hB 18 (by decide)]; exact ht) hs (by rw [hB 2 (by decide)]; exact hz)⟩)
      | true =>
        obtain ⟨q, hq, rfl⟩ := inB_t (by omega) hz
        exact OP.ok trivial (i_fill hI hs hq) (w_fill_0 hW (c_fill_0 hW hI hP ht hs hq)) (fun A1 B1 ad1 G1 hW1 hB => ⟨_, _, m_fill_0 hW1 (hI.congr hB) (by rw [hB 18 (by decide)]; exact ht) hs (by rw [hB 2 (by decide)]; exact hq), by rw [hB 19 (by decide), rgb hs], g22 hB, rfl⟩)
set_option maxHeartbeats 2000000 in
theorem o_price {b0 : Nat} {G : GH} {C : ST} {ad : AD} (hW : World C C ad G) (hI : Inv C) (hP : Pag C) (x y : Int32) : OP b0 C ad G mL_price mX9_price [.int x, .int y] (fun _ => True) := by
  have hb0 := hI.b0
  have hb2 := hI.b2
  have hb9 := hI.b9
  have hb15 := hI.b15
  have hb18 := hI.b18
  cases hx : inB x 3 with
  | false => exact OP.ex 1 (by decide) (by decide) hI hP hW (w_price_1 hW (c_price_1 hW hI hx)) (fun A1 B1 ad1 G1 hW1 hB => ⟨_, m_price_1 hW1 (hI.congr hB) hx⟩)
  | true =>
    obtain ⟨l, hl, rfl⟩ := inB_t (by omega) hx
    cases hy : inB y 1001 with
    | false =>
      rcases inB_no hy with q | ⟨q, q2⟩
      · exact OP.ex 2 (by decide) (by decide) hI hP hW (w_price_2 hW (c_price_2a hW hI hl q)) (fun A1 B1 ad1 G1 hW1 hB => ⟨_, m_price_2 hW1 (hI.congr hB) hl hy⟩)
      · exact OP.ex 2 (by decide) (by decide) hI hP hW (w_price_2 hW (c_price_2b hW hI hl q (nI_nle1 (by decide) q2))) (fun A1 B1 ad1 G1 hW1 hB => ⟨_, m_price_2 hW1 (hI.congr hB) hl hy⟩)
    | true =>
      obtain ⟨v, hv, rfl⟩ := inB_t (by omega) hy
      exact OP.ok trivial (i_price hI hv) (w_price_0 hW (c_price_0 hW hI hP hl hv)) (fun A1 B1 ad1 G1 hW1 hB => ⟨_, _, m_price_0 hW1 (hI.congr hB) hl hv, by rw [hB 21 (by decide)], g22 hB, rfl⟩)
set_option maxHeartbeats 2000000 in
theorem o_faultOf {b0 : Nat} {G : GH} {C : ST} {ad : AD} (hW : World C C ad G) (hI : Inv C) (hP : Pag C) (x y z u : Int32) : OP b0 C ad G mL_faultOf mX9_faultOf [.int x, .int y, .int z, .int u] (fun _ => True) := by
  have hb0 := hI.b0
  have hb2 := hI.b2
  have hb9 := hI.b9
  have hb15 := hI.b15
  have hb18 := hI.b18
  cases hx : inB x (C 15 0) with
  | false => 
    cases hy : inB y (C 18 0) with
    | false => exact OP.ex 1 (by decide) (by decide) hI hP hW (w_faultOf_1 hW (c_faultOf_1a hW hI hx hy)) (fun A1 B1 ad1 G1 hW1 hB => ⟨_, m_faultOf_1a hW1 (hI.congr hB) (by rw [hB 15 (by decide)]; exact hx)⟩)
    | true =>
      obtain ⟨e, he, rfl⟩ := inB_t (by omega) hy
      exact OP.ex 1 (by decide) (by decide) hI hP hW (w_faultOf_1 hW (c_faultOf_1b hW hI hx he)) (fun A1 B1 ad1 G1 hW1 hB => ⟨_, m_faultOf_1a hW1 (hI.congr hB) (by rw [hB 15 (by decide)]; exact hx)⟩)
  | true =>
    obtain ⟨l, hl, rfl⟩ := inB_t (by omega) hx
    cases hy : inB y (C 18 0) with
    | false => exact OP.ex 1 (by decide) (by decide) hI hP hW (w_faultOf_1 hW (c_faultOf_1c hW hI hl hy)) (fun A1 B1 ad1 G1 hW1 hB => ⟨_, m_faultOf_1b hW1 (hI.congr hB) (by rw [hB 15 (by decide)]; exact hl) (by rw [hB 18 (by decide)]; exact hy)⟩)
    | true =>
      obtain ⟨e, he, rfl⟩ := inB_t (by omega) hy
      cases hz : inB z 3 with
      | false => exact OP.ex 1 (by decide) (by decide) hI hP hW (w_faultOf_1 hW (c_faultOf_1d hW hI hl he hz)) (fun A1 B1 ad1 G1 hW1 hB => ⟨_, m_faultOf_1c hW1 (hI.congr hB) (by rw [hB 15 (by decide)]; exact hl) (by rw [hB 18 (by decide)]; exact he) hz⟩)
      | true =>
        obtain ⟨g, hg, rfl⟩ := inB_t (by omega) hz
        cases hu : inB u 4 with
        | false => exact OP.ex 2 (by decide) (by decide) hI hP hW (w_faultOf_2 hW (c_faultOf_2 hW hI hl he hg hu)) (fun A1 B1 ad1 G1 hW1 hB => ⟨_, m_faultOf_2 hW1 (hI.congr hB) (by rw [hB 15 (by decide)]; exact hl) (by rw [hB 18 (by decide)]; exact he) hg hu⟩)
        | true =>
          obtain ⟨k, hk, rfl⟩ := inB_t (by omega) hu
          exact OP.ok trivial (hI) (w_faultOf_0 hW (c_faultOf_0 hW hI hP hl he hg hk)) (fun A1 B1 ad1 G1 hW1 hB => ⟨_, _, m_faultOf_0 hW1 (hI.congr hB) (by rw [hB 15 (by decide)]; exact hl) (by rw [hB 18 (by decide)]; exact he) hg hk, by rw [fof_c hB, hB 17 (by decide)], hB, rfl⟩)
set_option maxHeartbeats 2000000 in
theorem o_sign {b0 : Nat} {G : GH} {C : ST} {ad : AD} (hW : World C C ad G) (hI : Inv C) (hP : Pag C) (x y z u : Int32) : OP b0 C ad G mL_sign mX9_sign [.int x, .int y, .int z, .int u] (fun _ => True) := by
  have hb0 := hI.b0
  have hb2 := hI.b2
  have hb9 := hI.b9
  have hb15 := hI.b15
  have hb18 := hI.b18
  cases hx : inB x (C 15 0) with
  | false => 
    cases hy : inB y (C 18 0) with
    | false => exact OP.ex 1 (by decide) (by decide) hI hP hW (w_sign_1 hW (c_sign_1a hW hI hx hy)) (fun A1 B1 ad1 G1 hW1 hB => ⟨_, m_sign_1a hW1 (hI.congr hB) (by rw [hB 15 (by decide)]; exact hx)⟩)
    | true =>
      obtain ⟨e, he, rfl⟩ := inB_t (by omega) hy
      exact OP.ex 1 (by decide) (by decide) hI hP hW (w_sign_1 hW (c_sign_1b hW hI hx he)) (fun A1 B1 ad1 G1 hW1 hB => ⟨_, m_sign_1a hW1 (hI.congr hB) (by rw [hB 15 (by decide)]; exact hx)⟩)
  | true =>
    obtain ⟨l, hl, rfl⟩ := inB_t (by omega) hx
    cases hy : inB y (C 18 0) with
    | false => exact OP.ex 1 (by decide) (by decide) hI hP hW (w_sign_1 hW (c_sign_1c hW hI hl hy)) (fun A1 B1 ad1 G1 hW1 hB => ⟨_, m_sign_1b hW1 (hI.congr hB) (by rw [hB 15 (by decide)]; exact hl) (by rw [hB 18 (by decide)]; exact hy)⟩)
    | true =>
      obtain ⟨e, he, rfl⟩ := inB_t (by omega) hy
      cases hz : inB z 3 with
      | false => exact OP.ex 1 (by decide) (by decide) hI hP hW (w_sign_1 hW (c_sign_1d hW hI hl he hz)) (fun A1 B1 ad1 G1 hW1 hB => ⟨_, m_sign_1c hW1 (hI.congr hB) (by rw [hB 15 (by decide)]; exact hl) (by rw [hB 18 (by decide)]; exact he) hz⟩)
      | true =>
        obtain ⟨g, hg, rfl⟩ := inB_t (by omega) hz
        by_cases hu : u < 0
        · exact OP.ex 1 (by decide) (by decide) hI hP hW (w_sign_1 hW (c_sign_1e hW hI hl he hg hu)) (fun A1 B1 ad1 G1 hW1 hB => ⟨_, m_sign_1d hW1 (hI.congr hB) (by rw [hB 15 (by decide)]; exact hl) (by rw [hB 18 (by decide)]; exact he) hg hu⟩)
        · obtain ⟨k, hk, rfl⟩ := nI_of hu
          exact OP.ok trivial (hI) (w_sign_0 hW (c_sign_0 hW hI hP hl he hg hk)) (fun A1 B1 ad1 G1 hW1 hB => ⟨_, _, m_sign_0 hW1 (hI.congr hB) (by rw [hB 15 (by decide)]; exact hl) (by rw [hB 18 (by decide)]; exact he) hg hk, by rw [ltA_c hB], hB, rfl⟩)
set_option maxHeartbeats 2000000 in
theorem o_signAnew {b0 : Nat} {G : GH} {C : ST} {ad : AD} (hW : World C C ad G) (hI : Inv C) (hP : Pag C) (x y z u : Int32) : OP b0 C ad G mL_signAnew mX9_signAnew [.int x, .int y, .int z, .int u] (fun _ => True) := by
  have hb0 := hI.b0
  have hb2 := hI.b2
  have hb9 := hI.b9
  have hb15 := hI.b15
  have hb18 := hI.b18
  cases hx : inB x (C 15 0) with
  | false => 
    cases hy : inB y (C 18 0) with
    | false => exact OP.ex 1 (by decide) (by decide) hI hP hW (w_signAnew_1 hW (c_signAnew_1a hW hI hx hy)) (fun A1 B1 ad1 G1 hW1 hB => ⟨_, m_signAnew_1a hW1 (hI.congr hB) (by rw [hB 15 (by decide)]; exact hx)⟩)
    | true =>
      obtain ⟨e, he, rfl⟩ := inB_t (by omega) hy
      exact OP.ex 1 (by decide) (by decide) hI hP hW (w_signAnew_1 hW (c_signAnew_1b hW hI hx he)) (fun A1 B1 ad1 G1 hW1 hB => ⟨_, m_signAnew_1a hW1 (hI.congr hB) (by rw [hB 15 (by decide)]; exact hx)⟩)
  | true =>
    obtain ⟨l, hl, rfl⟩ := inB_t (by omega) hx
    cases hy : inB y (C 18 0) with
    | false => exact OP.ex 1 (by decide) (by decide) hI hP hW (w_signAnew_1 hW (c_signAnew_1c hW hI hl hy)) (fun A1 B1 ad1 G1 hW1 hB => ⟨_, m_signAnew_1b hW1 (hI.congr hB) (by rw [hB 15 (by decide)]; exact hl) (by rw [hB 18 (by decide)]; exact hy)⟩)
    | true =>
      obtain ⟨e, he, rfl⟩ := inB_t (by omega) hy
      cases hz : inB z 3 with
      | false => exact OP.ex 1 (by decide) (by decide) hI hP hW (w_signAnew_1 hW (c_signAnew_1d hW hI hl he hz)) (fun A1 B1 ad1 G1 hW1 hB => ⟨_, m_signAnew_1c hW1 (hI.congr hB) (by rw [hB 15 (by decide)]; exact hl) (by rw [hB 18 (by decide)]; exact he) hz⟩)
      | true =>
        obtain ⟨g, hg, rfl⟩ := inB_t (by omega) hz
        by_cases hu : u < 0
        · exact OP.ex 1 (by decide) (by decide) hI hP hW (w_signAnew_1 hW (c_signAnew_1e hW hI hl he hg hu)) (fun A1 B1 ad1 G1 hW1 hB => ⟨_, m_signAnew_1d hW1 (hI.congr hB) (by rw [hB 15 (by decide)]; exact hl) (by rw [hB 18 (by decide)]; exact he) hg hu⟩)
        · obtain ⟨k, hk, rfl⟩ := nI_of hu
          exact OP.ok trivial (hI) (w_signAnew_0 hW (c_signAnew_0 hW hI hP hl he hg hk)) (fun A1 B1 ad1 G1 hW1 hB => ⟨_, _, m_signAnew_0 hW1 (hI.congr hB) (by rw [hB 15 (by decide)]; exact hl) (by rw [hB 18 (by decide)]; exact he) hg hk, by rw [ltA_c hB], hB, rfl⟩)
set_option maxHeartbeats 2000000 in
theorem o_costs {b0 : Nat} {G : GH} {C : ST} {ad : AD} (hW : World C C ad G) (hI : Inv C) (hP : Pag C) (x y z : Int32) : OP b0 C ad G mL_costs mX9_costs [.int x, .int y, .int z] (fun _ => True) := by
  have hb0 := hI.b0
  have hb2 := hI.b2
  have hb9 := hI.b9
  have hb15 := hI.b15
  have hb18 := hI.b18
  cases hx : inB x (C 15 0) with
  | false => 
    cases hy : inB y (C 18 0) with
    | false => exact OP.ex 1 (by decide) (by decide) hI hP hW (w_costs_1 hW (c_costs_1a hW hI hx hy)) (fun A1 B1 ad1 G1 hW1 hB => ⟨_, m_costs_1a hW1 (hI.congr hB) (by rw [hB 15 (by decide)]; exact hx)⟩)
    | true =>
      obtain ⟨e, he, rfl⟩ := inB_t (by omega) hy
      exact OP.ex 1 (by decide) (by decide) hI hP hW (w_costs_1 hW (c_costs_1b hW hI hx he)) (fun A1 B1 ad1 G1 hW1 hB => ⟨_, m_costs_1a hW1 (hI.congr hB) (by rw [hB 15 (by decide)]; exact hx)⟩)
  | true =>
    obtain ⟨l, hl, rfl⟩ := inB_t (by omega) hx
    cases hy : inB y (C 18 0) with
    | false => exact OP.ex 1 (by decide) (by decide) hI hP hW (w_costs_1 hW (c_costs_1c hW hI hl hy)) (fun A1 B1 ad1 G1 hW1 hB => ⟨_, m_costs_1b hW1 (hI.congr hB) (by rw [hB 15 (by decide)]; exact hl) (by rw [hB 18 (by decide)]; exact hy)⟩)
    | true =>
      obtain ⟨e, he, rfl⟩ := inB_t (by omega) hy
      cases hz : inB z 3 with
      | false => exact OP.ex 1 (by decide) (by decide) hI hP hW (w_costs_1 hW (c_costs_1d hW hI hl he hz)) (fun A1 B1 ad1 G1 hW1 hB => ⟨_, m_costs_1c hW1 (hI.congr hB) (by rw [hB 15 (by decide)]; exact hl) (by rw [hB 18 (by decide)]; exact he) hz⟩)
      | true =>
        obtain ⟨g, hg, rfl⟩ := inB_t (by omega) hz
        exact OP.ok trivial (hI) (w_costs_0 hW (c_costs_0 hW hI hP hl he hg)) (fun A1 B1 ad1 G1 hW1 hB => ⟨_, _, m_costs_0 hW1 (hI.congr hB) (by rw [hB 15 (by decide)]; exact hl) (by rw [hB 18 (by decide)]; exact he) hg, by rw [ltA_c hB, hB 21 (by decide)], hB, rfl⟩)
set_option maxHeartbeats 2000000 in
theorem o_sample {b0 : Nat} {G : GH} {C : ST} {ad : AD} (hW : World C C ad G) (hI : Inv C) (hP : Pag C) (x y : Int32) : OP b0 C ad G mL_sample mX9_sample [.int x, .int y] (fun _ => True) := by
  have hb0 := hI.b0
  have hb2 := hI.b2
  have hb9 := hI.b9
  have hb15 := hI.b15
  have hb18 := hI.b18
  cases hx : inB x (C 15 0) with
  | false => exact OP.ex 1 (by decide) (by decide) hI hP hW (w_sample_1 hW (c_sample_1a hW hI hx)) (fun A1 B1 ad1 G1 hW1 hB => ⟨_, m_sample_1a hW1 (hI.congr hB) (by rw [hB 15 (by decide)]; exact hx)⟩)
  | true =>
    obtain ⟨l, hl, rfl⟩ := inB_t (by omega) hx
    by_cases hu : y < 0
    · exact OP.ex 1 (by decide) (by decide) hI hP hW (w_sample_1 hW (c_sample_1b hW hI hl hu)) (fun A1 B1 ad1 G1 hW1 hB => ⟨_, m_sample_1b hW1 (hI.congr hB) (by rw [hB 15 (by decide)]; exact hl) hu⟩)
    · obtain ⟨k, hk, rfl⟩ := nI_of hu
      exact OP.ok trivial (hI) (w_sample_0 hW (c_sample_0 hW hI hP hl hk)) (fun A1 B1 ad1 G1 hW1 hB => ⟨_, _, m_sample_0 hW1 (hI.congr hB) (by rw [hB 15 (by decide)]; exact hl) hk, by rw [smF_c hB, hB 18 (by decide)], hB, rfl⟩)
theorem o_clear {b0 : Nat} {G : GH} {C : ST} {ad : AD} (hW : World C C ad G) (hI : Inv C) (hP : Pag C) : OD b0 C ad G mX8_clear mX9_clear := ⟨_, _, i_clear hI, c_clear_0 hW hI hP, fun A1 B1 ad1 G1 hW1 hB => (m_clear_0 hW1 (hI.congr hB)).mono (fun r G2 hh => by
  obtain ⟨g1, B2, g2, g3, g4⟩ := hh
  exact ⟨by rw [g1, hB 0 (by decide)], B2, g2, fun f hf => (g4 f (Or.inl hf)).trans (g22 hB f hf)⟩) (fun _ _ q => q)⟩
theorem o_fault {b0 : Nat} {G : GH} {C : ST} {ad : AD} (hW : World C C ad G) (hI : Inv C) (hP : Pag C) : OD b0 C ad G mX8_fault mX9_fault := ⟨_, _, hI, c_fault_0 hW hI hP, fun A1 B1 ad1 G1 hW1 hB => (m_fault_0 hW1 (hI.congr hB)).mono (fun r G2 hh => by
  obtain ⟨g1, B2, g2, g3, g4⟩ := hh
  exact ⟨by rw [g1, rg_e (hB 1 (by decide)), hB 0 (by decide)], B2, g2, fun f hf => (g4 f (Or.inl hf)).trans (hB f hf)⟩) (fun _ _ q => q)⟩
