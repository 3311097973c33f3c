section CC
variable {A A' : ST}
theorem rg_c {f b n : Nat} (h : A' f = A f) : rg A' f b n = rg A f b n := by unfold rg; rw [h]
theorem seg_c {f b n : Nat} (h : A' f = A f) : seg A' f b n = seg A f b n := by unfold seg; rw [h]
theorem fmL_c (E : ∀ f, f < 22 → A' f = A f) {l w g : Nat} : fmL A' l w g = fmL A l w g := by
  unfold fmL kpA
  rw [rg_c (E 3 (by decide)), rg_c (E 5 (by decide)), seg_c (E 3 (by decide)), seg_c (E 5 (by decide)), seg_c (E 7 (by decide)), E 8 (by decide), E 6 (by decide), E 4 (by decide)]
theorem txL_c (E : ∀ f, f < 22 → A' f = A f) {t e g : Nat} : ∀ n i, txL A' t e g n i = txL A t e g n i
  | 0, _ => rfl
  | n + 1, i => by
    show (if A' 12 t ≤ i then [] else if A' 11 (60 * t + i) = 91 then fmL A' g (A' 19 (5 * e + (A' 11 (60 * t + (i + 1)) - 48))) (2 * cseN (A' 11 (60 * t + (i + 2))) + nmbN (A' 11 (60 * t + (i + 3)))) ++ txL A' t e g n (i + 5) else A' 11 (60 * t + i) :: txL A' t e g n (i + 1)) = (if A 12 t ≤ i then [] else if A 11 (60 * t + i) = 91 then fmL A g (A 19 (5 * e + (A 11 (60 * t + (i + 1)) - 48))) (2 * cseN (A 11 (60 * t + (i + 2))) + nmbN (A 11 (60 * t + (i + 3)))) ++ txL A t e g n (i + 5) else A 11 (60 * t + i) :: txL A t e g n (i + 1))
    rw [E 12 (by decide), E 11 (by decide), E 19 (by decide), fmL_c E, txL_c E n, txL_c E n]
theorem meB_c (E : ∀ f, f < 22 → A' f = A f) {t c : Nat} : meB A' t c = meB A t c := by
  unfold meB meI
  rw [E 20 (by decide), E 10 (by decide)]
theorem cla_c (E : ∀ f, f < 22 → A' f = A f) {l p : Nat} : cla A' l p = cla A l p := by
  unfold cla
  rw [E 16 (by decide)]
theorem ltL_c (E : ∀ f, f < 22 → A' f = A f) {l e g : Nat} : ∀ n, ltL A' l e g n = ltL A l e g n
  | 0 => rfl
  | n + 1 => by
    have h1 : isL A' l e g n = isL A l e g n := by
      unfold isL
      rw [meB_c E, cla_c E, E 12 (by decide)]
    show (if isL A' l e g n = true then (if ltL A' l e g n = [] then txL A' (3 * cla A' l n + g) e g 60 0 else ltL A' l e g n ++ 32 :: txL A' (3 * cla A' l n + g) e g 60 0) else ltL A' l e g n) = (if isL A l e g n = true then (if ltL A l e g n = [] then txL A (3 * cla A l n + g) e g 60 0 else ltL A l e g n ++ 32 :: txL A (3 * cla A l n + g) e g 60 0) else ltL A l e g n)
    rw [h1, ltL_c E n, txL_c E, cla_c E]
theorem brF_c (E : ∀ f, f < 22 → A' f = A f) {l t n : Nat} : brF A' l t n = brF A l t n := by
  funext j
  unfold brF
  rw [E 10 (by decide), meB_c E, cla_c E]
theorem nws_c (E : ∀ f, f < 22 → A' f = A f) {l t : Nat} {f : Nat → Bool} : nws A' l f t = nws A l f t := by
  unfold nws
  rw [brF_c E, E 17 (by decide)]
theorem mbF_c (E : ∀ f, f < 22 → A' f = A f) {l : Nat} {f : Nat → Bool} : ∀ n, mbF A' l f n = mbF A l f n
  | 0 => rfl
  | n + 1 => by
    show (if nws A' l f n ≤ (mbF A' l f n).2 then mbF A' l f n else (nI n, nws A' l f n)) = (if nws A l f n ≤ (mbF A l f n).2 then mbF A l f n else (nI n, nws A l f n))
    rw [nws_c E, mbF_c E n]
theorem cvF_c (E : ∀ f, f < 22 → A' f = A f) {l : Nat} : ∀ n, cvF A' l n = cvF A l n
  | 0 => rfl
  | n + 1 => by
    show (fun j => cvF A' l n j || brF A' l (mbF A' l (cvF A' l n) (A' 18 0)).1.toNatClampNeg (A' 17 l) j) = (fun j => cvF A l n j || brF A l (mbF A l (cvF A l n) (A 18 0)).1.toNatClampNeg (A 17 l) j)
    rw [cvF_c E n, brF_c E, mbF_c E, E 17 (by decide), E 18 (by decide)]
theorem smF_c (E : ∀ f, f < 22 → A' f = A f) {l k : Nat} : ∀ n, smF A' l k n = smF A l k n
  | 0 => rfl
  | n + 1 => by
    show (if bsI A' l (A' 18 0 - (n + 1)) = -1 then -1 else if A' 18 0 - (n + 1) = k then bsI A' l (A' 18 0 - (n + 1)) else smF A' l k n) = (if bsI A l (A 18 0 - (n + 1)) = -1 then -1 else if A 18 0 - (n + 1) = k then bsI A l (A 18 0 - (n + 1)) else smF A l k n)
    unfold bsI
    rw [E 18 (by decide), cvF_c E, mbF_c E, smF_c E n]
theorem slB_c {f g : Nat → Int32} {len k : Nat} (h : f = g) : slB f len k = slB g len k := by rw [h]
theorem scn_c (E : ∀ f, f < 22 → A' f = A f) {t : Nat} {sl : Int32} : scn A' t sl = scn A t sl := by
  unfold scn
  rw [rg_c (E 11 (by decide)), E 12 (by decide)]
theorem scl_c (E : ∀ f, f < 22 → A' f = A f) {c : Nat} {sl : Int32} : ∀ n, scl A' c sl n = scl A c sl n
  | 0 => rfl
  | n + 1 => by
    show (if A' 12 (3 * c + n) = 0 then scl A' c sl n else nI (scn A' (3 * c + n) sl)) = (if A 12 (3 * c + n) = 0 then scl A c sl n else nI (scn A (3 * c + n) sl))
    rw [scl_c E n, scn_c E, E 12 (by decide)]
theorem sco_c (E : ∀ f, f < 22 → A' f = A f) {c : Nat} {sl : Int32} : ∀ n, sco A' c sl n = sco A c sl n
  | 0 => rfl
  | n + 1 => by
    show (sco A' c sl n && (decide (A' 12 (3 * c + n) = 0) || decide (scl A' c sl n = -1) || decide (scl A' c sl n = nI (scn A' (3 * c + n) sl)))) = (sco A c sl n && (decide (A 12 (3 * c + n) = 0) || decide (scl A c sl n = -1) || decide (scl A c sl n = nI (scn A (3 * c + n) sl))))
    rw [sco_c E n, scl_c E n, scn_c E, E 12 (by decide)]
theorem slk_c (E : ∀ f, f < 22 → A' f = A f) {c : Nat} : slk A' c = slk A c := by
  unfold slk
  exact allB_congr (fun s _ => sco_c E 3)
theorem hlB_c (E : ∀ f, f < 22 → A' f = A f) {l o : Nat} : hlB A' l o = hlB A l o := by
  unfold hlB
  rw [rg_c (E 16 (by decide)), E 17 (by decide)]
theorem rlB_c (E : ∀ f, f < 22 → A' f = A f) {l t c k h : Nat} : rlB A' l t c k h = rlB A l t c k h := by
  unfold rlB
  rw [E 9 (by decide)]
  congr 1
  refine allB_congr (fun o _ => ?_)
  unfold rlP isB
  rw [hlB_c E, meB_c E, E 14 (by decide)]
theorem fau_c (E : ∀ f, f < 22 → A' f = A f) {l t c g k : Nat} : fau A' l t c g k = fau A l t c g k := by
  unfold fau
  rw [rlB_c E, rlB_c E, E 12 (by decide), E 13 (by decide)]
theorem fap_c (E : ∀ f, f < 22 → A' f = A f) {l t g k p : Nat} : fap A' l t g k p = fap A l t g k p := by
  unfold fap
  rw [meB_c E, cla_c E, fau_c E]
theorem fof_c (E : ∀ f, f < 22 → A' f = A f) {l t g k : Nat} : ∀ n, fof A' l t g k n = fof A l t g k n
  | 0 => rfl
  | n + 1 => by
    show (if fap A' l t g k (A' 17 l - (n + 1)) = 0 then fof A' l t g k n else 10 * (A' 17 l - (n + 1)) + fap A' l t g k (A' 17 l - (n + 1))) = (if fap A l t g k (A 17 l - (n + 1)) = 0 then fof A l t g k n else 10 * (A 17 l - (n + 1)) + fap A l t g k (A 17 l - (n + 1)))
    rw [fof_c E n, fap_c E, E 17 (by decide)]
theorem ltA_c (E : ∀ f, f < 22 → A' f = A f) {l e g : Nat} : ltA A' l e g = ltA A l e g := by
  unfold ltA
  rw [ltL_c E, E 17 (by decide)]
end CC
/-- A below 22, P from there on -/
def mix (A P : ST) : ST := fun f => if f < 22 then A f else P f
theorem mix_f {A P : ST} : ∀ f, f < 22 → mix A P f = A f := fun _ h => if_pos h
theorem mix_of {A A' : ST} (h : ∀ f, f < 22 → A' f = A f) : mix A A' = A' := by
  funext f
  by_cases hf : f < 22
  · rw [mix_f f hf, h f hf]
  · exact if_neg hf
theorem Inv.mix {A P : ST} (h : Inv A) : Inv (mix A P) := h.congr mix_f
theorem s22 {X Y : ST} (h : ∀ f, f < 22 → X f = Y f) {f j v : Nat} : ∀ g, g < 22 → setA X f j v g = setA Y f j v g := fun g hg => by
  funext k; unfold setA; rw [h g hg]
theorem c22 {X Y : ST} (h : ∀ f, f < 22 → X f = Y f) {f b n : Nat} : ∀ g, g < 22 → cpyA X f b n g = cpyA Y f b n g := fun g hg => by
  funext k; unfold cpyA; rw [h g hg, h 1 (by decide)]
theorem f22 {X Y : ST} (h : ∀ f, f < 22 → X f = Y f) {n w : Nat} : ∀ g, g < 22 → fillA X n w g = fillA Y n w g := fun g hg => by
  funext k; unfold fillA; rw [h g hg]
def rk (j : Nat) : Nat := if j = 0 then 0 else 30 + j
/-- the law's view: the class's numbers A, its own rows B; Q tells where the object (0) and the rows (1 to 5) lie -/
def LW (Q : Nat → Nat) (A B : ST) (G : GH) : Prop := ∃ (P : ST) (ad : AD), World (mix A P) B ad G ∧ Pag (mix A P) ∧ ∀ j, j < 6 → ad (rk j) 0 = Q j
section LWS
variable {Q : Nat → Nat} {A B : ST} {G : GH}
theorem LW.r0 (h : LW Q A B G) : ∃ fs, G (Q 0) = some (.inr (8, fs)) := by
  obtain ⟨P, ad, hW, -, e⟩ := h
  have h9 := hW.g 0 0 rfl
  rw [show ad 0 0 = Q 0 from e 0 (by decide)] at h9
  exact ⟨_, h9⟩
theorem LW.r1 (h : LW Q A B G) : G (Q 1) = some (.inl (.int, 5, .inl (rg B 1 0 5))) := by
  obtain ⟨P, ad, hW, -, e⟩ := h
  have h9 := hW.g 31 0 rfl
  rw [show ad 31 0 = Q 1 from e 1 (by decide)] at h9
  exact h9
theorem LW.r2 (h : LW Q A B G) : G (Q 2) = some (.inl (.int, 64, .inl (rg B 2 0 64))) := by
  obtain ⟨P, ad, hW, -, e⟩ := h
  have h9 := hW.g 32 0 rfl
  rw [show ad 32 0 = Q 2 from e 2 (by decide)] at h9
  exact h9
theorem LW.r3 (h : LW Q A B G) : G (Q 3) = some (.inl (.int, 42, .inl (rg B 3 0 42))) := by
  obtain ⟨P, ad, hW, -, e⟩ := h
  have h9 := hW.g 33 0 rfl
  rw [show ad 33 0 = Q 3 from e 3 (by decide)] at h9
  exact h9
theorem LW.r4 (h : LW Q A B G) : G (Q 4) = some (.inl (.int, 8, .inl (rg B 4 0 8))) := by
  obtain ⟨P, ad, hW, -, e⟩ := h
  have h9 := hW.g 34 0 rfl
  rw [show ad 34 0 = Q 4 from e 4 (by decide)] at h9
  exact h9
theorem LW.r5 (h : LW Q A B G) : G (Q 5) = some (.inl (.int, 3, .inl (rg B 5 0 3))) := by
  obtain ⟨P, ad, hW, -, e⟩ := h
  have h9 := hW.g 35 0 rfl
  rw [show ad 35 0 = Q 5 from e 5 (by decide)] at h9
  exact h9
theorem LW.w1 (h : LW Q A B G) {j v : Nat} (hj : j < 5) : LW Q A (setA B 1 j v) (va_up G (Q 1) (some (.inl (.int, 5, .inl (upd (rg B 1 0 5) j (nI v)))))) := by
  obtain ⟨P, ad, hW, hP, e⟩ := h
  refine ⟨P, ad, ?_, hP, e⟩
  rw [← show ad 31 0 = Q 1 from e 1 (by decide)]
  exact b_1 hW hj
theorem LW.w2 (h : LW Q A B G) {j v : Nat} (hj : j < 64) : LW Q A (setA B 2 j v) (va_up G (Q 2) (some (.inl (.int, 64, .inl (upd (rg B 2 0 64) j (nI v)))))) := by
  obtain ⟨P, ad, hW, hP, e⟩ := h
  refine ⟨P, ad, ?_, hP, e⟩
  rw [← show ad 32 0 = Q 2 from e 2 (by decide)]
  exact b_2 hW hj
theorem LW.w3 (h : LW Q A B G) {j v : Nat} (hj : j < 42) : LW Q A (setA B 3 j v) (va_up G (Q 3) (some (.inl (.int, 42, .inl (upd (rg B 3 0 42) j (nI v)))))) := by
  obtain ⟨P, ad, hW, hP, e⟩ := h
  refine ⟨P, ad, ?_, hP, e⟩
  rw [← show ad 33 0 = Q 3 from e 3 (by decide)]
  exact b_3 hW hj
theorem LW.w4 (h : LW Q A B G) {j v : Nat} (hj : j < 8) : LW Q A (setA B 4 j v) (va_up G (Q 4) (some (.inl (.int, 8, .inl (upd (rg B 4 0 8) j (nI v)))))) := by
  obtain ⟨P, ad, hW, hP, e⟩ := h
  refine ⟨P, ad, ?_, hP, e⟩
  rw [← show ad 34 0 = Q 4 from e 4 (by decide)]
  exact b_4 hW hj
theorem LW.w5 (h : LW Q A B G) {j v : Nat} (hj : j < 3) : LW Q A (setA B 5 j v) (va_up G (Q 5) (some (.inl (.int, 3, .inl (upd (rg B 5 0 3) j (nI v)))))) := by
  obtain ⟨P, ad, hW, hP, e⟩ := h
  refine ⟨P, ad, ?_, hP, e⟩
  rw [← show ad 35 0 = Q 5 from e 5 (by decide)]
  exact b_5 hW hj
/-- what is told of the class's calls, in the law's view -/
abbrev LPo (v : Int32) (Q : Nat → Nat) (A2 B : ST) : Option Value → GH → Prop := fun r G' => r = some (.int v) ∧ LW Q A2 B G'
abbrev LNo (v : Int32) (G : GH) : Option Value → GH → Prop := fun r G' => r = some (.int v) ∧ G' = G
abbrev NoX : String → GH → Prop := fun _ _ => False
theorem LW.ok {N : MD} {d b0 mc ms : Nat} {As : List Value} {v : Int32} (h : LW Q A B G) (A2 : ST) (K : ∀ P ad, World (mix A P) B ad G → Pag (mix A P) → ∃ st, (∀ f, f < 22 → st f = A2 f) ∧ CT N d b0 G (.ref (ad 0 0) :: As) mc ms (OPo v st B ad (mix A P)) (fun _ _ => False)) : CT N d b0 G (.ref (Q 0) :: As) mc ms (LPo v Q A2 B) NoX := by
  obtain ⟨P, ad, hW, hP, e⟩ := h
  obtain ⟨st, hs, hC⟩ := K P ad hW hP
  rw [← show ad 0 0 = Q 0 from e 0 (by decide)]
  refine hC.mono (fun r G' hr => ?_) (fun _ _ h => h)
  obtain ⟨rfl, A', ad', hW', hk, hP', hf⟩ := hr
  have hm : mix A2 A' = A' := mix_of (fun f hf9 => (hf f hf9).trans (hs f hf9))
  refine ⟨rfl, A', ad', by rw [hm]; exact hW', by rw [hm]; exact hP', fun j hj => ?_⟩
  rw [← e j hj]
  refine hk (rk j) 0 ?_
  match j, hj with
  | 0, _ => rfl
  | 1, _ => rfl
  | 2, _ => rfl
  | 3, _ => rfl
  | 4, _ => rfl
  | 5, _ => rfl
  | j + 6, hj => exact absurd hj (by omega)
theorem LW.ex {N : MD} {d b0 mc ms : Nat} {As : List Value} {v : Int32} (h : LW Q A B G) (K : ∀ P ad, World (mix A P) B ad G → CT N d b0 G (.ref (ad 0 0) :: As) mc ms (fun r G' => r = some (.int v) ∧ G' = G) (fun _ _ => False)) : CT N d b0 G (.ref (Q 0) :: As) mc ms (LNo v G) NoX := by
  obtain ⟨P, ad, hW, hP, e⟩ := h
  have h9 := K P ad hW
  rw [show ad 0 0 = Q 0 from e 0 (by decide)] at h9
  exact h9
end LWS
theorem i2c_nI {c : Nat} (h : c < 65536) : ((nI c).toUInt32 % 65536).toInt32 = nI c := by
  obtain ⟨n, hn, e⟩ := (⟨((nI c).toUInt32 % 65536).toNat, by rw [UInt32.toNat_mod]; exact Nat.mod_lt _ (by decide), rfl⟩ : ∃ n, n < 65536 ∧ n = ((nI c).toUInt32 % 65536).toNat)
  apply Int32.toBitVec.inj
  show ((nI c).toUInt32 % 65536).toBitVec = BitVec.ofNat 32 c
  apply BitVec.eq_of_toNat_eq
  have e1 : ((nI c).toUInt32 % 65536).toNat = c := by
    rw [UInt32.toNat_mod]
    show (BitVec.ofNat 32 c).toNat % _ = c
    rw [BitVec.toNat_ofNat]
    show c % 2 ^ 32 % 65536 = c
    omega
  rw [show ((nI c).toUInt32 % 65536).toBitVec.toNat = ((nI c).toUInt32 % 65536).toNat from rfl, e1, BitVec.toNat_ofNat]
  omega
