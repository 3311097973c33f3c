/-! new objects by numbers: those of the list L and from 100 to below m; x0 is the object under construction -/
def US (L : List Nat) (m e : Nat) : Prop := e ∈ L ∨ (100 ≤ e ∧ e < m)
def NI (G Gj : GH) (x0 : Nat) (L : List Nat) (m : Nat) (F : Nat → Nat) : Prop := (∀ e, US L m e → G (F e) = none) ∧ (∀ e, US L m e → ∃ c, Gj (F e) = some c) ∧ (∀ e e', US L m e → US L m e' → F e = F e' → e = e') ∧ (∀ x c, G x = some c → x ≠ x0 → Gj x = some c) ∧ (∃ c, G x0 = some c) ∧ ∃ c, Gj x0 = some c
def upF (F : Nat → Nat) (e0 q : Nat) : Nat → Nat := fun e => if e = e0 then q else F e
theorem upF_s {F : Nat → Nat} {e0 q : Nat} : upF F e0 q e0 = q := by unfold upF; rw [if_pos rfl]
theorem upF_n {F : Nat → Nat} {e0 q e : Nat} (h : e ≠ e0) : upF F e0 q e = F e := by unfold upF; rw [if_neg h]
theorem NI.start {G : GH} {x0 : Nat} {c : LC} {F : Nat → Nat} (h : G x0 = some c) : NI G G x0 [] 100 F :=
  ⟨fun e he => by rcases he with q | q; cases q; omega, fun e he => by rcases he with q | q; cases q; omega, fun e e' he => by rcases he with q | q; cases q; omega, fun x c hx _ => hx, ⟨c, h⟩, ⟨c, h⟩⟩
theorem NI.fresh {G Gj : GH} {x0 m q : Nat} {L : List Nat} {F : Nat → Nat} (h : NI G Gj x0 L m F) (hq : Gj q = none) : G q = none := by
  cases hx : G q with
  | none => rfl
  | some c =>
    have hne : q ≠ x0 := fun e => by
      obtain ⟨c2, h2⟩ := h.2.2.2.2.2
      rw [e, h2] at hq; cases hq
    rw [h.2.2.2.1 q c hx hne] at hq; cases hq
/-- one more -/
theorem NI.new {G Gj : GH} {x0 m q e0 m' : Nat} {c : LC} {L L' : List Nat} {F : Nat → Nat} (h : NI G Gj x0 L m F) (hq : Gj q = none) (hn : ¬ US L m e0) (hs : ∀ e, US L' m' e → US L m e ∨ e = e0) : NI G (va_up Gj q (some c)) x0 L' m' (upF F e0 q) := by
  have hx0 : x0 ≠ q := fun e => by
    obtain ⟨c2, h2⟩ := h.2.2.2.2.2
    rw [e, hq] at h2; cases h2
  have hF : ∀ e, US L m e → F e ≠ q := fun e he r => by
    obtain ⟨c2, h2⟩ := h.2.1 e he
    rw [r, hq] at h2; cases h2
  have hee : ∀ e, US L m e → e ≠ e0 := fun e he r => hn (r ▸ he)
  refine ⟨fun e he => ?_, fun e he => ?_, fun e e' he he' r => ?_, fun x c2 hx hne => ?_, h.2.2.2.2.1, ?_⟩
  · rcases hs e he with k | k
    · rw [upF_n (hee e k)]; exact h.1 e k
    · rw [k, upF_s]; exact h.fresh hq
  · rcases hs e he with k | k
    · rw [upF_n (hee e k)]
      obtain ⟨c2, h2⟩ := h.2.1 e k
      exact ⟨c2, up_n (hF e k) h2⟩
    · rw [k, upF_s]; exact ⟨c, up_s⟩
  · rcases hs e he with k | k <;> rcases hs e' he' with k' | k'
    · rw [upF_n (hee e k), upF_n (hee e' k')] at r; exact h.2.2.1 e e' k k' r
    · rw [upF_n (hee e k), k', upF_s] at r; exact absurd r (hF e k)
    · rw [upF_n (hee e' k'), k, upF_s] at r; exact absurd r.symm (hF e' k')
    · rw [k, k']
  · have h2 := h.2.2.2.1 x c2 hx hne
    exact up_n (fun r => by rw [r, hq] at h2; cases h2) h2
  · obtain ⟨c2, h2⟩ := h.2.2.2.2.2
    exact ⟨c2, up_n hx0 h2⟩
/-- a cell of it is written -/
theorem NI.put {G Gj : GH} {x0 m a : Nat} {c : LC} {L : List Nat} {F : Nat → Nat} (h : NI G Gj x0 L m F) (ha : a = x0 ∨ G a = none) : NI G (va_up Gj a (some c)) x0 L m F := by
  have key : ∀ x : Nat, (∃ c, Gj x = some c) → ∃ c', va_up Gj a (some c) x = some c' := fun x hx => by
    by_cases e : x = a
    · rw [e]; exact ⟨c, up_s⟩
    · obtain ⟨c2, h2⟩ := hx
      exact ⟨c2, up_n e h2⟩
  refine ⟨h.1, fun e he => key _ (h.2.1 e he), h.2.2.1, fun x c2 hx hne => ?_, h.2.2.2.2.1, key _ h.2.2.2.2.2⟩
  refine up_n (fun r => ?_) (h.2.2.2.1 x c2 hx hne)
  rcases ha with k | k
  · exact hne (r.trans k)
  · rw [r, k] at hx; cases hx
/-- what a constructor called within has made -/
def jF (M : List Nat) (F1 F : Nat → Nat) : Nat → Nat := fun e => if e ∈ M ∨ 100 ≤ e then F1 e else F e
theorem NI.join {G Gj G' : GH} {x0 e1 m : Nat} {L M L' : List Nat} {F F1 : Nat → Nat} (h : NI G Gj x0 L 100 F) (h1 : NI Gj G' (F e1) M m F1) (he1 : e1 ∈ L) (hd : ∀ e, e ∈ M → ¬ e ∈ L ∧ e < 100) (hl : ∀ e, e ∈ L → e < 100) (hs : ∀ e, e ∈ L' → e ∈ L ∨ e ∈ M) : NI G G' x0 L' m (jF M F1 F) := by
  have hcase : ∀ e, US L' m e → (US M m e ∧ jF M F1 F e = F1 e) ∨ (e ∈ L ∧ jF M F1 F e = F e) := fun e he => by
    rcases he with k | k
    · rcases hs e k with k2 | k2
      · have h9 := hl e k2
        refine Or.inr ⟨k2, if_neg (fun r => ?_)⟩
        rcases r with r | r
        · exact (hd e r).1 k2
        · omega
      · exact Or.inl ⟨Or.inl k2, if_pos (Or.inl k2)⟩
    · exact Or.inl ⟨Or.inr k, if_pos (Or.inr k.1)⟩
  have hF1 : G (F e1) = none := h.1 e1 (Or.inl he1)
  have hx01 : x0 ≠ F e1 := fun r => by
    obtain ⟨c, hc⟩ := h.2.2.2.2.1
    rw [r, hF1] at hc; cases hc
  have hx : ∀ e, e ∈ L → ∃ c, G' (F e) = some c := fun e he => by
    by_cases r : F e = F e1
    · rw [r]; exact h1.2.2.2.2.2
    · obtain ⟨c, hc⟩ := h.2.1 e (Or.inl he)
      exact ⟨c, h1.2.2.2.1 _ c hc r⟩
  refine ⟨fun e he => ?_, fun e he => ?_, fun e e' he he' r => ?_, fun x c hx2 hne => ?_, h.2.2.2.2.1, ?_⟩
  · rcases hcase e he with ⟨k, k2⟩ | ⟨k, k2⟩
    · rw [k2]; exact h.fresh (h1.1 e k)
    · rw [k2]; exact h.1 e (Or.inl k)
  · rcases hcase e he with ⟨k, k2⟩ | ⟨k, k2⟩
    · rw [k2]; exact h1.2.1 e k
    · rw [k2]; exact hx e k
  · rcases hcase e he with ⟨k, k2⟩ | ⟨k, k2⟩ <;> rcases hcase e' he' with ⟨k', k2'⟩ | ⟨k', k2'⟩
    · rw [k2, k2'] at r; exact h1.2.2.1 e e' k k' r
    · rw [k2, k2'] at r
      obtain ⟨c, hc⟩ := h.2.1 e' (Or.inl k')
      rw [← r, h1.1 e k] at hc; cases hc
    · rw [k2, k2'] at r
      obtain ⟨c, hc⟩ := h.2.1 e (Or.inl k)
      rw [r, h1.1 e' k'] at hc; cases hc
    · rw [k2, k2'] at r; exact h.2.2.1 e e' (Or.inl k) (Or.inl k') r
  · exact h1.2.2.2.1 x c (h.2.2.2.1 x c hx2 hne) (fun r => by rw [r, hF1] at hx2; cases hx2)
  · obtain ⟨c, hc⟩ := h.2.2.2.2.2
    exact ⟨c, h1.2.2.2.1 x0 c hc hx01⟩
theorem US_cons {L : List Nat} {m e0 : Nat} : ∀ e, US (e0 :: L) m e → US L m e ∨ e = e0 := fun e he => by
  rcases he with k | k
  · rcases List.mem_cons.mp k with r | r
    · exact Or.inr r
    · exact Or.inl (Or.inl r)
  · exact Or.inl (Or.inr k)
theorem US_not {L : List Nat} {m e0 : Nat} (h : ¬ e0 ∈ L) (h2 : e0 < 100) : ¬ US L m e0 := fun q => by
  rcases q with k | k
  · exact h k
  · omega
/-- the words' constructor: what stands after j endings -/
def NewW (G Gj : GH) (a : Nat) (F : Nat → Nat) (j : Nat) : Prop := NI G Gj a [6, 5, 4] (100 + 2 * j) F ∧ Gj a = some (.inr (7, [.ref (F 4), .ref (F 5), .ref (F 6), .int 0])) ∧ Gj (F 4) = some (.inl (.object RX5, 12, .inr (.inr (.inr (.inr (fun _ => none)))))) ∧ Gj (F 5) = some (.inl (.object RX5, 24, .inr (.inr (.inr (.inr (fun i => if i < j then some (F (100 + 2 * i)) else none)))))) ∧ Gj (F 6) = some (.inl (.object RX5, 288, .inr (.inr (.inr (.inr (fun _ => none)))))) ∧ ∀ i, i < j → Gj (F (100 + 2 * i)) = some (sgC (F (101 + 2 * i)) 0) ∧ Gj (F (101 + 2 * i)) = some (chA 4 (fun _ => 0))
theorem NewW.step {G Gj : GH} {a : Nat} {F : Nat → Nat} {j t s : Nat} {raw : LC} (h : NewW G Gj a F j) (hj : j < 24) (ht : Gj t = none) (hs : va_up Gj t (some raw) s = none) : NewW G (va_up (va_up (va_up (va_up Gj t (some raw)) s (some (chA 4 (fun _ => 0)))) t (some (sgC s 0))) (F 5) (some (.inl (.object RX5, 24, .inr (.inr (.inr (.inr (va_up (fun i => if i < j then some (F (100 + 2 * i)) else none) j (some t))))))))) a (upF (upF F (100 + 2 * j) t) (101 + 2 * j) s) (j + 1) := by
  obtain ⟨h0, h1, h2, h3, h4, h5⟩ := h
  have hts : t ≠ s := fun e => by rw [e, up_s] at hs; cases hs
  have hs0 : Gj s = none := by
    unfold va_up at hs
    rw [if_neg (fun e => hts e.symm)] at hs; exact hs
  have m5 : US [6, 5, 4] (100 + 2 * j) 5 := Or.inl (by decide)
  have m4 : US [6, 5, 4] (100 + 2 * j) 4 := Or.inl (by decide)
  have m6 : US [6, 5, 4] (100 + 2 * j) 6 := Or.inl (by decide)
  have n0 := (h0.new (c := raw) (L' := [6, 5, 4]) (m' := 101 + 2 * j) (e0 := 100 + 2 * j) ht (fun q => by rcases q with q | q; simp at q; omega; omega) (fun e he => by
    rcases he with q | q
    · exact Or.inl (Or.inl q)
    · by_cases r : e = 100 + 2 * j
      · exact Or.inr r
      · exact Or.inl (Or.inr (by omega))))
  have n1 := (n0.new (c := chA 4 (fun _ => 0)) (L' := [6, 5, 4]) (m' := 100 + 2 * (j + 1)) (e0 := 101 + 2 * j) hs (fun q => by rcases q with q | q; simp at q; omega; omega) (fun e he => by
    rcases he with q | q
    · exact Or.inl (Or.inl q)
    · by_cases r : e = 101 + 2 * j
      · exact Or.inr r
      · exact Or.inl (Or.inr (by omega))))
  have n2 := (n1.put (a := t) (c := sgC s 0) (Or.inr (h0.fresh ht)))
  have n3 := (n2.put (a := F 5) (c := .inl (.object RX5, 24, .inr (.inr (.inr (.inr (va_up (fun i => if i < j then some (F (100 + 2 * i)) else none) j (some t))))))) (Or.inr (h0.1 5 m5)))
  have F4 : upF (upF F (100 + 2 * j) t) (101 + 2 * j) s 4 = F 4 := by rw [upF_n (by omega), upF_n (by omega)]
  have F5 : upF (upF F (100 + 2 * j) t) (101 + 2 * j) s 5 = F 5 := by rw [upF_n (by omega), upF_n (by omega)]
  have F6 : upF (upF F (100 + 2 * j) t) (101 + 2 * j) s 6 = F 6 := by rw [upF_n (by omega), upF_n (by omega)]
  have Ft : upF (upF F (100 + 2 * j) t) (101 + 2 * j) s (100 + 2 * j) = t := by rw [upF_n (by omega), upF_s]
  have Fs9 : upF (upF F (100 + 2 * j) t) (101 + 2 * j) s (101 + 2 * j) = s := upF_s
  have Fo : ∀ e, e < 100 + 2 * j → upF (upF F (100 + 2 * j) t) (101 + 2 * j) s e = F e := fun e he => by rw [upF_n (by omega), upF_n (by omega)]
  have k : ∀ x c, Gj x = some c → x ≠ F 5 → va_up (va_up (va_up (va_up Gj t (some raw)) s (some (chA 4 (fun _ => 0)))) t (some (sgC s 0))) (F 5) (some (.inl (.object RX5, 24, .inr (.inr (.inr (.inr (va_up (fun i => if i < j then some (F (100 + 2 * i)) else none) j (some t)))))))) x = some c := fun x c hx hne =>
    up_n hne (up_n (cx_nf hx ht) (up_n (cx_nf hx hs0) (up_n (cx_nf hx ht) hx)))
  have t5 : t ≠ F 5 := fun e => by rw [← e, ht] at h3; cases h3
  have s5 : s ≠ F 5 := fun e => by rw [← e, hs0] at h3; cases h3
  refine ⟨n3, ?_, ?_, ?_, ?_, fun i hi => ?_⟩
  · rw [F4, F5, F6]; exact k _ _ h1 (cx_ne h1 h3 (by simp))
  · rw [F4]; exact k _ _ h2 (fun e => by have := h0.2.2.1 4 5 m4 m5 e; omega)
  · rw [F5]
    refine up_s.trans ?_
    congr 8
    funext i
    unfold va_up
    by_cases e : i = j
    · rw [if_pos e, if_pos (by omega), e, Ft]
    · rw [if_neg e]
      show (if i < j then some (F (100 + 2 * i)) else none) = _
      by_cases e2 : i < j
      · rw [if_pos e2, if_pos (by omega), Fo _ (by omega)]
      · rw [if_neg e2, if_neg (by omega)]
  · rw [F6]; exact k _ _ h4 (fun e => by have := h0.2.2.1 6 5 m6 m5 e; omega)
  · by_cases e : i = j
    · rw [e, Ft, Fs9]
      exact ⟨up_n t5 up_s, up_n s5 (up_n (fun r => hts r.symm) up_s)⟩
    · have hi2 : i < j := by omega
      rw [Fo (100 + 2 * i) (by omega), Fo (101 + 2 * i) (by omega)]
      exact ⟨k _ _ (h5 i hi2).1 (fun r => by have := h0.2.2.1 _ 5 (Or.inr (by omega)) m5 r; omega), k _ _ (h5 i hi2).2 (fun r => by have := h0.2.2.1 _ 5 (Or.inr (by omega)) m5 r; omega)⟩
