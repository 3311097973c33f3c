/-! what always holds is kept by every call -/
theorem setA_lt {C : ST} {f j v N : Nat} (h : ∀ k, C f k < N) (hv : v < N) : ∀ k, setA C f j v f k < N := fun k => by
  by_cases e : k = j
  · rw [e, setA_s]; exact hv
  · rw [setA_n e]; exact h k
theorem cpyA_lt {C : ST} {f b n N : Nat} (h1 : ∀ k, C 1 k < N) (h : ∀ k, C f k < N) : ∀ k, cpyA C f b n f k < N := fun k => by
  by_cases e : b ≤ k ∧ k < b + n
  · rw [cpyA_in e]; exact h1 _
  · rw [cpyA_out e]; exact h k
theorem ltB_sml {C : ST} {lo hi : Nat} (h0 : C 0 0 ≤ 60) (hC : ∀ k, C 1 k < 65536) (h : ltB C lo hi = true) : ∀ k, k < C 0 0 → sml (C 1 k) := fun k hk => by
  unfold ltB at h
  rw [Bool.and_eq_true] at h
  have h1 := (allB_iff _ _).mp h.1 k hk
  rw [rgm (by omega)] at h1
  unfold smB at h1
  rw [sm_n (hC k)] at h1
  cases hs : smn (C 1 k) with
  | true => exact of_decide_eq_true (p := 97 ≤ C 1 k ∧ C 1 k ≤ 122) hs
  | false => rw [hs] at h1; exact absurd h1 (by decide)
theorem pw_congr {f g : Nat → Nat} : ∀ n, (∀ k, k < n → f k = g k) → pw f n = pw g n
  | 0, _ => rfl
  | n + 1, h => by
    show nxt (pw f n) (f n) = nxt (pw g n) (g n)
    rw [pw_congr n (fun k hk => h k (by omega)), h n (by omega)]
theorem ffI_ok {f : Nat → Int32} {len : Nat} (hl : len < 2 ^ 31) : ∀ n, ffI f len n = -1 → cw f len = 0
  | 0, h => by
    have e : ffI f len 0 = if len = 0 then nI 0 else if cw f len = 0 then -1 else nI len := rfl
    rw [e] at h
    by_cases h0 : len = 0
    · rw [if_pos h0] at h; exact absurd h (nI_nm1 (by decide))
    · rw [if_neg h0] at h
      by_cases h1 : cw f len = 0
      · exact h1
      · rw [if_neg h1] at h; exact absurd h (nI_nm1 hl)
  | n + 1, h => by
    have e : ffI f len (n + 1) = if cw f (len - n) = 5 then nI (len - (n + 1)) else ffI f len n := rfl
    rw [e] at h
    by_cases h0 : cw f (len - n) = 5
    · rw [if_pos h0] at h; exact absurd h (nI_nm1 (by omega))
    · rw [if_neg h0] at h; exact ffI_ok hl n h
theorem ffS_pw {C : ST} (h0 : C 0 0 ≤ 60) (hC : ∀ k, C 1 k < 65536) (h : ffS (rg C 1 0 60) (C 0 0) = -1) : pw (C 1) (C 0 0) = 0 := by
  rw [← cw_pw hC _ h0]
  exact ffI_ok (by omega) _ h
section KEPT
variable {C : ST}
theorem i_type (h : Inv C) {c : Nat} (hc : c < 65536) (hlt : C 0 0 < 60) : Inv (setA (setA C 1 (C 0 0) c) 0 0 (C 0 0 + 1)) :=
  ⟨(by show C 0 0 + 1 ≤ 60; omega), h.b2, h.b9, h.b15, h.b18, ⟨fun k => setA_lt (f := 1) h.ch.1 hc k, h.ch.2.1, h.ch.2.2.1, h.ch.2.2.2.1, h.ch.2.2.2.2⟩, h.st, h.en, h.ow, h.co, h.tx, h.re, h.ro, h.da, h.pr, h.ze⟩
theorem i_clear (h : Inv C) : Inv (setA C 0 0 0) :=
  ⟨Nat.zero_le _, h.b2, h.b9, h.b15, h.b18, h.ch, h.st, h.en, h.ow, h.co, h.tx, h.re, h.ro, h.da, h.pr, h.ze⟩
theorem i_price (h : Inv C) {l v : Nat} (hv : v < 1001) : Inv (setA C 21 l v) :=
  ⟨h.b0, h.b2, h.b9, h.b15, h.b18, h.ch, h.st, h.en, h.ow, h.co, h.tx, h.re, h.ro, h.da, fun i hi => by
    show setA C 21 l v 21 i ≤ 1000
    by_cases e : i = l
    · rw [e, setA_s]; omega
    · rw [setA_n e]; exact h.pr i hi, h.ze⟩
theorem i_fill (h : Inv C) {t s q : Nat} (hs : s < 5) (hq : q < C 2 0) : Inv (setA C 19 (5 * t + s) q) :=
  ⟨h.b0, h.b2, h.b9, h.b15, h.b18, h.ch, h.st, h.en, h.ow, h.co, h.tx, h.re, h.ro, fun i hi => ⟨(h.da i hi).1, fun k hk => by
    show setA C 19 (5 * t + s) q 19 (5 * i + k) < C 2 0
    by_cases e : 5 * i + k = 5 * t + s
    · rw [e, setA_s]; exact hq
    · rw [setA_n e]; exact (h.da i hi).2 k hk⟩, h.pr, h.ze⟩
theorem i_data (h : Inv C) {w b : Nat} (hw : w < C 2 0) (hb : b < 256) (hn : C 18 0 < 8) : Inv (setA (setA (fillA C (C 18 0) w) 20 (C 18 0) b) 18 0 (C 18 0 + 1)) :=
  ⟨h.b0, h.b2, h.b9, h.b15, (by show C 18 0 + 1 ≤ 8; omega), h.ch, h.st, h.en, h.ow, h.co, h.tx, h.re, h.ro, fun i hi => by
    have hi2 : i < C 18 0 + 1 := hi
    show (if i = C 18 0 then b else C 20 i) ≤ 255 ∧ ∀ k, k < 5 → (if 5 * C 18 0 ≤ 5 * i + k ∧ 5 * i + k < 5 * C 18 0 + 5 then w else C 19 (5 * i + k)) < C 2 0
    by_cases e : i = C 18 0
    · rw [if_pos e]
      refine ⟨by omega, fun k hk => ?_⟩
      rw [if_pos (by omega)]; exact hw
    · rw [if_neg e]
      refine ⟨(h.da i (by omega)).1, fun k hk => ?_⟩
      rw [if_neg (by omega)]; exact (h.da i (by omega)).2 k hk, h.pr, h.ze⟩
theorem i_letter (h : Inv C) (hn : C 15 0 < 6) : Inv (setA C 15 0 (C 15 0 + 1)) :=
  ⟨h.b0, h.b2, h.b9, (by show C 15 0 + 1 ≤ 6; omega), h.b18, h.ch, h.st, h.en, h.ow, h.co, h.tx, h.re, h.ro, h.da, h.pr, h.ze.1, h.ze.2.1, h.ze.2.2.1, h.ze.2.2.2.1, h.ze.2.2.2.2.1, fun l hl => h.ze.2.2.2.2.2.1 l (Nat.le_of_succ_le hl), fun j hj => h.ze.2.2.2.2.2.2 j (by have hj2 : 6 * (C 15 0 + 1) ≤ j := hj; omega)⟩
theorem i_approve (h : Inv C) {t : Nat} (ht : t < 3 * C 9 0) : Inv (setA C 13 t 1) :=
  ⟨h.b0, h.b2, h.b9, h.b15, h.b18, h.ch, h.st, h.en, h.ow, h.co, fun i hi => ⟨(h.tx i hi).1, by
    show setA C 13 t 1 13 i ≤ 1
    by_cases e : i = t
    · rw [e, setA_s]; exact Nat.le_refl 1
    · rw [setA_n e]; exact (h.tx i hi).2.1, (h.tx i hi).2.2⟩, h.re, h.ro, h.da, h.pr, h.ze.1, h.ze.2.1, fun i hi => by
    show C 12 i = 0 ∧ setA C 13 t 1 13 i = 0
    have hi2 : 3 * C 9 0 ≤ i := hi
    rw [setA_n (by omega)]; exact h.ze.2.2.1 i hi, h.ze.2.2.2.1, h.ze.2.2.2.2.1, h.ze.2.2.2.2.2.1, h.ze.2.2.2.2.2.2⟩
theorem i_relate (h : Inv C) {c o k v : Nat} (hc : c < C 9 0) (ho : o < C 9 0) (hk : k < 4) (hv : v < 3) : Inv (setA C 14 (100 * k + 10 * c + o) v) := by
  have h9 := h.b9
  exact ⟨h.b0, h.b2, h.b9, h.b15, h.b18, h.ch, h.st, h.en, h.ow, h.co, h.tx, fun j => by
    show setA C 14 (100 * k + 10 * c + o) v 14 j ≤ 2
    by_cases e : j = 100 * k + 10 * c + o
    · rw [e, setA_s]; omega
    · rw [setA_n e]; exact h.re j, h.ro, h.da, h.pr, h.ze.1, h.ze.2.1, h.ze.2.2.1, h.ze.2.2.2.1, fun k2 c2 o2 g1 g2 g3 g4 => by
    show setA C 14 (100 * k + 10 * c + o) v 14 (100 * k2 + 10 * c2 + o2) = 0
    have g22 : C 9 0 ≤ c2 := g2
    rw [setA_n (by omega)]; exact h.ze.2.2.2.2.1 k2 c2 o2 g1 g2 g3 g4, h.ze.2.2.2.2.2.1, h.ze.2.2.2.2.2.2⟩
theorem i_clause (h : Inv C) {b : Nat} (hb : b ≤ 8) (hn : C 9 0 < 10) : Inv (setA (setA C 10 (C 9 0) b) 9 0 (C 9 0 + 1)) :=
  ⟨h.b0, h.b2, (by show C 9 0 + 1 ≤ 10; omega), h.b15, h.b18, h.ch, h.st, h.en, h.ow, fun c hc => by
    have hc2 : c < C 9 0 + 1 := hc
    show setA C 10 (C 9 0) b 10 c ≤ 8
    by_cases e : c = C 9 0
    · rw [e, setA_s]; exact hb
    · rw [setA_n e]; exact h.co c (by omega), h.tx, h.re, fun l hl => ⟨(h.ro l hl).1, fun k hk => ⟨Nat.lt_succ_of_lt ((h.ro l hl).2 k hk).1, ((h.ro l hl).2 k hk).2⟩⟩, h.da, h.pr, h.ze.1, h.ze.2.1, fun t ht => h.ze.2.2.1 t (by have ht2 : 3 * (C 9 0 + 1) ≤ t := ht; omega), fun j hj => h.ze.2.2.2.1 j (by have hj2 : 180 * (C 9 0 + 1) ≤ j := hj; omega), fun k c o g1 g2 g3 g4 => h.ze.2.2.2.2.1 k c o g1 (Nat.le_of_succ_le g2) g3 g4, h.ze.2.2.2.2.2.1, h.ze.2.2.2.2.2.2⟩
theorem hlB_no {l c : Nat} (h17 : C 17 l ≤ 6) (h16 : ∀ k, k < C 17 l → C 16 (6 * l + k) < 2 ^ 31) (hc : c < 2 ^ 31) (h : hlB C l c = false) : ∀ k, k < C 17 l → C 16 (6 * l + k) ≠ c := fun k hk e => by
  have h2 := hlB_in (A := C) (l := l) (p := k) h17 hk
  rw [show cla C l k = c from e, h] at h2
  cases h2
theorem i_put (h : Inv C) {l c : Nat} (hl : l < C 15 0) (hc : c < C 9 0) (hh : hlB C l c = false) (hrm : C 17 l < 6) : Inv (setA (setA C 16 (6 * l + C 17 l) c) 17 l (C 17 l + 1)) := by
  have h15 := h.b15
  have h9 := h.b9
  have hno := hlB_no (C := C) (l := l) (c := c) (by omega) (fun k hk => by have := ((h.ro l (by omega)).2 k hk).1; omega) (by omega) hh
  exact ⟨h.b0, h.b2, h.b9, h.b15, h.b18, h.ch, h.st, h.en, h.ow, h.co, h.tx, h.re, fun i hi => by
    show (if i = l then C 17 l + 1 else C 17 i) ≤ 6 ∧ ∀ k, k < (if i = l then C 17 l + 1 else C 17 i) → (if 6 * i + k = 6 * l + C 17 l then c else C 16 (6 * i + k)) < C 9 0 ∧ ∀ j, j < k → (if 6 * i + j = 6 * l + C 17 l then c else C 16 (6 * i + j)) ≠ (if 6 * i + k = 6 * l + C 17 l then c else C 16 (6 * i + k))
    have hr := h.ro i hi
    by_cases e : i = l
    · rw [if_pos e, e]
      rw [e] at hr
      refine ⟨by omega, fun k hk => ?_⟩
      by_cases e2 : k = C 17 l
      · rw [e2, if_pos rfl]
        refine ⟨hc, fun j hj => ?_⟩
        rw [if_neg (by omega)]
        exact hno j hj
      · rw [if_neg (by omega)]
        refine ⟨(hr.2 k (by omega)).1, fun j hj => ?_⟩
        rw [if_neg (by omega)]
        exact (hr.2 k (by omega)).2 j hj
    · rw [if_neg e]
      refine ⟨hr.1, fun k hk => ?_⟩
      have h6 := hr.1
      rw [if_neg (by omega)]
      refine ⟨(hr.2 k hk).1, fun j hj => ?_⟩
      rw [if_neg (by omega)]
      exact (hr.2 k hk).2 j hj, h.da, h.pr, h.ze.1, h.ze.2.1, h.ze.2.2.1, h.ze.2.2.2.1, h.ze.2.2.2.2.1, fun i hi => by
    show setA C 17 l (C 17 l + 1) 17 i = 0
    have hi2 : C 15 0 ≤ i := hi
    rw [setA_n (by omega)]; exact h.ze.2.2.2.2.2.1 i hi, fun j hj => by
    show setA C 16 (6 * l + C 17 l) c 16 j = 0
    have hj2 : 6 * C 15 0 ≤ j := hj
    rw [setA_n (by omega)]; exact h.ze.2.2.2.2.2.2 j hj⟩
theorem i_text (h : Inv C) {t : Nat} (ht : t < 3 * C 9 0) (hff : ffS (rg C 1 0 60) (C 0 0) = -1) : Inv (setA (setA (setA (cpyA C 11 (60 * t) (C 0 0)) 12 t (C 0 0)) 13 t 0) 0 0 0) := by
  have h0 := h.b0
  have h9 := h.b9
  exact ⟨Nat.zero_le _, h.b2, h.b9, h.b15, h.b18, ⟨h.ch.1, h.ch.2.1, h.ch.2.2.1, h.ch.2.2.2.1, fun k => cpyA_lt (f := 11) h.ch.1 h.ch.2.2.2.2 k⟩, h.st, h.en, h.ow, h.co, fun i hi => by
    show (if i = t then C 0 0 else C 12 i) ≤ 60 ∧ (if i = t then 0 else C 13 i) ≤ 1 ∧ pw (fun k => if 60 * t ≤ 60 * i + k ∧ 60 * i + k < 60 * t + C 0 0 then C 1 (60 * i + k - 60 * t) else C 11 (60 * i + k)) (if i = t then C 0 0 else C 12 i) = 0
    have hx := h.tx i hi
    by_cases e : i = t
    · rw [if_pos e, if_pos e]
      refine ⟨h0, Nat.zero_le _, ?_⟩
      rw [pw_congr (g := C 1) _ (fun k hk => by
        rw [e, if_pos (by omega), show 60 * t + k - 60 * t = k by omega])]
      exact ffS_pw h0 h.ch.1 hff
    · rw [if_neg e, if_neg e]
      refine ⟨hx.1, hx.2.1, ?_⟩
      have h6 := hx.1
      rw [pw_congr (g := fun k => C 11 (60 * i + k)) _ (fun k hk => by
        rw [if_neg (by omega)])]
      exact hx.2.2, h.re, h.ro, h.da, h.pr, h.ze.1, h.ze.2.1, fun i hi => by
    have hi2 : 3 * C 9 0 ≤ i := hi
    show setA C 12 t (C 0 0) 12 i = 0 ∧ setA C 13 t 0 13 i = 0
    rw [setA_n (by omega), setA_n (by omega)]; exact h.ze.2.2.1 i hi, fun j hj => by
    have hj2 : 180 * C 9 0 ≤ j := hj
    show cpyA C 11 (60 * t) (C 0 0) 11 j = 0
    rw [cpyA_out (by omega)]; exact h.ze.2.2.2.1 j hj, h.ze.2.2.2.2.1, h.ze.2.2.2.2.2.1, h.ze.2.2.2.2.2.2⟩
theorem i_end (h : Inv C) {e : Nat} (hb : ltB C 0 4 = true) : Inv (setA (setA (cpyA C 5 (4 * e) (C 0 0)) 6 e (C 0 0)) 0 0 0) := by
  have hl := ltB_len hb
  have hs := ltB_sml h.b0 h.ch.1 hb
  exact ⟨Nat.zero_le _, h.b2, h.b9, h.b15, h.b18, ⟨h.ch.1, h.ch.2.1, fun k => cpyA_lt (f := 5) h.ch.1 h.ch.2.2.1 k, h.ch.2.2.2.1, h.ch.2.2.2.2⟩, h.st, fun i hi => by
    show (if i = e then C 0 0 else C 6 i) ≤ 4 ∧ ∀ k, k < (if i = e then C 0 0 else C 6 i) → sml (if 4 * e ≤ 4 * i + k ∧ 4 * i + k < 4 * e + C 0 0 then C 1 (4 * i + k - 4 * e) else C 5 (4 * i + k))
    by_cases e2 : i = e
    · rw [if_pos e2]
      refine ⟨hl.2, fun k hk => ?_⟩
      rw [e2, if_pos (by omega), show 4 * e + k - 4 * e = k by omega]; exact hs k hk
    · rw [if_neg e2]
      have h4 := (h.en i hi).1
      refine ⟨h4, fun k hk => ?_⟩
      rw [if_neg (by omega)]; exact (h.en i hi).2 k hk, h.ow, h.co, h.tx, h.re, h.ro, h.da, h.pr, h.ze⟩
theorem i_own (h : Inv C) {e : Nat} (hb : ltB C 1 10 = true) : Inv (setA (setA (cpyA C 7 (10 * e) (C 0 0)) 8 e (C 0 0)) 0 0 0) := by
  have hl := ltB_len hb
  have hs := ltB_sml h.b0 h.ch.1 hb
  exact ⟨Nat.zero_le _, h.b2, h.b9, h.b15, h.b18, ⟨h.ch.1, h.ch.2.1, h.ch.2.2.1, fun k => cpyA_lt (f := 7) h.ch.1 h.ch.2.2.2.1 k, h.ch.2.2.2.2⟩, h.st, h.en, fun i hi => by
    show (if i = e then C 0 0 else C 8 i) ≤ 10 ∧ ∀ k, k < (if i = e then C 0 0 else C 8 i) → sml (if 10 * e ≤ 10 * i + k ∧ 10 * i + k < 10 * e + C 0 0 then C 1 (10 * i + k - 10 * e) else C 7 (10 * i + k))
    by_cases e2 : i = e
    · rw [if_pos e2]
      refine ⟨hl.2, fun k hk => ?_⟩
      rw [e2, if_pos (by omega), show 10 * e + k - 10 * e = k by omega]; exact hs k hk
    · rw [if_neg e2]
      have h4 := (h.ow i hi).1
      refine ⟨h4, fun k hk => ?_⟩
      rw [if_neg (by omega)]; exact (h.ow i hi).2 k hk, h.co, h.tx, h.re, h.ro, h.da, h.pr, h.ze.1, fun i hi h8 k hk => by
    have h82 : (if i = e then C 0 0 else C 8 i) = 0 := h8
    show (if 10 * e ≤ 10 * i + k ∧ 10 * i + k < 10 * e + C 0 0 then C 1 (10 * i + k - 10 * e) else C 7 (10 * i + k)) = 0
    by_cases e2 : i = e
    · rw [if_pos e2] at h82; omega
    · rw [if_neg e2] at h82
      rw [if_neg (by omega)]; exact h.ze.2.1 i hi h82 k hk, h.ze.2.2⟩
theorem i_word (h : Inv C) (hb : ltB C 1 10 = true) (hn : C 2 0 < 12) : Inv (setA (setA (setA (cpyA C 3 (10 * C 2 0) (C 0 0)) 4 (C 2 0) (C 0 0)) 2 0 (C 2 0 + 1)) 0 0 0) := by
  have hl := ltB_len hb
  have hs := ltB_sml h.b0 h.ch.1 hb
  exact ⟨Nat.zero_le _, (by show C 2 0 + 1 ≤ 12; omega), h.b9, h.b15, h.b18, ⟨h.ch.1, fun k => cpyA_lt (f := 3) h.ch.1 h.ch.2.1 k, h.ch.2.2.1, h.ch.2.2.2.1, h.ch.2.2.2.2⟩, fun i hi => by
    have hi2 : i < C 2 0 + 1 := hi
    show 1 ≤ (if i = C 2 0 then C 0 0 else C 4 i) ∧ (if i = C 2 0 then C 0 0 else C 4 i) ≤ 10 ∧ ∀ k, k < (if i = C 2 0 then C 0 0 else C 4 i) → sml (if 10 * C 2 0 ≤ 10 * i + k ∧ 10 * i + k < 10 * C 2 0 + C 0 0 then C 1 (10 * i + k - 10 * C 2 0) else C 3 (10 * i + k))
    by_cases e2 : i = C 2 0
    · rw [if_pos e2]
      refine ⟨hl.1, hl.2, fun k hk => ?_⟩
      rw [e2, if_pos (by omega), show 10 * C 2 0 + k - 10 * C 2 0 = k by omega]; exact hs k hk
    · rw [if_neg e2]
      have h4 := h.st i (by omega)
      refine ⟨h4.1, h4.2.1, fun k hk => ?_⟩
      rw [if_neg (by omega)]; exact h4.2.2 k hk, h.en, h.ow, h.co, h.tx, h.re, h.ro, fun i hi => ⟨(h.da i hi).1, fun k hk => Nat.lt_succ_of_lt ((h.da i hi).2 k hk)⟩, h.pr, fun j hj => by
    have hj2 : 10 * (C 2 0 + 1) ≤ j := hj
    show cpyA C 3 (10 * C 2 0) (C 0 0) 3 j = 0
    rw [cpyA_out (by omega)]; exact h.ze.1 j (by omega), h.ze.2⟩
end KEPT
