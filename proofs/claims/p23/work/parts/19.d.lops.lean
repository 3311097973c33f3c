theorem L_type {d b0 : Nat} {Q : Nat → Nat} {A B : ST} {G : GH} (h : LW Q A B G) (hI : Inv A) {y0 y1 y2 : Int32} {c : Nat} (hc : c < 65536) (hlt : A 0 0 < 60) : CT mL_act (d + 9) b0 G [.ref (Q 0), .int (nI 0), .int (nI c), .int y0, .int y1, .int y2] 20 400 (LPo (nI (A 0 0 + 1)) Q (setA (setA A 1 (A 0 0) c) 0 0 (A 0 0 + 1)) B) NoX :=
  h.ok (setA (setA A 1 (A 0 0) c) 0 0 (A 0 0 + 1)) (fun P ad hW hP => ⟨_, s22 (s22 mix_f), a_type_0 hW (i2c_nI hc) (c_type_0 (d := d) hW hI.mix hP hc hlt)⟩)
theorem L_clear {d b0 : Nat} {Q : Nat → Nat} {A B : ST} {G : GH} (h : LW Q A B G) (hI : Inv A)  : CT mX8_clear (d + 8) b0 G [.ref (Q 0)] 20 400 (LPo (nI (A 0 0)) Q (setA A 0 0 0) B) NoX :=
  h.ok (setA A 0 0 0) (fun P ad hW hP => ⟨_, s22 mix_f, c_clear_0 (d := d) hW hI.mix hP ⟩)
theorem L_word {d b0 : Nat} {Q : Nat → Nat} {A B : ST} {G : GH} (h : LW Q A B G) (hI : Inv A) {y0 y1 y2 y3 : Int32} (hl : ltB A 1 10 = true) (hn : A 2 0 < 12) : CT mL_act (d + 9) b0 G [.ref (Q 0), .int (nI 1), .int y0, .int y1, .int y2, .int y3] 20 400 (LPo (nI (A 2 0)) Q (setA (setA (setA (cpyA A 3 (10 * A 2 0) (A 0 0)) 4 (A 2 0) (A 0 0)) 2 0 (A 2 0 + 1)) 0 0 0) B) NoX :=
  h.ok (setA (setA (setA (cpyA A 3 (10 * A 2 0) (A 0 0)) 4 (A 2 0) (A 0 0)) 2 0 (A 2 0 + 1)) 0 0 0) (fun P ad hW hP => ⟨_, s22 (s22 (s22 (c22 mix_f))), a_word_0 hW (c_word_0 (d := d) hW hI.mix hP hl hn)⟩)
theorem L_form0 {d b0 : Nat} {Q : Nat → Nat} {A B : ST} {G : GH} (h : LW Q A B G) (hI : Inv A) {y0 : Int32} {l g : Nat} (hl : l < 3) (hg : g < 8) (hb : ltB A 0 4 = true) : CT mL_act (d + 9) b0 G [.ref (Q 0), .int (nI 2), .int (nI l), .int (-1), .int (nI g), .int y0] 20 400 (LPo (nI (A 0 0)) Q (setA (setA (cpyA A 5 (4 * (l * 8 + g)) (A 0 0)) 6 (l * 8 + g) (A 0 0)) 0 0 0) B) NoX :=
  h.ok (setA (setA (cpyA A 5 (4 * (l * 8 + g)) (A 0 0)) 6 (l * 8 + g) (A 0 0)) 0 0 0) (fun P ad hW hP => ⟨_, s22 (s22 (c22 mix_f)), a_form_0 hW (c_form_0a (d := d) hW hI.mix hP hl hg hb)⟩)
theorem L_form1b {d b0 : Nat} {Q : Nat → Nat} {A B : ST} {G : GH} (h : LW Q A B G) (hI : Inv A) {y0 : Int32} {l w g : Nat} (hl : l < 3) (hw : w < A 2 0) (hg : g < 8) (hb : ltB A 1 10 = true) (h8 : A 8 (oix l w g) ≠ 0) : CT mL_act (d + 9) b0 G [.ref (Q 0), .int (nI 2), .int (nI l), .int (nI w), .int (nI g), .int y0] 20 400 (LPo (nI (A 0 0)) Q (setA (setA (cpyA A 7 (10 * oix l w g) (A 0 0)) 8 (oix l w g) (A 0 0)) 0 0 0) B) NoX :=
  h.ok (setA (setA (cpyA A 7 (10 * oix l w g) (A 0 0)) 8 (oix l w g) (A 0 0)) 0 0 0) (fun P ad hW hP => ⟨_, s22 (s22 (c22 mix_f)), a_form_0 hW (c_form_0b (d := d) hW hI.mix hP hl hw hg hb h8)⟩)
theorem L_form1c {d b0 : Nat} {Q : Nat → Nat} {A B : ST} {G : GH} (h : LW Q A B G) (hI : Inv A) {y0 : Int32} {l w g : Nat} (hl : l < 3) (hw : w < A 2 0) (hg : g < 8) (hb : ltB A 1 10 = true) (h8 : A 8 (oix l w g) = 0) : CT mL_act (d + 9) b0 G [.ref (Q 0), .int (nI 2), .int (nI l), .int (nI w), .int (nI g), .int y0] 20 400 (LPo (nI (A 0 0)) Q (setA (setA (cpyA A 7 (10 * oix l w g) (A 0 0)) 8 (oix l w g) (A 0 0)) 0 0 0) B) NoX :=
  h.ok (setA (setA (cpyA A 7 (10 * oix l w g) (A 0 0)) 8 (oix l w g) (A 0 0)) 0 0 0) (fun P ad hW hP => ⟨_, s22 (s22 (c22 mix_f)), a_form_0 hW (c_form_0c (d := d) hW hI.mix hP hl hw hg hb h8)⟩)
theorem L_form1 {d b0 : Nat} {Q : Nat → Nat} {A B : ST} {G : GH} (h : LW Q A B G) (hI : Inv A) {y0 : Int32} {l w g : Nat} (hl : l < 3) (hw : w < A 2 0) (hg : g < 8) (hb : ltB A 1 10 = true) : CT mL_act (d + 9) b0 G [.ref (Q 0), .int (nI 2), .int (nI l), .int (nI w), .int (nI g), .int y0] 20 400 (LPo (nI (A 0 0)) Q (setA (setA (cpyA A 7 (10 * oix l w g) (A 0 0)) 8 (oix l w g) (A 0 0)) 0 0 0) B) NoX := by
  by_cases h8 : A 8 (oix l w g) = 0
  · exact L_form1c h hI hl hw hg hb h8
  · exact L_form1b h hI hl hw hg hb h8
theorem cnd_in {b : Nat} (hb : b ≤ 8) : nI b - 1 = -1 ∨ inB (nI b - 1) 8 = true := by
  cases b with
  | zero => left; decide
  | succ n => right; rw [nI_pred, inB_nI (by omega) (by decide)]; exact decide_eq_true (by omega)
theorem L_clause {d b0 : Nat} {Q : Nat → Nat} {A B : ST} {G : GH} (h : LW Q A B G) (hI : Inv A) {y0 y1 y2 : Int32} {b : Nat} (hb : b ≤ 8) (hn : A 9 0 < 10) : CT mL_act (d + 9) b0 G [.ref (Q 0), .int (nI 3), .int (nI b - 1), .int y0, .int y1, .int y2] 20 400 (LPo (nI (A 9 0)) Q (setA (setA A 10 (A 9 0) b) 9 0 (A 9 0 + 1)) B) NoX :=
  h.ok (setA (setA A 10 (A 9 0) b) 9 0 (A 9 0 + 1)) (fun P ad hW hP => ⟨_, s22 (s22 mix_f), a_clause_0 hW (c_clause_0 (d := d) hW hI.mix hP (cnd_in hb) hn)⟩)
theorem L_text {d b0 : Nat} {Q : Nat → Nat} {A B : ST} {G : GH} (h : LW Q A B G) (hI : Inv A) {y0 y1 : Int32} {c l : Nat} (hc : c < A 9 0) (hl : l < 3) (hff : ffS (rg A 1 0 60) (A 0 0) = -1) : CT mL_act (d + 9) b0 G [.ref (Q 0), .int (nI 4), .int (nI c), .int (nI l), .int y0, .int y1] 20 400 (LPo (nI (cntB (slB (rg A 1 0 60) (A 0 0)) (A 0 0))) Q (setA (setA (setA (cpyA A 11 (60 * (3 * c + l)) (A 0 0)) 12 (3 * c + l) (A 0 0)) 13 (3 * c + l) 0) 0 0 0) B) NoX :=
  h.ok (setA (setA (setA (cpyA A 11 (60 * (3 * c + l)) (A 0 0)) 12 (3 * c + l) (A 0 0)) 13 (3 * c + l) 0) 0 0 0) (fun P ad hW hP => ⟨_, s22 (s22 (s22 (c22 mix_f))), a_text_0 hW (c_text_0 (d := d) hW hI.mix hP hc hl hff)⟩)
theorem L_approve0 {d b0 : Nat} {Q : Nat → Nat} {A B : ST} {G : GH} (h : LW Q A B G) (hI : Inv A) {y0 y1 : Int32} {c l : Nat} (hc : c < A 9 0) (hl : l < 3) (hth : 0 < A 12 (3 * c + l)) (ha : A 13 (3 * c + l) = 0) : CT mL_act (d + 9) b0 G [.ref (Q 0), .int (nI 5), .int (nI c), .int (nI l), .int y0, .int y1] 20 400 (LPo (b2i true) Q (setA A 13 (3 * c + l) 1) B) NoX :=
  h.ok (setA A 13 (3 * c + l) 1) (fun P ad hW hP => ⟨_, s22 mix_f, a_approve_0 hW (c_approve_0 (d := d) hW hI.mix hP hc hl hth ha)⟩)
theorem L_approve1 {d b0 : Nat} {Q : Nat → Nat} {A B : ST} {G : GH} (h : LW Q A B G) (hI : Inv A) {y0 y1 : Int32} {c l : Nat} (hc : c < A 9 0) (hl : l < 3) (hth : 0 < A 12 (3 * c + l)) (ha : A 13 (3 * c + l) = 1) : CT mL_act (d + 9) b0 G [.ref (Q 0), .int (nI 5), .int (nI c), .int (nI l), .int y0, .int y1] 20 400 (LPo (b2i false) Q (setA A 13 (3 * c + l) 1) B) NoX :=
  h.ok (setA A 13 (3 * c + l) 1) (fun P ad hW hP => ⟨_, s22 mix_f, a_approve_0 hW (c_approve_0b (d := d) hW hI.mix hP hc hl hth ha)⟩)
theorem L_relate {d b0 : Nat} {Q : Nat → Nat} {A B : ST} {G : GH} (h : LW Q A B G) (hI : Inv A) {c o k u : Nat} (hc : c < A 9 0) (ho : o < A 9 0) (hco : c ≠ o) (hk : k < 4) (hu : u < 3) : CT mL_act (d + 9) b0 G [.ref (Q 0), .int (nI 6), .int (nI c), .int (nI o), .int (nI k), .int (nI u)] 20 400 (LPo (nI (A 14 (100 * k + 10 * c + o))) Q (setA A 14 (100 * k + 10 * c + o) u) B) NoX :=
  h.ok (setA A 14 (100 * k + 10 * c + o) u) (fun P ad hW hP => ⟨_, s22 mix_f, a_relate_0 hW (c_relate_0 (d := d) hW hI.mix hP hc ho hco hk hu)⟩)
theorem L_isLinked {d b0 : Nat} {Q : Nat → Nat} {A B : ST} {G : GH} (h : LW Q A B G) (hI : Inv A) {y0 y1 y2 : Int32} {c : Nat} (hc : c < A 9 0) : CT mL_act (d + 9) b0 G [.ref (Q 0), .int (nI 7), .int (nI c), .int y0, .int y1, .int y2] 20 400 (LPo (b2i (slk A c)) Q (A) B) NoX :=
  h.ok (A) (fun P ad hW hP => ⟨mix A P, mix_f, by
    rw [← slk_c (A := A) (A' := mix A P) mix_f (c := c)]
    exact a_isLinked_0 hW (c_isLinked_0 (d := d) hW hI.mix hP hc)⟩)
theorem L_letter {d b0 : Nat} {Q : Nat → Nat} {A B : ST} {G : GH} (h : LW Q A B G) (hI : Inv A) {y0 y1 y2 y3 : Int32} (hn : A 15 0 < 6) : CT mL_act (d + 9) b0 G [.ref (Q 0), .int (nI 8), .int y0, .int y1, .int y2, .int y3] 20 400 (LPo (nI (A 15 0)) Q (setA A 15 0 (A 15 0 + 1)) B) NoX :=
  h.ok (setA A 15 0 (A 15 0 + 1)) (fun P ad hW hP => ⟨_, s22 mix_f, a_letter_0 hW (c_letter_0 (d := d) hW hI.mix hP hn)⟩)
theorem L_put {d b0 : Nat} {Q : Nat → Nat} {A B : ST} {G : GH} (h : LW Q A B G) (hI : Inv A) {y0 y1 : Int32} {l c : Nat} (hl : l < A 15 0) (hc : c < A 9 0) (hh : hsB (rg A 16 (6 * l) 6) (A 17 l) (nI c) = false) (hrm : A 17 l < 6) : CT mL_act (d + 9) b0 G [.ref (Q 0), .int (nI 9), .int (nI l), .int (nI c), .int y0, .int y1] 20 400 (LPo (nI (A 17 l + 1)) Q (setA (setA A 16 (6 * l + A 17 l) c) 17 l (A 17 l + 1)) B) NoX :=
  h.ok (setA (setA A 16 (6 * l + A 17 l) c) 17 l (A 17 l + 1)) (fun P ad hW hP => ⟨_, s22 (s22 mix_f), a_put_0 hW (c_put_0 (d := d) hW hI.mix hP hl hc hh hrm)⟩)
theorem L_data {d b0 : Nat} {Q : Nat → Nat} {A B : ST} {G : GH} (h : LW Q A B G) (hI : Inv A) {y0 y1 : Int32} {w b : Nat} (hw : w < A 2 0) (hb : b < 256) (hn : A 18 0 < 8) : CT mL_act (d + 9) b0 G [.ref (Q 0), .int (nI 10), .int (nI w), .int (nI b), .int y0, .int y1] 20 400 (LPo (nI (A 18 0)) Q (setA (setA (fillA A (A 18 0) w) 20 (A 18 0) b) 18 0 (A 18 0 + 1)) B) NoX :=
  h.ok (setA (setA (fillA A (A 18 0) w) 20 (A 18 0) b) 18 0 (A 18 0 + 1)) (fun P ad hW hP => ⟨_, s22 (s22 (f22 mix_f)), a_data_0 hW (c_data_0 (d := d) hW hI.mix hP hw hb hn)⟩)
theorem L_fill {d b0 : Nat} {Q : Nat → Nat} {A B : ST} {G : GH} (h : LW Q A B G) (hI : Inv A) {y0 : Int32} {t s q : Nat} (ht : t < A 18 0) (hs : s < 5) (hq : q < A 2 0) : CT mL_act (d + 9) b0 G [.ref (Q 0), .int (nI 11), .int (nI t), .int (nI s), .int (nI q), .int y0] 20 400 (LPo (rg A 19 (5 * t) 5 s) Q (setA A 19 (5 * t + s) q) B) NoX :=
  h.ok (setA A 19 (5 * t + s) q) (fun P ad hW hP => ⟨_, s22 mix_f, a_fill_0 hW (c_fill_0 (d := d) hW hI.mix hP ht hs hq)⟩)
theorem L_price {d b0 : Nat} {Q : Nat → Nat} {A B : ST} {G : GH} (h : LW Q A B G) (hI : Inv A) {y0 y1 : Int32} {l v : Nat} (hl : l < 3) (hv : v < 1001) : CT mL_act (d + 9) b0 G [.ref (Q 0), .int (nI 12), .int (nI l), .int (nI v), .int y0, .int y1] 20 400 (LPo (nI (A 21 l)) Q (setA A 21 l v) B) NoX :=
  h.ok (setA A 21 l v) (fun P ad hW hP => ⟨_, s22 mix_f, a_price_0 hW (c_price_0 (d := d) hW hI.mix hP hl hv)⟩)
theorem L_fault {d b0 : Nat} {Q : Nat → Nat} {A B : ST} {G : GH} (h : LW Q A B G) (hI : Inv A)  : CT mX8_fault (d + 8) b0 G [.ref (Q 0)] 20 400 (LPo (ffS (rg A 1 0 60) (A 0 0)) Q (A) B) NoX :=
  h.ok (A) (fun P ad hW hP => ⟨mix A P, mix_f, c_fault_0 (d := d) hW hI.mix hP ⟩)
theorem L_faultOf {d b0 : Nat} {Q : Nat → Nat} {A B : ST} {G : GH} (h : LW Q A B G) (hI : Inv A) {l t g k : Nat} (hl : l < A 15 0) (ht : t < A 18 0) (hg : g < 3) (hk : k < 4) : CT mX8_faultOf (d + 8) b0 G [.ref (Q 0), .int (nI l), .int (nI t), .int (nI g), .int (nI k)] 20 400 (LPo (nI (fof A l t g k (A 17 l))) Q (A) B) NoX :=
  h.ok (A) (fun P ad hW hP => ⟨mix A P, mix_f, by
    rw [← fof_c (A := A) (A' := mix A P) mix_f (l := l) (t := t) (g := g) (k := k) (A 17 l)]
    exact c_faultOf_0 (d := d) hW hI.mix hP hl ht hg hk⟩)
theorem L_sign {d b0 : Nat} {Q : Nat → Nat} {A B : ST} {G : GH} (h : LW Q A B G) (hI : Inv A) {l e g k : Nat} (hl : l < A 15 0) (he : e < A 18 0) (hg : g < 3) (hk : k < 2 ^ 31) : CT mX8_sign (d + 8) b0 G [.ref (Q 0), .int (nI l), .int (nI e), .int (nI g), .int (nI k)] 20 400 (LPo (nI ((bld true (ltA A l e g)).getD k 0)) Q (A) B) NoX :=
  h.ok (A) (fun P ad hW hP => ⟨mix A P, mix_f, by
    rw [← ltA_c (A := A) (A' := mix A P) mix_f (l := l) (e := e) (g := g)]
    exact c_sign_0 (d := d) hW hI.mix hP hl he hg hk⟩)
theorem L_signAnew {d b0 : Nat} {Q : Nat → Nat} {A B : ST} {G : GH} (h : LW Q A B G) (hI : Inv A) {l e g k : Nat} (hl : l < A 15 0) (he : e < A 18 0) (hg : g < 3) (hk : k < 2 ^ 31) : CT mX8_signAnew (d + 8) b0 G [.ref (Q 0), .int (nI l), .int (nI e), .int (nI g), .int (nI k)] 20 400 (LPo (nI ((bld true (ltA A l e g)).getD k 0)) Q (A) B) NoX :=
  h.ok (A) (fun P ad hW hP => ⟨mix A P, mix_f, by
    rw [← ltA_c (A := A) (A' := mix A P) mix_f (l := l) (e := e) (g := g)]
    exact c_signAnew_0 (d := d) hW hI.mix hP hl he hg hk⟩)
theorem L_costs {d b0 : Nat} {Q : Nat → Nat} {A B : ST} {G : GH} (h : LW Q A B G) (hI : Inv A) {l e g : Nat} (hl : l < A 15 0) (he : e < A 18 0) (hg : g < 3) : CT mX8_costs (d + 8) b0 G [.ref (Q 0), .int (nI l), .int (nI e), .int (nI g)] 20 400 (LPo (nI (wcL (bld true (ltA A l e g)) * A 21 g)) Q (A) B) NoX :=
  h.ok (A) (fun P ad hW hP => ⟨mix A P, mix_f, by
    rw [← ltA_c (A := A) (A' := mix A P) mix_f (l := l) (e := e) (g := g)]
    exact c_costs_0 (d := d) hW hI.mix hP hl he hg⟩)
theorem L_sample {d b0 : Nat} {Q : Nat → Nat} {A B : ST} {G : GH} (h : LW Q A B G) (hI : Inv A) {l k : Nat} (hl : l < A 15 0) (hk : k < 2 ^ 31) : CT mX8_sample (d + 8) b0 G [.ref (Q 0), .int (nI l), .int (nI k)] 20 400 (LPo (smF A l k (A 18 0)) Q (A) B) NoX :=
  h.ok (A) (fun P ad hW hP => ⟨mix A P, mix_f, by
    rw [← smF_c (A := A) (A' := mix A P) mix_f (l := l) (k := k) (A 18 0)]
    exact c_sample_0 (d := d) hW hI.mix hP hl hk⟩)
theorem R_type {d b0 : Nat} {Q : Nat → Nat} {A B : ST} {G : GH} (h : LW Q A B G) (hI : Inv A) {y0 y1 y2 : Int32} {c : Nat} (hc : c < 65536) (hge : ¬ A 0 0 < 60) : CT mL_act (d + 9) b0 G [.ref (Q 0), .int (nI 0), .int (nI c), .int y0, .int y1, .int y2] 20 400 (LNo (-1663000) G) NoX :=
  h.ex (fun P ad hW => a_type_3 hW (i2c_nI hc) (c_type_1 (d := d) hW hI.mix hge))
theorem R_word_a {d b0 : Nat} {Q : Nat → Nat} {A B : ST} {G : GH} (h : LW Q A B G) (hI : Inv A) {y0 y1 y2 y3 : Int32} (hl : ltB A 1 10 = false) : CT mL_act (d + 9) b0 G [.ref (Q 0), .int (nI 1), .int y0, .int y1, .int y2, .int y3] 20 400 (LNo (-1663000) G) NoX :=
  h.ex (fun P ad hW => a_word_3 hW (c_word_1a (d := d) hW hI.mix hl))
theorem R_word_b {d b0 : Nat} {Q : Nat → Nat} {A B : ST} {G : GH} (h : LW Q A B G) (hI : Inv A) {y0 y1 y2 y3 : Int32} (hl : ltB A 1 10 = true) (hn : ¬ A 2 0 < 12) : CT mL_act (d + 9) b0 G [.ref (Q 0), .int (nI 1), .int y0, .int y1, .int y2, .int y3] 20 400 (LNo (-1663000) G) NoX :=
  h.ex (fun P ad hW => a_word_3 hW (c_word_1b (d := d) hW hI.mix hl hn))
theorem R_form_1a {d b0 : Nat} {Q : Nat → Nat} {A B : ST} {G : GH} (h : LW Q A B G) (hI : Inv A) {y0 : Int32} {x y z : Int32} (hx : inB x 3 = false) : CT mL_act (d + 9) b0 G [.ref (Q 0), .int (nI 2), .int x, .int y, .int z, .int y0] 20 400 (LNo (-1661000) G) NoX :=
  h.ex (fun P ad hW => a_form_1 hW (c_form_1a (d := d) hW hI.mix hx))
theorem R_form_1b {d b0 : Nat} {Q : Nat → Nat} {A B : ST} {G : GH} (h : LW Q A B G) (hI : Inv A) {y0 : Int32} {l : Nat} {y z : Int32} (hl : l < 3) (hy1 : ¬ y = -1) (hy : inB y (A 2 0) = false) : CT mL_act (d + 9) b0 G [.ref (Q 0), .int (nI 2), .int (nI l), .int y, .int z, .int y0] 20 400 (LNo (-1661000) G) NoX :=
  h.ex (fun P ad hW => a_form_1 hW (c_form_1b (d := d) hW hI.mix hl hy1 hy))
theorem R_form_2a {d b0 : Nat} {Q : Nat → Nat} {A B : ST} {G : GH} (h : LW Q A B G) (hI : Inv A) {y0 : Int32} {l : Nat} {z : Int32} (hl : l < 3) (hz : inB z 8 = false) : CT mL_act (d + 9) b0 G [.ref (Q 0), .int (nI 2), .int (nI l), .int (-1), .int z, .int y0] 20 400 (LNo (-1662000) G) NoX :=
  h.ex (fun P ad hW => a_form_2 hW (c_form_2a (d := d) hW hI.mix hl hz))
theorem R_clause {d b0 : Nat} {Q : Nat → Nat} {A B : ST} {G : GH} (h : LW Q A B G) (hI : Inv A) {y0 y1 y2 : Int32} {x : Int32} (hx1 : ¬ x = -1) (hx : inB x 8 = false) : CT mL_act (d + 9) b0 G [.ref (Q 0), .int (nI 3), .int x, .int y0, .int y1, .int y2] 20 400 (LNo (-1662000) G) NoX :=
  h.ex (fun P ad hW => a_clause_2 hW (c_clause_1 (d := d) hW hI.mix hx1 hx))
theorem R_text_1 {d b0 : Nat} {Q : Nat → Nat} {A B : ST} {G : GH} (h : LW Q A B G) (hI : Inv A) {y0 y1 : Int32} {x y : Int32} (hx : (inB x (A 9 0) && inB y 3) = false) : CT mL_act (d + 9) b0 G [.ref (Q 0), .int (nI 4), .int x, .int y, .int y0, .int y1] 20 400 (LNo (-1661000) G) NoX :=
  h.ex (fun P ad hW => a_text_1 hW (c_text_1 (d := d) hW hI.mix hx))
theorem R_text_2 {d b0 : Nat} {Q : Nat → Nat} {A B : ST} {G : GH} (h : LW Q A B G) (hI : Inv A) {y0 y1 : Int32} {c l : Nat} (hc : c < A 9 0) (hl : l < 3) (hff : ¬ ffS (rg A 1 0 60) (A 0 0) = -1) : CT mL_act (d + 9) b0 G [.ref (Q 0), .int (nI 4), .int (nI c), .int (nI l), .int y0, .int y1] 20 400 (LNo (-1663000) G) NoX :=
  h.ex (fun P ad hW => a_text_3 hW (c_text_2 (d := d) hW hI.mix hc hl hff))
theorem R_approve_1 {d b0 : Nat} {Q : Nat → Nat} {A B : ST} {G : GH} (h : LW Q A B G) (hI : Inv A) {y0 y1 : Int32} {x y : Int32} (hx : (inB x (A 9 0) && inB y 3) = false) : CT mL_act (d + 9) b0 G [.ref (Q 0), .int (nI 5), .int x, .int y, .int y0, .int y1] 20 400 (LNo (-1661000) G) NoX :=
  h.ex (fun P ad hW => a_approve_1 hW (c_approve_1 (d := d) hW hI.mix hx))
theorem R_approve_2 {d b0 : Nat} {Q : Nat → Nat} {A B : ST} {G : GH} (h : LW Q A B G) (hI : Inv A) {y0 y1 : Int32} {c l : Nat} (hc : c < A 9 0) (hl : l < 3) (hth : ¬ 0 < A 12 (3 * c + l)) : CT mL_act (d + 9) b0 G [.ref (Q 0), .int (nI 5), .int (nI c), .int (nI l), .int y0, .int y1] 20 400 (LNo (-1663000) G) NoX :=
  h.ex (fun P ad hW => a_approve_3 hW (c_approve_2 (d := d) hW hI.mix hc hl hth))
theorem R_relate_1a {d b0 : Nat} {Q : Nat → Nat} {A B : ST} {G : GH} (h : LW Q A B G) (hI : Inv A) {x y z u : Int32} (hx : inB x (A 9 0) = false) : CT mL_act (d + 9) b0 G [.ref (Q 0), .int (nI 6), .int x, .int y, .int z, .int u] 20 400 (LNo (-1661000) G) NoX :=
  h.ex (fun P ad hW => a_relate_1 hW (c_relate_1a (d := d) hW hI.mix hx))
theorem R_relate_1b {d b0 : Nat} {Q : Nat → Nat} {A B : ST} {G : GH} (h : LW Q A B G) (hI : Inv A) {c : Nat} {y z u : Int32} (hc : c < A 9 0) (hy : inB y (A 9 0) = false) : CT mL_act (d + 9) b0 G [.ref (Q 0), .int (nI 6), .int (nI c), .int y, .int z, .int u] 20 400 (LNo (-1661000) G) NoX :=
  h.ex (fun P ad hW => a_relate_1 hW (c_relate_1b (d := d) hW hI.mix hc hy))
theorem R_relate_2a {d b0 : Nat} {Q : Nat → Nat} {A B : ST} {G : GH} (h : LW Q A B G) (hI : Inv A) {c : Nat} {z u : Int32} (hc : c < A 9 0) : CT mL_act (d + 9) b0 G [.ref (Q 0), .int (nI 6), .int (nI c), .int (nI c), .int z, .int u] 20 400 (LNo (-1662000) G) NoX :=
  h.ex (fun P ad hW => a_relate_2 hW (c_relate_2a (d := d) hW hI.mix hc))
theorem R_relate_2b {d b0 : Nat} {Q : Nat → Nat} {A B : ST} {G : GH} (h : LW Q A B G) (hI : Inv A) {c o : Nat} (hc : c < A 9 0) (ho : o < A 9 0) {z u : Int32} (hco : c ≠ o) (hz : inB z 4 = false) : CT mL_act (d + 9) b0 G [.ref (Q 0), .int (nI 6), .int (nI c), .int (nI o), .int z, .int u] 20 400 (LNo (-1662000) G) NoX :=
  h.ex (fun P ad hW => a_relate_2 hW (c_relate_2b (d := d) hW hI.mix hc ho hco hz))
theorem R_relate_2c {d b0 : Nat} {Q : Nat → Nat} {A B : ST} {G : GH} (h : LW Q A B G) (hI : Inv A) {c o : Nat} (hc : c < A 9 0) (ho : o < A 9 0) {k : Nat} {u : Int32} (hco : c ≠ o) (hk : k < 4) (hu : u < 0) : CT mL_act (d + 9) b0 G [.ref (Q 0), .int (nI 6), .int (nI c), .int (nI o), .int (nI k), .int u] 20 400 (LNo (-1662000) G) NoX :=
  h.ex (fun P ad hW => a_relate_2 hW (c_relate_2c (d := d) hW hI.mix hc ho hco hk hu))
theorem R_relate_2d {d b0 : Nat} {Q : Nat → Nat} {A B : ST} {G : GH} (h : LW Q A B G) (hI : Inv A) {c o : Nat} (hc : c < A 9 0) (ho : o < A 9 0) {k : Nat} {u : Int32} (hco : c ≠ o) (hk : k < 4) (hu : ¬ u < 0) (hu2 : ¬ u ≤ 2) : CT mL_act (d + 9) b0 G [.ref (Q 0), .int (nI 6), .int (nI c), .int (nI o), .int (nI k), .int u] 20 400 (LNo (-1662000) G) NoX :=
  h.ex (fun P ad hW => a_relate_2 hW (c_relate_2d (d := d) hW hI.mix hc ho hco hk hu hu2))
theorem R_isLinked {d b0 : Nat} {Q : Nat → Nat} {A B : ST} {G : GH} (h : LW Q A B G) (hI : Inv A) {y0 y1 y2 : Int32} {x : Int32} (hx : inB x (A 9 0) = false) : CT mL_act (d + 9) b0 G [.ref (Q 0), .int (nI 7), .int x, .int y0, .int y1, .int y2] 20 400 (LNo (-1661000) G) NoX :=
  h.ex (fun P ad hW => a_isLinked_1 hW (c_isLinked_1 (d := d) hW hI.mix hx))
theorem R_letter {d b0 : Nat} {Q : Nat → Nat} {A B : ST} {G : GH} (h : LW Q A B G) (hI : Inv A) {y0 y1 y2 y3 : Int32} (hn : ¬ A 15 0 < 6) : CT mL_act (d + 9) b0 G [.ref (Q 0), .int (nI 8), .int y0, .int y1, .int y2, .int y3] 20 400 (LNo (-1663000) G) NoX :=
  h.ex (fun P ad hW => a_letter_3 hW (c_letter_1 (d := d) hW hI.mix hn))
theorem R_put_1a {d b0 : Nat} {Q : Nat → Nat} {A B : ST} {G : GH} (h : LW Q A B G) (hI : Inv A) {y0 y1 : Int32} {x y : Int32} (hx : inB x (A 15 0) = false) : CT mL_act (d + 9) b0 G [.ref (Q 0), .int (nI 9), .int x, .int y, .int y0, .int y1] 20 400 (LNo (-1661000) G) NoX :=
  h.ex (fun P ad hW => a_put_1 hW (c_put_1a (d := d) hW hI.mix hx))
theorem R_put_1b {d b0 : Nat} {Q : Nat → Nat} {A B : ST} {G : GH} (h : LW Q A B G) (hI : Inv A) {y0 y1 : Int32} {l : Nat} {y : Int32} (hl : l < A 15 0) (hy : inB y (A 9 0) = false) : CT mL_act (d + 9) b0 G [.ref (Q 0), .int (nI 9), .int (nI l), .int y, .int y0, .int y1] 20 400 (LNo (-1661000) G) NoX :=
  h.ex (fun P ad hW => a_put_1 hW (c_put_1b (d := d) hW hI.mix hl hy))
theorem R_put_2a {d b0 : Nat} {Q : Nat → Nat} {A B : ST} {G : GH} (h : LW Q A B G) (hI : Inv A) {y0 y1 : Int32} {l c : Nat} (hl : l < A 15 0) (hc : c < A 9 0) (hh : hsB (rg A 16 (6 * l) 6) (A 17 l) (nI c) = true) : CT mL_act (d + 9) b0 G [.ref (Q 0), .int (nI 9), .int (nI l), .int (nI c), .int y0, .int y1] 20 400 (LNo (-1663000) G) NoX :=
  h.ex (fun P ad hW => a_put_3 hW (c_put_2a (d := d) hW hI.mix hl hc hh))
theorem R_put_2b {d b0 : Nat} {Q : Nat → Nat} {A B : ST} {G : GH} (h : LW Q A B G) (hI : Inv A) {y0 y1 : Int32} {l c : Nat} (hl : l < A 15 0) (hc : c < A 9 0) (hh : hsB (rg A 16 (6 * l) 6) (A 17 l) (nI c) = false) (hrm : ¬ A 17 l < 6) : CT mL_act (d + 9) b0 G [.ref (Q 0), .int (nI 9), .int (nI l), .int (nI c), .int y0, .int y1] 20 400 (LNo (-1663000) G) NoX :=
  h.ex (fun P ad hW => a_put_3 hW (c_put_2b (d := d) hW hI.mix hl hc hh hrm))
theorem R_data_1 {d b0 : Nat} {Q : Nat → Nat} {A B : ST} {G : GH} (h : LW Q A B G) (hI : Inv A) {y0 y1 : Int32} {x y : Int32} (hx : inB x (A 2 0) = false) : CT mL_act (d + 9) b0 G [.ref (Q 0), .int (nI 10), .int x, .int y, .int y0, .int y1] 20 400 (LNo (-1661000) G) NoX :=
  h.ex (fun P ad hW => a_data_1 hW (c_data_1 (d := d) hW hI.mix hx))
theorem R_data_3 {d b0 : Nat} {Q : Nat → Nat} {A B : ST} {G : GH} (h : LW Q A B G) (hI : Inv A) {y0 y1 : Int32} {w b : Nat} (hw : w < A 2 0) (hb : b < 256) (hn : ¬ A 18 0 < 8) : CT mL_act (d + 9) b0 G [.ref (Q 0), .int (nI 10), .int (nI w), .int (nI b), .int y0, .int y1] 20 400 (LNo (-1663000) G) NoX :=
  h.ex (fun P ad hW => a_data_3 hW (c_data_3 (d := d) hW hI.mix hw hb hn))
theorem R_fill {d b0 : Nat} {Q : Nat → Nat} {A B : ST} {G : GH} (h : LW Q A B G) (hI : Inv A) {y0 : Int32} {x y z : Int32} (hx : inB x (A 18 0) = false) : CT mL_act (d + 9) b0 G [.ref (Q 0), .int (nI 11), .int x, .int y, .int z, .int y0] 20 400 (LNo (-1661000) G) NoX :=
  h.ex (fun P ad hW => a_fill_1 hW (c_fill_1a (d := d) hW hI.mix hx))
theorem R_price_1 {d b0 : Nat} {Q : Nat → Nat} {A B : ST} {G : GH} (h : LW Q A B G) (hI : Inv A) {y0 y1 : Int32} {x y : Int32} (hx : inB x 3 = false) : CT mL_act (d + 9) b0 G [.ref (Q 0), .int (nI 12), .int x, .int y, .int y0, .int y1] 20 400 (LNo (-1661000) G) NoX :=
  h.ex (fun P ad hW => a_price_1 hW (c_price_1 (d := d) hW hI.mix hx))
theorem R_price_2a {d b0 : Nat} {Q : Nat → Nat} {A B : ST} {G : GH} (h : LW Q A B G) (hI : Inv A) {y0 y1 : Int32} {l : Nat} {y : Int32} (hl : l < 3) (hy : y < 0) : CT mL_act (d + 9) b0 G [.ref (Q 0), .int (nI 12), .int (nI l), .int y, .int y0, .int y1] 20 400 (LNo (-1662000) G) NoX :=
  h.ex (fun P ad hW => a_price_2 hW (c_price_2a (d := d) hW hI.mix hl hy))
theorem R_price_2b {d b0 : Nat} {Q : Nat → Nat} {A B : ST} {G : GH} (h : LW Q A B G) (hI : Inv A) {y0 y1 : Int32} {l : Nat} {y : Int32} (hl : l < 3) (hy : ¬ y < 0) (hy2 : ¬ y ≤ 1000) : CT mL_act (d + 9) b0 G [.ref (Q 0), .int (nI 12), .int (nI l), .int y, .int y0, .int y1] 20 400 (LNo (-1662000) G) NoX :=
  h.ex (fun P ad hW => a_price_2 hW (c_price_2b (d := d) hW hI.mix hl hy hy2))
theorem R_faultOf_1a {d b0 : Nat} {Q : Nat → Nat} {A B : ST} {G : GH} (h : LW Q A B G) (hI : Inv A) {x y z u : Int32} (hx : inB x (A 15 0) = false) (hy : inB y (A 18 0) = false) : CT mL_act (d + 9) b0 G [.ref (Q 0), .int (nI 13), .int x, .int y, .int z, .int u] 20 400 (LNo (-1661000) G) NoX :=
  h.ex (fun P ad hW => a_faultOf_1 hW (c_faultOf_1a (d := d) hW hI.mix hx hy))
theorem R_faultOf_1b {d b0 : Nat} {Q : Nat → Nat} {A B : ST} {G : GH} (h : LW Q A B G) (hI : Inv A) {x z u : Int32} {t : Nat} (hx : inB x (A 15 0) = false) (ht : t < A 18 0) : CT mL_act (d + 9) b0 G [.ref (Q 0), .int (nI 13), .int x, .int (nI t), .int z, .int u] 20 400 (LNo (-1661000) G) NoX :=
  h.ex (fun P ad hW => a_faultOf_1 hW (c_faultOf_1b (d := d) hW hI.mix hx ht))
theorem R_faultOf {d b0 : Nat} {Q : Nat → Nat} {A B : ST} {G : GH} (h : LW Q A B G) (hI : Inv A) {x z u : Int32} (hx : inB x (A 15 0) = false) : CT mL_act (d + 9) b0 G [.ref (Q 0), .int (nI 13), .int x, .int (nI 0), .int z, .int u] 20 400 (LNo (-1661000) G) NoX := by
  by_cases ht : 0 < A 18 0
  · exact R_faultOf_1b h hI hx ht
  · refine R_faultOf_1a h hI hx ?_
    have hb18 := hI.b18
    rw [inB_nI (by decide) (by omega)]
    exact decide_eq_false ht
theorem R_sign_1a {d b0 : Nat} {Q : Nat → Nat} {A B : ST} {G : GH} (h : LW Q A B G) (hI : Inv A) {x y z u : Int32} (hx : inB x (A 15 0) = false) (hy : inB y (A 18 0) = false) : CT mL_act (d + 9) b0 G [.ref (Q 0), .int (nI 14), .int x, .int y, .int z, .int u] 20 400 (LNo (-1661000) G) NoX :=
  h.ex (fun P ad hW => a_sign_1 hW (c_sign_1a (d := d) hW hI.mix hx hy))
theorem R_sign_1b {d b0 : Nat} {Q : Nat → Nat} {A B : ST} {G : GH} (h : LW Q A B G) (hI : Inv A) {x z u : Int32} {t : Nat} (hx : inB x (A 15 0) = false) (ht : t < A 18 0) : CT mL_act (d + 9) b0 G [.ref (Q 0), .int (nI 14), .int x, .int (nI t), .int z, .int u] 20 400 (LNo (-1661000) G) NoX :=
  h.ex (fun P ad hW => a_sign_1 hW (c_sign_1b (d := d) hW hI.mix hx ht))
theorem R_sign {d b0 : Nat} {Q : Nat → Nat} {A B : ST} {G : GH} (h : LW Q A B G) (hI : Inv A) {x z u : Int32} (hx : inB x (A 15 0) = false) : CT mL_act (d + 9) b0 G [.ref (Q 0), .int (nI 14), .int x, .int (nI 0), .int z, .int u] 20 400 (LNo (-1661000) G) NoX := by
  by_cases ht : 0 < A 18 0
  · exact R_sign_1b h hI hx ht
  · refine R_sign_1a h hI hx ?_
    have hb18 := hI.b18
    rw [inB_nI (by decide) (by omega)]
    exact decide_eq_false ht
theorem R_signAnew_1a {d b0 : Nat} {Q : Nat → Nat} {A B : ST} {G : GH} (h : LW Q A B G) (hI : Inv A) {x y z u : Int32} (hx : inB x (A 15 0) = false) (hy : inB y (A 18 0) = false) : CT mL_act (d + 9) b0 G [.ref (Q 0), .int (nI 15), .int x, .int y, .int z, .int u] 20 400 (LNo (-1661000) G) NoX :=
  h.ex (fun P ad hW => a_signAnew_1 hW (c_signAnew_1a (d := d) hW hI.mix hx hy))
theorem R_signAnew_1b {d b0 : Nat} {Q : Nat → Nat} {A B : ST} {G : GH} (h : LW Q A B G) (hI : Inv A) {x z u : Int32} {t : Nat} (hx : inB x (A 15 0) = false) (ht : t < A 18 0) : CT mL_act (d + 9) b0 G [.ref (Q 0), .int (nI 15), .int x, .int (nI t), .int z, .int u] 20 400 (LNo (-1661000) G) NoX :=
  h.ex (fun P ad hW => a_signAnew_1 hW (c_signAnew_1b (d := d) hW hI.mix hx ht))
theorem R_signAnew {d b0 : Nat} {Q : Nat → Nat} {A B : ST} {G : GH} (h : LW Q A B G) (hI : Inv A) {x z u : Int32} (hx : inB x (A 15 0) = false) : CT mL_act (d + 9) b0 G [.ref (Q 0), .int (nI 15), .int x, .int (nI 0), .int z, .int u] 20 400 (LNo (-1661000) G) NoX := by
  by_cases ht : 0 < A 18 0
  · exact R_signAnew_1b h hI hx ht
  · refine R_signAnew_1a h hI hx ?_
    have hb18 := hI.b18
    rw [inB_nI (by decide) (by omega)]
    exact decide_eq_false ht
theorem R_costs_1a {d b0 : Nat} {Q : Nat → Nat} {A B : ST} {G : GH} (h : LW Q A B G) (hI : Inv A) {y0 : Int32} {x y z : Int32} (hx : inB x (A 15 0) = false) (hy : inB y (A 18 0) = false) : CT mL_act (d + 9) b0 G [.ref (Q 0), .int (nI 16), .int x, .int y, .int z, .int y0] 20 400 (LNo (-1661000) G) NoX :=
  h.ex (fun P ad hW => a_costs_1 hW (c_costs_1a (d := d) hW hI.mix hx hy))
theorem R_costs_1b {d b0 : Nat} {Q : Nat → Nat} {A B : ST} {G : GH} (h : LW Q A B G) (hI : Inv A) {y0 : Int32} {x z : Int32} {t : Nat} (hx : inB x (A 15 0) = false) (ht : t < A 18 0) : CT mL_act (d + 9) b0 G [.ref (Q 0), .int (nI 16), .int x, .int (nI t), .int z, .int y0] 20 400 (LNo (-1661000) G) NoX :=
  h.ex (fun P ad hW => a_costs_1 hW (c_costs_1b (d := d) hW hI.mix hx ht))
theorem R_costs {d b0 : Nat} {Q : Nat → Nat} {A B : ST} {G : GH} (h : LW Q A B G) (hI : Inv A) {y0 : Int32} {x z : Int32} (hx : inB x (A 15 0) = false) : CT mL_act (d + 9) b0 G [.ref (Q 0), .int (nI 16), .int x, .int (nI 0), .int z, .int y0] 20 400 (LNo (-1661000) G) NoX := by
  by_cases ht : 0 < A 18 0
  · exact R_costs_1b h hI hx ht
  · refine R_costs_1a h hI hx ?_
    have hb18 := hI.b18
    rw [inB_nI (by decide) (by omega)]
    exact decide_eq_false ht
theorem R_faultOf_1c {d b0 : Nat} {Q : Nat → Nat} {A B : ST} {G : GH} (h : LW Q A B G) (hI : Inv A) {y z u : Int32} {l : Nat} (hl : l < A 15 0) (hy : inB y (A 18 0) = false) : CT mL_act (d + 9) b0 G [.ref (Q 0), .int (nI 13), .int (nI l), .int y, .int z, .int u] 20 400 (LNo (-1661000) G) NoX :=
  h.ex (fun P ad hW => a_faultOf_1 hW (c_faultOf_1c (d := d) hW hI.mix hl hy))
theorem R_faultOf_1d {d b0 : Nat} {Q : Nat → Nat} {A B : ST} {G : GH} (h : LW Q A B G) (hI : Inv A) {z u : Int32} {l t : Nat} (hl : l < A 15 0) (ht : t < A 18 0) (hz : inB z 3 = false) : CT mL_act (d + 9) b0 G [.ref (Q 0), .int (nI 13), .int (nI l), .int (nI t), .int z, .int u] 20 400 (LNo (-1661000) G) NoX :=
  h.ex (fun P ad hW => a_faultOf_1 hW (c_faultOf_1d (d := d) hW hI.mix hl ht hz))
theorem R_faultOf_2 {d b0 : Nat} {Q : Nat → Nat} {A B : ST} {G : GH} (h : LW Q A B G) (hI : Inv A) {u : Int32} {l t : Nat} (hl : l < A 15 0) (ht : t < A 18 0) {g : Nat} (hg : g < 3) (hu : inB u 4 = false) : CT mL_act (d + 9) b0 G [.ref (Q 0), .int (nI 13), .int (nI l), .int (nI t), .int (nI g), .int u] 20 400 (LNo (-1662000) G) NoX :=
  h.ex (fun P ad hW => a_faultOf_2 hW (c_faultOf_2 (d := d) hW hI.mix hl ht hg hu))
theorem R_sign_1e {d b0 : Nat} {Q : Nat → Nat} {A B : ST} {G : GH} (h : LW Q A B G) (hI : Inv A) {u : Int32} {l t : Nat} (hl : l < A 15 0) (ht : t < A 18 0) {g : Nat} (hg : g < 3) (hu : u < 0) : CT mL_act (d + 9) b0 G [.ref (Q 0), .int (nI 14), .int (nI l), .int (nI t), .int (nI g), .int u] 20 400 (LNo (-1661000) G) NoX :=
  h.ex (fun P ad hW => a_sign_1 hW (c_sign_1e (d := d) hW hI.mix hl ht hg hu))
theorem R_costs_1d {d b0 : Nat} {Q : Nat → Nat} {A B : ST} {G : GH} (h : LW Q A B G) (hI : Inv A) {y0 : Int32} {z : Int32} {l t : Nat} (hl : l < A 15 0) (ht : t < A 18 0) (hz : inB z 3 = false) : CT mL_act (d + 9) b0 G [.ref (Q 0), .int (nI 16), .int (nI l), .int (nI t), .int z, .int y0] 20 400 (LNo (-1661000) G) NoX :=
  h.ex (fun P ad hW => a_costs_1 hW (c_costs_1d (d := d) hW hI.mix hl ht hz))
theorem R_sample_1a {d b0 : Nat} {Q : Nat → Nat} {A B : ST} {G : GH} (h : LW Q A B G) (hI : Inv A) {y0 y1 : Int32} {x y : Int32} (hx : inB x (A 15 0) = false) : CT mL_act (d + 9) b0 G [.ref (Q 0), .int (nI 17), .int x, .int y, .int y0, .int y1] 20 400 (LNo (-1661000) G) NoX :=
  h.ex (fun P ad hW => a_sample_1 hW (c_sample_1a (d := d) hW hI.mix hx))
theorem R_sample_1b {d b0 : Nat} {Q : Nat → Nat} {A B : ST} {G : GH} (h : LW Q A B G) (hI : Inv A) {y0 y1 : Int32} {l : Nat} {y : Int32} (hl : l < A 15 0) (hy : y < 0) : CT mL_act (d + 9) b0 G [.ref (Q 0), .int (nI 17), .int (nI l), .int y, .int y0, .int y1] 20 400 (LNo (-1661000) G) NoX :=
  h.ex (fun P ad hW => a_sample_1 hW (c_sample_1b (d := d) hW hI.mix hl hy))
