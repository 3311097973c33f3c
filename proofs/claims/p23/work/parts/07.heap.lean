/-! heap rows and calls of the frame -/
theorem cx_Pof {D : va_G} {s : State} {q : Nat} {o : Nat × List Value} {H : Heap} (h : cx_at D s q (.inr o) H) : va_P D vwCl [(q, .inr o)] H := by
  intro k x hx
  cases k with
  | zero => cases hx; exact h
  | succ k => simp at hx
theorem cx_Aof {D : va_G} {s : State} {q : Nat} {a : FieldType × vp_A} {H : Heap} (h : cx_at D s q (.inl a) H) : ∃ cA : ClassId, va_P D vwCl [(q, .inl (cA, a.2))] H ∧ ArrOfT s cA a.1 ∧ va_RA s cA a.1 := by
  obtain ⟨cA, h1, h2⟩ := h
  refine ⟨cA, ?_, h2⟩
  intro k x hx
  cases k with
  | zero => cases hx; exact h1
  | succ k => simp at hx
theorem cx_Kt {D : va_G} {s : State} {cA : ClassId} {ty : FieldType} (h : va_K D vwCl [] s) (h1 : ArrOfT s cA ty) (h2 : va_RA s cA ty) : va_K D vwCl [(cA, ty)] s := by
  refine ⟨h.1, fun k x hx => ?_⟩
  cases k with
  | zero => cases hx; exact ⟨h1, h2⟩
  | succ k => simp at hx
theorem cx_Done {D : va_G} {A : Nat → Prop} {q : Nat} {e : va_E} (h : A q) : va_D A [(q, e)] := by
  refine ⟨fun i j p r hi hj _ => ?_, fun k x hx => ?_⟩
  · have a1 := (List.getElem?_eq_some_iff.mp hi).1
    have a2 := (List.getElem?_eq_some_iff.mp hj).1
    simp at a1 a2
    omega
  · cases k with
    | zero => cases hx; exact h
    | succ k => simp at hx
/-- what stands after one cell is written -/
theorem cx_R.up {D : va_G} {b0 : Nat} {s : State} {G : GH} {H H1 : Heap} {a : Nat} {e : LC} (h : cx_R D b0 s G H) (ha : b0 ≤ a) (he : cx_at D s a e H1) (o : ∀ q : Nat, q ≠ a → q < H.size → H1[q]? = H[q]?) : cx_R D b0 s (va_up G a (some e)) H1 := by
  intro q x hx
  unfold va_up at hx
  by_cases hq : q = a
  · rw [if_pos hq] at hx
    cases hx
    rw [hq]
    exact ⟨ha, he⟩
  · rw [if_neg hq] at hx
    exact ⟨(h q x hx).1, (h q x hx).2.kept (o q hq ((h q x hx).2.lt))⟩
theorem cx_R.fresh {D : va_G} {b0 : Nat} {s : State} {G : GH} {H : Heap} (h : cx_R D b0 s G H) : G H.size = none := by
  cases hx : G H.size with
  | none => rfl
  | some e => exact absurd ((h _ _ hx).2.lt) (Nat.lt_irrefl _)
/-- a field: by its class's number and its own -/
def cx_F (own : String) (idx ci k : Nat) : Prop := ∃ r : vw_C, vwCl[ci]? = some r ∧ k < r.2.2 ∧ (∀ w ∈ u_ws r.1 r.2.1 r.2.2, w ∈ cx_tb) ∧ Cond.fieldLink own idx (r.2.1 k).1 (r.2.1 k).2.1 (r.2.1 k).2.2.1 ∈ cx_tb
def cx_FP (own : String) (idx ci k : Nat) (ty : FieldType) (fin : Bool) : Prop := ∃ (r : vw_C) (ty0 : Nat → FieldType), vwCl[ci]? = some r ∧ k < r.2.2 ∧ (∀ w ∈ u_ws r.1 r.2.1 r.2.2, w ∈ cx_tb) ∧ Cond.fieldLink own idx (r.2.1 k).1 (r.2.1 k).2.1 (r.2.1 k).2.2.1 ∈ cx_tb ∧ (∀ j, j < r.2.2 → parseFieldDescriptor (r.2.1 j).2.2.1 = some (ty0 j)) ∧ (∀ a, a < r.2.2 → ∀ b, b < r.2.2 → a ≠ b → (r.2.1 a).2.1 ≠ (r.2.1 b).2.1) ∧ ty0 k = ty ∧ (r.2.1 k).2.2.2 = fin ∧ (r.2.1 k).1 = own
def cx_NW (own : String) (idx ci : Nat) (fs : List Value) : Prop := ∃ (r : vw_C) (ty : Nat → FieldType), vwCl[ci]? = some r ∧ (∀ w ∈ u_ws r.1 r.2.1 r.2.2, w ∈ cx_tb) ∧ (∀ k, k < r.2.2 → parseFieldDescriptor (r.2.1 k).2.2.1 = some (ty k)) ∧ Cond.classLink own idx r.1 ∈ cx_tb ∧ Cond.instantiable r.1 r.2.2 ∈ cx_tb ∧ Cond.initialized r.1 ∈ cx_tb ∧ (∀ j, j < r.2.2 → defaultValue (ty j) = vp_V fs j) ∧ fs.length = r.2.2
section CXH
variable {M : MD} {d b0 : Nat} {Po : Option Value → GH → Prop} {Px : String → GH → Prop} {G : GH} {bc bs pc : Nat} {lv : List (Nat × Value)} {st : List Value}
theorem r_get {idx a ci : Nat} {fs : List Value} {v : Value} (k : Nat) (hd : decode M.2.1 pc = .ok (.getfield idx, 3)) (hF : cx_F M.1.cls idx ci k) (hG : G a = some (.inr (ci, fs))) (hv : fs[k]? = some v) (kk : WP M d b0 Po Px G bc bs (pc + 3) lv (v :: st)) : WP M d b0 Po Px G bc bs pc lv (.ref a :: st) := by
  intro p l e s m args below meth c H locs cells slots mc ms D ls hB hK hS hR hl h1 h2
  obtain ⟨⟨C, T, N⟩, g1, g2, g3, g4⟩ := hF
  obtain ⟨-, hat⟩ := hR a _ hG
  exact va_get (ref := (T k).1) hB.1 hB.2.1 hB.2.2.2.2.2.2.1 g3 hB.2.2.2.2.1 hK.1 (cx_Pof hat) 0 rfl g1 k g2 (hB.2.2.2.2.2.2.1 _ g4) (fun _ h => h) hv hd (kk p l e s m args below meth c H locs cells slots mc ms D ls hB hK hS hR hl h1 h2)
theorem r_put {idx a ci : Nat} {fs : List Value} {v : Value} (k : Nat) (ty : FieldType) (hd : decode M.2.1 pc = .ok (.putfield idx, 3)) (hF : cx_FP M.1.cls idx ci k ty false) (hG : G a = some (.inr (ci, fs))) (hl0 : k < fs.length) (hn : narrow ty v = v) (hf : fits ty v = true) (kk : WP M d b0 Po Px (va_up G a (some (.inr (ci, fs.set k v)))) bc bs (pc + 3) lv st) : WP M d b0 Po Px G bc bs pc lv (v :: .ref a :: st) := by
  intro p l e s m args below meth c H locs cells slots mc ms D ls hB hK hS hR hl h1 h2
  obtain ⟨⟨C, T, N⟩, ty0, g1, g2, g3, g4, g5, g6, g7, g8, g9⟩ := hF
  obtain ⟨hb0, hat⟩ := hR a _ hG
  have hts := hB.2.2.2.2.2.2.1
  have hap := va_apart (own := M.1.cls) hts g3 ty0 g5 g6 hK.1 g1
  obtain ⟨r, hr0, cell, q1, q2, q3, q4⟩ := hat
  have hr : r = (C, T, N) := Option.some.inj (hr0.symm.trans g1)
  subst hr
  obtain ⟨hSl, hfc, kC, hkC, hkind⟩ := hK.1.1 ci _ g1
  obtain ⟨cf, kf, fi, f, hi, hsl⟩ := hSl k g2
  have hlay := hts _ (g3 _ (u_in_lay g2))
  unfold u_lay at hlay
  rw [if_neg (by rw [g8]; decide)] at hlay
  have hst := (u_facts hfc hkC (u_lays hts g3 g2) hi).1
  have h6 := u_store hfc hkC hkind hlay hi (by rw [g5 k g2, g7]) hn hf
  refine W.putK hB.1 hB.2.1 (f := f) ⟨hB.2.2.2.2.1, hts _ g4, ⟨_, _, _, hi⟩, hst⟩ (by rw [q2]; exact h6) q1 q3 (by rw [hsl]; exact k2_hasslot (q4 k g2)) rfl rfl hd fun H1 e1 e2 e3 => ?_
  rw [hsl] at e1 ⊢
  exact kk p l e s m args below meth c H1 _ cells slots mc ms D ls hB hK (hS.put e2 e3 hb0) (hR.up hb0 ⟨_, g1, t_OB.to (V := updV (vp_V fs) k v) ⟨_, e1, q2, q3, t_set q4 hap g2 v⟩ (fun j _ => vp_updV_set hl0 v j)⟩ (fun q hq _ => e3 q hq)) hl h1 h2
theorem r_putF {idx a ci : Nat} {fs : List Value} {v : Value} (k : Nat) (ty : FieldType) (hd : decode M.2.1 pc = .ok (.putfield idx, 3)) (hF : cx_FP M.1.cls idx ci k ty true) (hin : M.1.name = "<init>") (hG : G a = some (.inr (ci, fs))) (hl0 : k < fs.length) (hn : narrow ty v = v) (hf : fits ty v = true) (kk : WP M d b0 Po Px (va_up G a (some (.inr (ci, fs.set k v)))) bc bs (pc + 3) lv st) : WP M d b0 Po Px G bc bs pc lv (v :: .ref a :: st) := by
  intro p l e s m args below meth c H locs cells slots mc ms D ls hB hK hS hR hl h1 h2
  obtain ⟨⟨C, T, N⟩, ty0, g1, g2, g3, g4, g5, g6, g7, g8, g9⟩ := hF
  obtain ⟨hb0, hat⟩ := hR a _ hG
  have hts := hB.2.2.2.2.2.2.1
  have hown := hB.2.2.2.2.1
  have hap := va_apart (own := M.1.cls) hts g3 ty0 g5 g6 hK.1 g1
  obtain ⟨r, hr0, cell, q1, q2, q3, q4⟩ := hat
  have hr : r = (C, T, N) := Option.some.inj (hr0.symm.trans g1)
  subst hr
  obtain ⟨hSl, hfc, kC, hkC, hkind⟩ := hK.1.1 ci _ g1
  obtain ⟨cf, kf, fi, f, hi, hsl⟩ := hSl k g2
  have hlay := hts _ (g3 _ (u_in_lay g2))
  unfold u_lay at hlay
  rw [if_pos g8] at hlay
  have hst := (u_facts hfc hkC (u_lays hts g3 g2) hi).1
  have hcf : m.cls = cf := by
    obtain ⟨_, _, c', _, _, _, -, -, hf', -, -, -, hown2, -⟩ := Cond.laysFinal_spec hlay
    have e1 : c' = cf := by have := hi.symm.trans hf'; simp at this; exact this.1.symm
    rw [g9] at hown2
    rw [← e1]; exact Option.some.inj (hown.symm.trans hown2)
  have h6 := u_fits hfc hkC hkind (Or.inr hlay) hi (by rw [g5 k g2, g7]) hn hf
  refine W.putFinK hB.1 hB.2.1 hown (hts _ g4) hi hst hcf (by rw [hB.2.2.2.2.2.2.2.2.1]; exact hin) (by rw [q2]; exact h6) q1 q3 (by rw [hsl]; exact k2_hasslot (q4 k g2)) rfl rfl hd fun H1 e1 e2 e3 => ?_
  rw [hsl] at e1 ⊢
  exact kk p l e s m args below meth c H1 _ cells slots mc ms D ls hB hK (hS.put e2 e3 hb0) (hR.up hb0 ⟨_, g1, t_OB.to (V := updV (vp_V fs) k v) ⟨_, e1, q2, q3, t_set q4 hap g2 v⟩ (fun j _ => vp_updV_set hl0 v j)⟩ (fun q hq _ => e3 q hq)) hl h1 h2
theorem r_new {idx ci : Nat} (fs : List Value) (bc' bs' : Nat) (hd : decode M.2.1 pc = .ok (.new idx, 3)) (hN : cx_NW M.1.cls idx ci fs) (hbc : bc' + 1 ≤ bc) (hbs : bs' + fs.length ≤ bs) (kk : ∀ q : Nat, G q = none → b0 ≤ q → WP M d b0 Po Px (va_up G q (some (.inr (ci, fs)))) bc' bs' (pc + 3) lv (.ref q :: st)) : WP M d b0 Po Px G bc bs pc lv st := by
  intro p l e s m args below meth c H locs cells slots mc ms D ls hB hK hS hR hl h1 h2
  obtain ⟨⟨C, T, N⟩, ty, g1, g3, g5, g6, g7, g8, g9, g10⟩ := hN
  have hts := hB.2.2.2.2.2.2.1
  have hKn := hK.1.1 ci _ g1
  have g10' : fs.length = N := g10
  refine W.newcK (n := N) hB.1 hB.2.1 hB.2.2.2.2.1 (hts _ g6) (hts _ g7) (hts _ g8) rfl hd (by show cells + 1 ≤ mc; omega) (by show slots + N ≤ ms; omega) hKn.2.1 rfl fun H1 kC hkC e1 z1 o1 => ?_
  have hb : b0 ≤ H.size := Nat.le_trans hK.2.1 hS.1
  exact kk H.size hR.fresh hb p l e s m args below meth c H1 locs (cells + 1) (slots + N) mc ms D ls hB hK ⟨Nat.le_trans hS.1 (by omega), fun x h3 h4 => (o1 x (Nat.lt_of_lt_of_le h3 hS.1)).trans (hS.2.1 x h3 h4), hS.2.2⟩ (hR.up hb ⟨_, g1, (u_born ty hts g3 hKn hkC e1 g5).to g9⟩ (fun q _ hq => o1 q hq)) hl (by omega) (by omega)
theorem r_newa {atype : ArrayType} {n : Int32} (ty : FieldType) (N : Nat) (a0 : vp_A) (bc' bs' : Nat) (hd : decode M.2.1 pc = .ok (.newarray atype, 2)) (hw : Cond.arrayClass (newarray.typeOf atype) ∈ cx_tb) (hty : newarray.typeOf atype = ty) (hRA : ∀ (U : State) (cA : ClassId), U.vm.findClass ("[" ++ ty.toString) = some cA → va_RA U cA ty) (ha : ∀ cA : ClassId, vp_cell cA a0 = arrV cA N (fun _ => defaultValue ty)) (hn : ¬ n < 0) (hN : n.toNatClampNeg = N) (hby : N * componentBytes ty ≤ 536870912) (hbc : bc' + 1 ≤ bc) (hbs : bs' + N ≤ bs) (kk : ∀ q : Nat, G q = none → b0 ≤ q → WP M d b0 Po Px (va_up G q (some (.inl (ty, a0)))) bc' bs' (pc + 2) lv (.ref q :: st)) : WP M d b0 Po Px G bc bs pc lv (.int n :: st) := by
  intro p l e s m args below meth c H locs cells slots mc ms D ls hB hK hS hR hl h1 h2
  subst hty
  have hts := hB.2.2.2.2.2.2.1
  refine va_newaK hB.1 hB.2.1 (hts _ hw) rfl hd rfl hn hN hby (by show cells + 1 ≤ mc; omega) (by show slots + N ≤ ms; omega) rfl fun H1 cA e1 z1 o1 hAr hNm => ?_
  have hb : b0 ≤ H.size := Nat.le_trans hK.2.1 hS.1
  exact kk H.size hR.fresh hb p l e s m args below meth c H1 locs (cells + 1) (slots + N) mc ms D ls hB hK ⟨Nat.le_trans hS.1 (by omega), fun x h3 h4 => (o1 x (Nat.lt_of_lt_of_le h3 hS.1)).trans (hS.2.1 x h3 h4), hS.2.2⟩ (hR.up hb ⟨cA, e1.trans (congrArg some (ha cA).symm), hAr, hRA s cA hNm⟩ (fun q _ hq => o1 q hq)) hl (by omega) (by omega)
theorem r_newq {idx : Nat} {n : Int32} (C : String) (N : Nat) (bc' bs' : Nat) (hd : decode M.2.1 pc = .ok (.anewarray idx, 3)) (hw : Cond.classLink M.1.cls idx C ∈ cx_tb) (hC : C ∈ cx_aov) (hn : ¬ n < 0) (hN : n.toNatClampNeg = N) (hby : N * 4 ≤ 536870912) (hbc : bc' + 1 ≤ bc) (hbs : bs' + N ≤ bs) (kk : ∀ q : Nat, G q = none → b0 ≤ q → WP M d b0 Po Px (va_up G q (some (.inl (.object C, N, .inr (.inr (.inr (.inr (fun _ => none)))))))) bc' bs' (pc + 3) lv (.ref q :: st)) : WP M d b0 Po Px G bc bs pc lv (.int n :: st) := by
  intro p l e s m args below meth c H locs cells slots mc ms D ls hB hK hS hR hl h1 h2
  subst hN
  have hts := hB.2.2.2.2.2.2.1
  have hov := hK.2.2.1.2.2.2.2.1 C hC
  refine W.anew hB.1 hB.2.1 hB.2.2.2.2.1 (hts _ hw) (va_AO.use hov) rfl hd rfl hn hby (by show cells + 1 ≤ mc; omega) (by show slots + _ ≤ ms; omega) fun cA kA comp f1 f2 f3 f4 => ?_
  generalize hH1 : H.push ({ cls := cA, slots := Array.replicate n.toNatClampNeg .null, vm := .none } : Cell) = H1
  have z1 : H1.size = H.size + 1 := by rw [← hH1, Array.size_push]
  have e1 : H1[H.size]? = some (arrV cA n.toNatClampNeg (fun _ => .null)) := by rw [← hH1, Array.getElem?_push_size, ← arrV_new]
  have o1 : ∀ q : Nat, q < H.size → H1[q]? = H[q]? := fun q hq => by rw [← hH1, Array.getElem?_push, if_neg (Nat.ne_of_lt hq)]
  have hAr : ArrOfT s cA (.object C) := fun N z => ⟨(fun k h => by cases h), kA, f2, comp, f3⟩
  have hb : b0 ≤ H.size := Nat.le_trans hK.2.1 hS.1
  exact kk H.size hR.fresh hb p l e s m args below meth c H1 locs (cells + 1) (slots + n.toNatClampNeg) mc ms D ls hB hK ⟨Nat.le_trans hS.1 (by omega), fun x h3 h4 => (o1 x (Nat.lt_of_lt_of_le h3 hS.1)).trans (hS.2.1 x h3 h4), hS.2.2⟩ (hR.up hb ⟨cA, by rw [vp_cell_q]; exact e1, hAr, kA, comp, f2, f3, f4, f1⟩ (fun q _ hq => o1 q hq)) hl (by omega) (by omega)
end CXH
section CXA
variable {M : MD} {d b0 : Nat} {Po : Option Value → GH → Prop} {Px : String → GH → Prop} {G : GH} {bc bs pc : Nat} {lv : List (Nat × Value)} {st : List Value}
theorem r_iald {a n : Nat} {f : Nat → Int32} {i : Int32} (hd : decode M.2.1 pc = .ok (.iaload, 1)) (hG : G a = some (.inl (.int, n, .inl f))) (hin : vp_in i n) (kk : WP M d b0 Po Px G bc bs (pc + 1) lv (.int (f i.toNatClampNeg) :: st)) : WP M d b0 Po Px G bc bs pc lv (.int i :: .ref a :: st) := by
  intro p l e s m args below meth c H locs cells slots mc ms D ls hB hK hS hR hl h1 h2
  obtain ⟨-, hat⟩ := hR a _ hG
  obtain ⟨cA, hP, g1, g2⟩ := cx_Aof hat
  exact va_iald hB.1 hB.2.1 (cx_Kt hK.1 g1 g2) hP 0 0 rfl rfl hin hd (kk p l e s m args below meth c H locs cells slots mc ms D ls hB hK hS hR hl h1 h2)
theorem r_cald {a n : Nat} {f : Nat → Int32} {i : Int32} (hd : decode M.2.1 pc = .ok (.caload, 1)) (hG : G a = some (.inl (.char, n, .inl f))) (hin : vp_in i n) (kk : WP M d b0 Po Px G bc bs (pc + 1) lv (.int (f i.toNatClampNeg) :: st)) : WP M d b0 Po Px G bc bs pc lv (.int i :: .ref a :: st) := by
  intro p l e s m args below meth c H locs cells slots mc ms D ls hB hK hS hR hl h1 h2
  obtain ⟨-, hat⟩ := hR a _ hG
  obtain ⟨cA, hP, g1, g2⟩ := cx_Aof hat
  exact va_cald hB.1 hB.2.1 (cx_Kt hK.1 g1 g2) hP 0 0 rfl rfl hin hd (kk p l e s m args below meth c H locs cells slots mc ms D ls hB hK hS hR hl h1 h2)
theorem r_zald {a n : Nat} {f : Nat → Int32} {i : Int32} (hd : decode M.2.1 pc = .ok (.baload, 1)) (hG : G a = some (.inl (.boolean, n, .inl f))) (hin : vp_in i n) (kk : WP M d b0 Po Px G bc bs (pc + 1) lv (.int (f i.toNatClampNeg) :: st)) : WP M d b0 Po Px G bc bs pc lv (.int i :: .ref a :: st) := by
  intro p l e s m args below meth c H locs cells slots mc ms D ls hB hK hS hR hl h1 h2
  obtain ⟨-, hat⟩ := hR a _ hG
  obtain ⟨cA, hP, g1, g2⟩ := cx_Aof hat
  exact va_zald hB.1 hB.2.1 (cx_Kt hK.1 g1 g2) hP 0 0 rfl rfl hin hd (kk p l e s m args below meth c H locs cells slots mc ms D ls hB hK hS hR hl h1 h2)
theorem r_lald {a n : Nat} {f : Nat → Int64} {i : Int32} (hd : decode M.2.1 pc = .ok (.laload, 1)) (hG : G a = some (.inl (.long, n, .inr (.inl f)))) (hin : vp_in i n) (kk : WP M d b0 Po Px G bc bs (pc + 1) lv (.long (f i.toNatClampNeg) :: st)) : WP M d b0 Po Px G bc bs pc lv (.int i :: .ref a :: st) := by
  intro p l e s m args below meth c H locs cells slots mc ms D ls hB hK hS hR hl h1 h2
  obtain ⟨-, hat⟩ := hR a _ hG
  obtain ⟨cA, hP, g1, g2⟩ := cx_Aof hat
  exact va_lald hB.1 hB.2.1 (cx_Kt hK.1 g1 g2) hP 0 0 rfl rfl hin hd (kk p l e s m args below meth c H locs cells slots mc ms D ls hB hK hS hR hl h1 h2)
theorem r_aald {a n : Nat} {C : String} {f : Nat → Option Nat} {i : Int32} (hd : decode M.2.1 pc = .ok (.aaload, 1)) (hG : G a = some (.inl (.object C, n, .inr (.inr (.inr (.inr f)))))) (hin : vp_in i n) (kk : WP M d b0 Po Px G bc bs (pc + 1) lv (va_rf (f i.toNatClampNeg) :: st)) : WP M d b0 Po Px G bc bs pc lv (.int i :: .ref a :: st) := by
  intro p l e s m args below meth c H locs cells slots mc ms D ls hB hK hS hR hl h1 h2
  obtain ⟨-, hat⟩ := hR a _ hG
  obtain ⟨cA, hP, g1, g2⟩ := cx_Aof hat
  exact va_aldq (C := C) hB.1 hB.2.1 (cx_Kt hK.1 g1 g2) hP 0 0 rfl rfl hin hd (kk p l e s m args below meth c H locs cells slots mc ms D ls hB hK hS hR hl h1 h2)
theorem r_alen {a : Nat} {ty : FieldType} {x : vp_A} {v : Int32} (hd : decode M.2.1 pc = .ok (.arraylength, 1)) (hG : G a = some (.inl (ty, x))) (hv : Int32.ofNat x.1 = v) (kk : WP M d b0 Po Px G bc bs (pc + 1) lv (.int v :: st)) : WP M d b0 Po Px G bc bs pc lv (.ref a :: st) := by
  intro p l e s m args below meth c H locs cells slots mc ms D ls hB hK hS hR hl h1 h2
  obtain ⟨-, hat⟩ := hR a _ hG
  obtain ⟨cA, hP, g1, g2⟩ := cx_Aof hat
  exact va_alen hB.1 hB.2.1 (cx_Kt hK.1 g1 g2) hP 0 0 rfl rfl hv hd (kk p l e s m args below meth c H locs cells slots mc ms D ls hB hK hS hR hl h1 h2)
theorem cx_updV {cA : ClassId} {n k : Nat} {f : Nat → Int32} {x : Int32} : (vp_cell cA (n, .inl f)).setSlot k (.int x) = vp_cell cA (n, .inl (upd f k x)) := by
  rw [vp_cell_i, vp_cell_i, arrV_store]
  congr 1
  funext q
  unfold updV upd
  by_cases hq : q = k
  · rw [if_pos hq, if_pos hq]
  · rw [if_neg hq, if_neg hq]
theorem cx_updL {cA : ClassId} {n k : Nat} {f : Nat → Int64} {x : Int64} : (vp_cell cA (n, .inr (.inl f))).setSlot k (.long x) = vp_cell cA (n, .inr (.inl (vp_updL f k x))) := by
  rw [vp_cell_l, vp_cell_l, arrV_store]
  congr 1
  funext q
  unfold updV vp_updL
  by_cases hq : q = k
  · rw [if_pos hq, if_pos hq]
  · rw [if_neg hq, if_neg hq]
theorem cx_updR {cA : ClassId} {n k : Nat} {f : Nat → Option Nat} {v : Nat} : (vp_cell cA (n, .inr (.inr (.inr (.inr f))))).setSlot k (.ref v) = vp_cell cA (n, .inr (.inr (.inr (.inr (va_up f k (some v)))))) := by
  rw [vp_cell_q, vp_cell_q, arrV_store]
  congr 1
  funext q
  unfold updV va_up
  by_cases hq : q = k
  · rw [if_pos hq, if_pos hq]; rfl
  · rw [if_neg hq, if_neg hq]
theorem r_iast {a n : Nat} {f : Nat → Int32} {i : Int32} {x : Int32} (hd : decode M.2.1 pc = .ok (.iastore, 1)) (hG : G a = some (.inl (.int, n, .inl f))) (hin : vp_in i n) (kk : WP M d b0 Po Px (va_up G a (some (.inl (.int, n, .inl (upd f i.toNatClampNeg x))))) bc bs (pc + 1) lv st) : WP M d b0 Po Px G bc bs pc lv (.int x :: .int i :: .ref a :: st) := by
  intro p l e s m args below meth c H locs cells slots mc ms D ls hB hK hS hR hl h1 h2
  obtain ⟨hb0, cA, g0, g1, g2⟩ := hR a _ hG
  refine W.iast hB.1 hB.2.1 g0 (g1 n _) (fun q => by cases q) (by show ¬ (i < 0 ∨ (arrV _ _ _).slots.size ≤ _); rw [arrV_size]; exact hin) rfl rfl hd fun H1 e1 e2 e3 => ?_
  exact kk p l e s m args below meth c H1 _ cells slots mc ms D ls hB hK (hS.put e2 e3 hb0) (hR.up hb0 ⟨cA, e1.trans (congrArg some cx_updV), g1, g2⟩ (fun q hq _ => e3 q hq)) hl h1 h2
theorem r_cast {a n : Nat} {f : Nat → Int32} {i : Int32} {x : Int32} (hd : decode M.2.1 pc = .ok (.castore, 1)) (hG : G a = some (.inl (.char, n, .inl f))) (hin : vp_in i n) (hx9 : narrow .char (.int x) = .int x) (kk : WP M d b0 Po Px (va_up G a (some (.inl (.char, n, .inl (upd f i.toNatClampNeg x))))) bc bs (pc + 1) lv st) : WP M d b0 Po Px G bc bs pc lv (.int x :: .int i :: .ref a :: st) := by
  intro p l e s m args below meth c H locs cells slots mc ms D ls hB hK hS hR hl h1 h2
  obtain ⟨hb0, cA, g0, g1, g2⟩ := hR a _ hG
  refine W.cast hB.1 hB.2.1 g0 (g1 n _) (fun q => by cases q) (by show ¬ (i < 0 ∨ (arrV _ _ _).slots.size ≤ _); rw [arrV_size]; exact hin) rfl rfl hd fun H1 e1 e2 e3 => ?_
  rw [hx9] at e1
  exact kk p l e s m args below meth c H1 _ cells slots mc ms D ls hB hK (hS.put e2 e3 hb0) (hR.up hb0 ⟨cA, e1.trans (congrArg some cx_updV), g1, g2⟩ (fun q hq _ => e3 q hq)) hl h1 h2
theorem r_zast {a n : Nat} {f : Nat → Int32} {i : Int32} {x : Int32} (hd : decode M.2.1 pc = .ok (.bastore, 1)) (hG : G a = some (.inl (.boolean, n, .inl f))) (hin : vp_in i n) (hx9 : narrow .boolean (.int x) = .int x) (kk : WP M d b0 Po Px (va_up G a (some (.inl (.boolean, n, .inl (upd f i.toNatClampNeg x))))) bc bs (pc + 1) lv st) : WP M d b0 Po Px G bc bs pc lv (.int x :: .int i :: .ref a :: st) := by
  intro p l e s m args below meth c H locs cells slots mc ms D ls hB hK hS hR hl h1 h2
  obtain ⟨hb0, cA, g0, g1, g2⟩ := hR a _ hG
  refine W.zast hB.1 hB.2.1 g0 (g1 n _) (fun q => by cases q) (by show ¬ (i < 0 ∨ (arrV _ _ _).slots.size ≤ _); rw [arrV_size]; exact hin) rfl rfl hd fun H1 e1 e2 e3 => ?_
  rw [hx9] at e1
  exact kk p l e s m args below meth c H1 _ cells slots mc ms D ls hB hK (hS.put e2 e3 hb0) (hR.up hb0 ⟨cA, e1.trans (congrArg some cx_updV), g1, g2⟩ (fun q hq _ => e3 q hq)) hl h1 h2
theorem r_last {a n : Nat} {f : Nat → Int64} {i : Int32} {x : Int64} (hd : decode M.2.1 pc = .ok (.lastore, 1)) (hG : G a = some (.inl (.long, n, .inr (.inl f)))) (hin : vp_in i n) (kk : WP M d b0 Po Px (va_up G a (some (.inl (.long, n, .inr (.inl (vp_updL f i.toNatClampNeg x)))))) bc bs (pc + 1) lv st) : WP M d b0 Po Px G bc bs pc lv (.long x :: .int i :: .ref a :: st) := by
  intro p l e s m args below meth c H locs cells slots mc ms D ls hB hK hS hR hl h1 h2
  obtain ⟨hb0, cA, g0, g1, g2⟩ := hR a _ hG
  refine W.last hB.1 hB.2.1 g0 (g1 n _) (fun q => by cases q) (by show ¬ (i < 0 ∨ (arrV _ _ _).slots.size ≤ _); rw [arrV_size]; exact hin) rfl rfl hd fun H1 e1 e2 e3 => ?_
  exact kk p l e s m args below meth c H1 _ cells slots mc ms D ls hB hK (hS.put e2 e3 hb0) (hR.up hb0 ⟨cA, e1.trans (congrArg some cx_updL), g1, g2⟩ (fun q hq _ => e3 q hq)) hl h1 h2
theorem r_aast {a n v ci : Nat} {vs : List Value} {f : Nat → Option Nat} {i : Int32} (C : String) (hd : decode M.2.1 pc = .ok (.aastore, 1)) (hG : G a = some (.inl (.object C, n, .inr (.inr (.inr (.inr f)))))) (hv : G v = some (.inr (ci, vs))) (hc : (vwCl[ci]?).map (fun r => r.1) = some C) (hin : vp_in i n) (kk : WP M d b0 Po Px (va_up G a (some (.inl (.object C, n, .inr (.inr (.inr (.inr (va_up f i.toNatClampNeg (some v))))))))) bc bs (pc + 1) lv st) : WP M d b0 Po Px G bc bs pc lv (.ref v :: .int i :: .ref a :: st) := by
  intro p l e s m args below meth c H locs cells slots mc ms D ls hB hK hS hR hl h1 h2
  obtain ⟨hb0, cA, g0, g1, g2⟩ := hR a _ hG
  obtain ⟨-, r', hr', cellV, y1, y2, y3, -⟩ := hR v _ hv
  have hrC : r'.1 = C := by
    rw [hr'] at hc
    exact Option.some.inj hc
  have hlt : i.toNatClampNeg < n := Nat.not_le.mp fun q => hin (Or.inr q)
  have h0 : ¬ i < 0 := fun q => hin (Or.inl q)
  have hcls := (hK.1.1 ci r' hr').2
  obtain ⟨kA, comp, k1, k2, k3, k4⟩ := g2
  have hcomp : comp = D.1 ci := Option.some.inj (k3.symm.trans (by rw [← hrC]; exact hcls.1))
  subst hcomp
  obtain ⟨kC, hkC, -⟩ := hcls.2
  refine W.aast hB.1 hB.2.1 g0 (fun q h => by cases h) (fun h => by cases h) k1 k2 rfl hkC ⟨h0, by show _ < (arrV _ _ _).slots.size; rw [arrV_size]; exact hlt⟩ y1 (fun q h => by rw [y3] at h; cases h) (by rw [y2]; exact hkC) (by rw [y2]; exact va_assign hcls) rfl rfl hd fun H1 e1 e2 e3 => ?_
  exact kk p l e s m args below meth c H1 _ cells slots mc ms D ls hB hK (hS.put e2 e3 hb0) (hR.up hb0 ⟨cA, e1.trans (congrArg some cx_updR), g1, kA, _, k1, k2, k3, k4⟩ (fun q hq _ => e3 q hq)) hl h1 h2
end CXA
