/-! A FRAME OF MY OWN over the kit's rows: a heap as a function of addresses (cells that are known), one judgement WP for a method's body, one contract CT for a call; all methods live over one list of words. -/
abbrev LC : Type := (FieldType × vp_A) ⊕ (Nat × List Value)
abbrev GH : Type := Nat → Option LC
/-- a method: name, bytes, locals, what it returns, its table of handlers -/
abbrev MD : Type := MethodName × ByteArray × Nat × Option FieldType × List (Nat × Nat × Nat × Nat)
def cx_tb : List Cond := lw_tbl.filter goodWord
theorem cx_tb_in {w : Cond} (i : Nat) (h : lw_tbl[i]? = some w) (g : goodWord w = true) : w ∈ cx_tb := List.mem_filter.mpr ⟨List.mem_of_getElem? h, g⟩
def cx_ws (M : MD) : List Cond := (if M.2.2.2.2 = [] then .code M.1 M.2.1 M.2.2.1 M.2.2.2.1 else .codeWith M.1 M.2.1 M.2.2.1 M.2.2.2.1 M.2.2.2.2) :: cx_tb
def cx_at (D : va_G) (s : State) (q : Nat) (e : LC) (H : Heap) : Prop := match e with
  | .inl a => ∃ cA : ClassId, H[q]? = some (vp_cell cA a.2) ∧ ArrOfT s cA a.1 ∧ va_RA s cA a.1
  | .inr o => ∃ r : vw_C, vwCl[o.1]? = some r ∧ t_OB q (D.1 o.1) r.2.2 (D.2 o.1) H (vp_V o.2)
theorem cx_at.kept {D : va_G} {s : State} {q : Nat} {e : LC} {H H1 : Heap} (h : cx_at D s q e H) (hq : H1[q]? = H[q]?) : cx_at D s q e H1 := by
  cases e with
  | inl a => obtain ⟨cA, h1, h2⟩ := h; exact ⟨cA, hq.trans h1, h2⟩
  | inr o => obtain ⟨r, h1, h2⟩ := h; exact ⟨r, h1, h2.kept hq⟩
theorem cx_at.lt {D : va_G} {s : State} {q : Nat} {e : LC} {H : Heap} (h : cx_at D s q e H) : q < H.size := by
  cases e with
  | inl a => obtain ⟨cA, h1, h2⟩ := h; exact (Array.getElem?_eq_some_iff.mp h1).1
  | inr o => obtain ⟨r, h1, cell, h2, -⟩ := h; exact (Array.getElem?_eq_some_iff.mp h2).1
theorem cx_at.moved {D : va_G} {u U : State} {q : Nat} {e : LC} {H : Heap} (hvm : u.vm.Alike U.vm) (h : cx_at D u q e H) : cx_at D U q e H := by
  cases e with
  | inl a => obtain ⟨cA, h1, h2, h3⟩ := h; exact ⟨cA, h1, arrOfT_moved hvm h2, h3.moved hvm⟩
  | inr o => exact h
def cx_R (D : va_G) (b0 : Nat) (s : State) (G : GH) (H : Heap) : Prop := ∀ (q : Nat) (e : LC), G q = some e → b0 ≤ q ∧ cx_at D s q e H
theorem cx_R.moved {D : va_G} {b0 : Nat} {u U : State} {G : GH} {H : Heap} (hvm : u.vm.Alike U.vm) (h : cx_R D b0 u G H) : cx_R D b0 U G H := fun q e hq => ⟨(h q e hq).1, (h q e hq).2.moved hvm⟩
def cx_nest : List (String × Nat × MethodName × String) := [("Glosstemplate", 49, ⟨"Glosstemplate$Page", "<init>", "()V"⟩, "Glosstemplate"), ("Glosstemplate", 56, ⟨"Glosstemplate$Seeker", "<init>", "()V"⟩, "Glosstemplate"), ("Glosstemplate$Signs", 31, ⟨"Glosstemplate", "isSmall", "(C)Z"⟩, "Glosstemplate"), ("Glosstemplate$Words", 30, ⟨"Glosstemplate", "isBelow", "(II)Z"⟩, "Glosstemplate"), ("Glosstemplate$Clause", 25, ⟨"Glosstemplate$Template", "<init>", "()V"⟩, "Glosstemplate"), ("Glosstemplate$Clause", 26, ⟨"Glosstemplate", "isBelow", "(II)Z"⟩, "Glosstemplate"), ("Glosstemplate$Template", 36, ⟨"Glosstemplate", "slotOf", "(C)I"⟩, "Glosstemplate"), ("Glosstemplate", 187, ⟨"Glosstemplate$Letter", "<init>", "()V"⟩, "Glosstemplate"), ("Glosstemplate$Letter", 19, ⟨"Glosstemplate", "isBelow", "(II)Z"⟩, "Glosstemplate"), ("Glosstemplate$Data", 19, ⟨"Glosstemplate", "isBelow", "(II)Z"⟩, "Glosstemplate"), ("Glosstemplate$Page", 27, ⟨"Glosstemplate", "capital", "(C)C"⟩, "Glosstemplate"), ("Glosstemplate$Page", 35, ⟨"Glosstemplate", "isOpenBehind", "(CZ)Z"⟩, "Glosstemplate"), ("Glosstemplate$Template", 40, ⟨"Glosstemplate", "caseOf", "(C)I"⟩, "Glosstemplate"), ("Glosstemplate$Template", 43, ⟨"Glosstemplate", "numberOf", "(C)I"⟩, "Glosstemplate"), ("Glosstemplate$Words", 66, ⟨"Glosstemplate", "isVowel", "(C)Z"⟩, "Glosstemplate"), ("Glosstemplate$Seeker", 21, ⟨"Glosstemplate", "capital", "(C)C"⟩, "Glosstemplate"), ("Glosstemplate$Seeker", 27, ⟨"Glosstemplate", "isOpenBehind", "(CZ)Z"⟩, "Glosstemplate")]
def cx_exc : List String := ["java/lang/IllegalStateException", "java/lang/IllegalArgumentException", "java/lang/IndexOutOfBoundsException"]
def cx_nc : List (String × String) := [("java/lang/IllegalStateException", "java/lang/IllegalArgumentException"), ("java/lang/IllegalStateException", "java/lang/IndexOutOfBoundsException"), ("java/lang/IllegalArgumentException", "java/lang/IndexOutOfBoundsException"), ("java/lang/IllegalArgumentException", "java/lang/IllegalStateException"), ("java/lang/IndexOutOfBoundsException", "java/lang/IllegalArgumentException"), ("java/lang/IndexOutOfBoundsException", "java/lang/IllegalStateException")]
def cx_aov : List String := ["Glosstemplate$Signs", "Glosstemplate$Clause", "Glosstemplate$Letter", "Glosstemplate$Data", "Glosstemplate$Template"]
def cx_strs : List (String × Nat × String) := [("Glosstemplate", 67, "the buffer is full"), ("Glosstemplate", 86, "no stem, or too many words"), ("Glosstemplate", 101, "no such language or word"), ("Glosstemplate", 109, "no such grammar"), ("Glosstemplate", 112, "no ending, or no form"), ("Glosstemplate", 122, "no such condition"), ("Glosstemplate", 128, "too many clauses"), ("Glosstemplate", 135, "no such clause or language"), ("Glosstemplate", 140, "the buffer is no text"), ("Glosstemplate", 155, "no text there"), ("Glosstemplate", 167, "no such clause"), ("Glosstemplate", 169, "the same clause, or no such country or how"), ("Glosstemplate", 185, "too many letters"), ("Glosstemplate", 192, "no such letter or clause"), ("Glosstemplate", 199, "the letter has the clause, or is full"), ("Glosstemplate", 202, "no such word"), ("Glosstemplate", 204, "bits out of range"), ("Glosstemplate", 209, "too many data"), ("Glosstemplate", 218, "no such data, slot or word"), ("Glosstemplate", 227, "no such language"), ("Glosstemplate", 229, "price out of range"), ("Glosstemplate", 231, "no such letter, data or language"), ("Glosstemplate", 233, "no such country"), ("Glosstemplate", 246, "no such letter, data, language or place"), ("Glosstemplate", 268, "no such letter or place")]
def cx_dcl : List MethodName := [⟨"java/lang/RuntimeException", "<init>", "()V"⟩, ⟨"java/lang/RuntimeException", "<init>", "(Ljava/lang/String;)V"⟩, ⟨"java/lang/Exception", "<init>", "()V"⟩, ⟨"java/lang/Exception", "<init>", "(Ljava/lang/String;)V"⟩, ⟨"java/lang/Throwable", "<init>", "()V"⟩, ⟨"java/lang/Throwable", "<init>", "(Ljava/lang/String;)V"⟩]
def cx_N (s : State) : Prop := (∀ y ∈ cx_dcl, va_Nw (.declares y) s) ∧ (∀ t ∈ cx_nest, va_Nw (.methodLinkNest t.1 t.2.1 t.2.2.1 t.2.2.2) s) ∧ (∀ E ∈ cx_exc, va_Nw (.castable E E) s) ∧ (∀ t ∈ cx_nc, va_Nc t.1 t.2 s) ∧ (∀ C ∈ cx_aov, va_AO C s) ∧ ∀ t ∈ cx_strs, ∃ a : Nat, vk_R t.1 t.2.1 t.2.2 a s
theorem cx_N.warm {s U : State} (hW : s.WarmedH U.vm) (h : cx_N s) : cx_N U := by
  obtain ⟨h0, h1, h2, h3, h4, h5⟩ := h
  refine ⟨fun y hy => va_tabs rfl (rfl : (s.setVm U.vm).vm = U.vm) (by rw [Cond.declares_setVm hW.alike]; exact h0 y hy), fun t ht => (h1 t ht).warmM hW, fun E hE => (h2 E hE).warmC hW, fun t ht => ?_, fun C hC => (h4 C hC).moved hW.alike, fun t ht => ?_⟩
  · obtain ⟨c, d, e1, e2, e3⟩ := h3 t ht
    exact ⟨c, d, by rw [hW.alike.findClass]; exact e1, by rw [hW.alike.findClass]; exact e2, by rw [hW.alike.assignable]; exact e3⟩
  · obtain ⟨a, ha⟩ := h5 t ht
    exact ⟨a, ha.warm hW⟩
def cx_Z (A : Nat → Prop) (s : State) (H : Heap) : Prop := vx_Zq Bundle.tN "UNASSIGNED_STACK" Bundle.steD A s H ∧ vx_Zq Bundle.tN "SUPPRESSED_SENTINEL" Bundle.listD A s H
def cx_K (D : va_G) (b0 : Nat) (s : State) : Prop := va_K D vwCl [] s ∧ b0 ≤ s.heap.size ∧ cx_N s ∧ cx_Z (fun q => b0 ≤ q) s s.heap
theorem cx_K.next {D : va_G} {b0 : Nat} {s U : State} {H : Heap} {locs : List Loc} (h : cx_K D b0 s) (hS : va_S (fun q => b0 ≤ q) s.heap H locs) (hU : U.heap = H) (hW : s.WarmedH U.vm) : cx_K D b0 U := by
  obtain ⟨h1, h2, h3, h4, h5⟩ := h
  refine ⟨va_K.moved hW.alike h1, by rw [hU]; exact Nat.le_trans h2 hS.1, h3.warm hW, ?_, ?_⟩
  · rw [hU]; exact (h4.kept hS.2.1).moved hW.alike
  · rw [hU]; exact (h5.kept hS.2.1).moved hW.alike
theorem cx_K.calling {D : va_G} {b0 : Nat} {s : State} {g : JFrame} {mk : MethodId} {a : Array Value} (h : cx_K D b0 s) : cx_K D b0 (s.calling g mk a) := by
  have hvm : (s.calling g mk a).vm = s.vm := rfl
  have hW : s.WarmedH (s.calling g mk a).vm := by rw [hvm]; exact State.WarmedH.refl s
  exact h.next (va_S.rf) (by rfl) hW
/-- what a body knows of its method and of the machine -/
def cx_B (M : MD) (p : Program) (l : Launch) (s : State) (m : MethodId) (args : Array Value) (meth : Method) (c : Code) : Prop :=
  p.tables.exec = Jvm.exec ∧ c.code = M.2.1 ∧ c.maxLocals = M.2.2.1 ∧ meth.sig.returnType = M.2.2.2.1 ∧ s.vm.findClass M.1.cls = some m.cls ∧ meth.locks = false ∧ (∀ w ∈ cx_tb, w.before args s = true) ∧ c.exceptionTable.toList = tableOf M.2.2.2.2 ∧ meth.name = M.1.name ∧ l.stackTraces = false
def cx_rm (d mc ms : Nat) : Room := { frames := d, cells := mc, slots := ms, locals := 40 * d }
def cx_Q (D : va_G) (b0 : Nat) (Po : Option Value → GH → Prop) : Array Value → State → Outcome → State → Prop := fun _ st o t => ∃ (r : Option Value) (G : GH), o = .returned r ∧ Po r G ∧ cx_R D b0 t G t.heap ∧ va_F (fun q => b0 ≤ q) st t
def cx_X (D : va_G) (b0 : Nat) (Px : String → GH → Prop) : String → State → State → Prop := fun E st t => ∃ G : GH, Px E G ∧ cx_R D b0 t G t.heap ∧ va_F (fun q => b0 ≤ q) st t
/-- the body of M at pc: from every machine that holds G, the locals lv and the stack st, with room for bc cells of bs slots, it comes to an end that Po (or, thrown, Px) allows -/
def WP (M : MD) (d b0 : Nat) (Po : Option Value → GH → Prop) (Px : String → GH → Prop) (G : GH) (bc bs pc : Nat) (lv : List (Nat × Value)) (st : List Value) : Prop :=
  ∀ (p : Program) (l : Launch) (e : Env) (s : State) (m : MethodId) (args : Array Value) (below : List Frame) (meth : Method) (c : Code) (H : Heap) (locs : List Loc) (cells slots mc ms : Nat) (D : va_G) (ls : Array Slot),
    cx_B M p l s m args meth c → cx_K D b0 s → va_S (fun q => b0 ≤ q) s.heap H locs → cx_R D b0 s G H → lv_has ls M.2.2.1 lv → cells + bc ≤ mc → slots + bs ≤ ms →
    W p l e (cx_rm d mc ms) s m args below meth c H locs cells slots (vx_MQ below (cx_Q D b0 Po) (cx_X D b0 Px) args s mc ms (fun q => b0 ≤ q)) (F0 m pc ls st)
/-- .. and thrown E over the frame at pc -/
def WX (M : MD) (d b0 : Nat) (Po : Option Value → GH → Prop) (Px : String → GH → Prop) (G : GH) (bc bs pc : Nat) (lv : List (Nat × Value)) (E : String) : Prop :=
  ∀ (p : Program) (l : Launch) (e : Env) (s : State) (m : MethodId) (args : Array Value) (below : List Frame) (meth : Method) (c : Code) (H : Heap) (locs : List Loc) (cells slots mc ms : Nat) (D : va_G) (ls : Array Slot) (rest : List Value) (q : Addr) (ce : Cell),
    cx_B M p l s m args meth c → cx_K D b0 s → va_S (fun q => b0 ≤ q) s.heap H locs → cx_R D b0 s G H → lv_has ls M.2.2.1 lv → cells + bc ≤ mc → slots + bs ≤ ms → H[q]? = some ce → ce.vm = .none → s.vm.findClass E = some ce.cls →
    vx_W p l e (cx_rm d mc ms) s m args below meth c H locs cells slots (vx_MQ below (cx_Q D b0 Po) (cx_X D b0 Px) args s mc ms (fun q => b0 ≤ q)) (F0 m pc ls rest) q
def cx_P (D : va_G) (b0 : Nat) (G : GH) (av : List Value) : Array Value → State → Prop := fun v U => v = av.toArray ∧ cx_K D b0 U ∧ cx_R D b0 U G U.heap
/-- a call of M with av over G, with mc cells of ms slots at most -/
def CT (M : MD) (d b0 : Nat) (G : GH) (av : List Value) (mc ms : Nat) (Po : Option Value → GH → Prop) (Px : String → GH → Prop) : Prop :=
  ∀ (l : Launch) (D : va_G), l.stackTraces = false → vx_Met l M.1 (cx_ws M) (cx_rm d mc ms) (cx_P D b0 G av) (cx_Q D b0 Po) (cx_X D b0 Px) mc ms (fun q => b0 ≤ q)
theorem cx_P.blind {D : va_G} {b0 : Nat} {G : GH} {av : List Value} : FrameBlind (cx_P D b0 G av) := fun a U g mk h => by
  obtain ⟨h1, h2, h3⟩ := h
  exact ⟨h1, h2.calling, cx_R.moved (u := U) (U := U.calling g mk a) (Vm.Alike.refl U.vm) h3⟩
section CXR
variable {M : MD} {d b0 : Nat} {Po : Option Value → GH → Prop} {Px : String → GH → Prop} {G : GH} {bc bs pc : Nat} {lv : List (Nat × Value)} {st : List Value}
theorem CT.intro {av : List Value} (hp : plainName M.1.cls = true) (hh : M.2.2.2.2 = []) (hn : (lg_sl av).length ≤ M.2.2.1) (k : WP M d b0 Po Px G bc bs 0 (lv_args 0 av) []) : CT M d b0 G av bc bs Po Px := by
  intro l D hl
  have hw : cx_ws M = Cond.code M.1 M.2.1 M.2.2.1 M.2.2.2.1 :: cx_tb := by unfold cx_ws; rw [if_pos hh]
  refine vx_ofW (cc := M.2.1) (maxL := M.2.2.1) (ret := M.2.2.2.1) hp hw ?_
  intro p e s m args below meth c s₁ B hml ht hv
  obtain ⟨rfl, hK, hR⟩ := hv
  have hts := atoms_spec (ws := cx_ws M) B.pre
  have hlv := lv_entry av hn
  rw [lg_entry_eq]
  refine k p l e s m _ below meth c s.heap [] 0 0 bc bs D _ ⟨B.exec, B.bytes, hml, B.returns, findClass_of_methodNamed B.named, B.notSynchronized, fun w h => hts w (by rw [hw]; exact List.mem_cons_of_mem _ h), ?_, (name_of_methodNamed B.named B.method).1, hl⟩ hK va_S.rf hR hlv (by omega) (by omega)
  rw [hh]
  show _ = []
  cases hx : c.exceptionTable.toList with
  | nil => rfl
  | cons a r => exact (ht a (by rw [hx]; exact List.mem_cons_self)).elim
theorem CT.introW {av : List Value} (hp : plainName M.1.cls = true) (hh : M.2.2.2.2 ≠ []) (hn : (lg_sl av).length ≤ M.2.2.1) (k : WP M d b0 Po Px G bc bs 0 (lv_args 0 av) []) : CT M d b0 G av bc bs Po Px := by
  intro l D hl
  have hw : cx_ws M = Cond.codeWith M.1 M.2.1 M.2.2.1 M.2.2.2.1 M.2.2.2.2 :: cx_tb := by unfold cx_ws; rw [if_neg hh]
  refine vx_ofWH (cc := M.2.1) (maxL := M.2.2.1) (ret := M.2.2.2.1) (hh := M.2.2.2.2) hp hw ?_
  intro p e s m args below meth c s₁ B hml hv
  obtain ⟨rfl, hK, hR⟩ := hv
  have hts := atoms_spec (ws := cx_ws M) B.pre
  have hlv := lv_entry av hn
  rw [lg_entry_eq]
  exact k p l e s m _ below meth c s.heap [] 0 0 bc bs D _ ⟨B.exec, B.bytes, hml, B.returns, findClass_of_methodNamed B.named, B.notSynchronized, fun w h => hts w (by rw [hw]; exact List.mem_cons_of_mem _ h), vx_table (x := M.1) B (hts _ (by rw [hw]; exact List.mem_cons_self)), (name_of_methodNamed B.named B.method).1, hl⟩ hK va_S.rf hR hlv (by omega) (by omega)
/-- a step that touches neither heap nor locals -/
theorem WP.pure {pc' : Nat} {st' : List Value} (h : ∀ {p : Program} {l : Launch} {e : Env} {R : Room} {s : State} {m : MethodId} {args : Array Value} {below : List Frame} {meth : Method} {c : Code} {H : Heap} {locs : List Loc} {cells slots : Nat} {Q : State → Prop} {ls : Array Slot}, p.tables.exec = Jvm.exec → c.code = M.2.1 → lv_has ls M.2.2.1 lv → W p l e R s m args below meth c H locs cells slots Q (F0 m pc' ls st') → W p l e R s m args below meth c H locs cells slots Q (F0 m pc ls st))
    (k : WP M d b0 Po Px G bc bs pc' lv st') : WP M d b0 Po Px G bc bs pc lv st := by
  intro p l e s m args below meth c H locs cells slots mc ms D ls hB hK hS hR hl h1 h2
  exact h hB.1 hB.2.1 hl (k p l e s m args below meth c H locs cells slots mc ms D ls hB hK hS hR hl h1 h2)
theorem WP.loc {lv' : List (Nat × Value)} (ks : List Nat) (hl : lv_pick lv ks = lv') (k : WP M d b0 Po Px G bc bs pc lv' st) : WP M d b0 Po Px G bc bs pc lv st := by
  intro p l e s m args below meth c H locs cells slots mc ms D ls hB hK hS hR h h1 h2
  exact k p l e s m args below meth c H locs cells slots mc ms D ls hB hK hS hR (lv_sub h ks hl) h1 h2
theorem WP.bud {bc' bs' : Nat} (h1 : bc' ≤ bc) (h2 : bs' ≤ bs) (k : WP M d b0 Po Px G bc' bs' pc lv st) : WP M d b0 Po Px G bc bs pc lv st := by
  intro p l e s m args below meth c H locs cells slots mc ms D ls hB hK hS hR h h3 h4
  exact k p l e s m args below meth c H locs cells slots mc ms D ls hB hK hS hR h (by omega) (by omega)
theorem CT.mono {av : List Value} {Po' : Option Value → GH → Prop} {Px' : String → GH → Prop} (h : CT M d b0 G av bc bs Po Px) (h1 : ∀ r G', Po r G' → Po' r G') (h2 : ∀ E G', Px E G' → Px' E G') : CT M d b0 G av bc bs Po' Px' := by
  intro l D hl p e ha hc hk s m args below hf happ hP hK
  obtain ⟨k, o, g1, g2, g3, g4⟩ := h l D hl p e ha hc hk s m args below hf happ hP hK
  refine ⟨k, o, g1, g2, g3, ?_⟩
  rcases g4 with ⟨⟨r, G', q1, q2, q3⟩, q4⟩ | ⟨q, q1, E, ce, L, ⟨G', q2, q3⟩, q4⟩
  · exact Or.inl ⟨⟨r, G', q1, h1 r G' q2, q3⟩, q4⟩
  · exact Or.inr ⟨q, q1, E, ce, L, ⟨G', h2 E G' q2, q3⟩, q4⟩
end CXR
