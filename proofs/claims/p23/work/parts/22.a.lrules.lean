def cx_rl (d mc ms : Nat) : Room := { frames := d, cells := mc, slots := ms, locals := 40 * d + 38 }
theorem cx_callBl {d mc' ms' : Nat} {N : MD} {s : State} {args : Array Value} {own : String} {idx n mc ms : Nat} (ht : ∀ w ∈ cx_tb, w.before args s = true) (hN : cx_M N) (hn : cx_n N n) (hl : Cond.methodLink own idx N.1 ∈ cx_tb) : CallB (cx_rl (d + 1) mc ms) s args own idx N.1 N.2.1 N.2.2.1 N.2.2.2.1 (cx_ws N) (cx_rm d mc' ms') mc' ms' n := by
  have hlt := hN.2.2.2.2
  exact ⟨rfl, rfl, Nat.le_refl _, by show 8 + (N.2.2.1 + 11) + 40 * d ≤ 40 * (d + 1) + 38; omega, pay_in ht (cx_GoodIn hN), by rw [cx_wsc hN]; exact List.mem_cons_self, ht _ hN.2.1, ht _ hN.2.2.1, hN.2.2.2.1, cx_lenn hn, ht _ hl⟩
theorem cx_callBll {d mc' ms' : Nat} {N : MD} {s : State} {args : Array Value} {own : String} {idx n mc ms : Nat} (ht : ∀ w ∈ cx_tb, w.before args s = true) (hN : cx_M N) (hn : cx_n N n) (hl : Cond.methodLink own idx N.1 ∈ cx_tb) : CallB (cx_rl (d + 1) mc ms) s args own idx N.1 N.2.1 N.2.2.1 N.2.2.2.1 (cx_ws N) (cx_rl d mc' ms') mc' ms' n := by
  have hlt := hN.2.2.2.2
  exact ⟨rfl, rfl, Nat.le_refl _, by show 8 + (N.2.2.1 + 11) + (40 * d + 38) ≤ 40 * (d + 1) + 38; omega, pay_in ht (cx_GoodIn hN), by rw [cx_wsc hN]; exact List.mem_cons_self, ht _ hN.2.1, ht _ hN.2.2.1, hN.2.2.2.1, cx_lenn hn, ht _ hl⟩
/-- what the law's body knows of its method -/
def cx_BL (M : MD) (p : Program) (l : Launch) (s : State) (m : MethodId) (args : Array Value) (meth : Method) (c : Code) : Prop :=
  p.tables.exec = Jvm.exec ∧ c.code = M.2.1 ∧ c.maxLocals = M.2.2.1 ∧ meth.sig.returnType = M.2.2.2.1 ∧ s.vm.findClass M.1.cls = some m.cls ∧ meth.locks = false ∧ (∀ w ∈ cx_tb, w.before args s = true) ∧ True ∧ True ∧ l.stackTraces = false
/-- a script: where it lies, its length, its ints -/
abbrev SX : Type := Nat × Nat × (Nat → Int32)
def WL (X : SX) (M : MD) (d b0 : Nat) (Po : Option Value → GH → Prop) (Px : String → GH → Prop) (G : GH) (bc bs pc : Nat) (lv : List (Nat × Value)) (st : List Value) : Prop :=
  ∀ (p : Program) (l : Launch) (e : Env) (s : State) (m : MethodId) (args : Array Value) (below : List Frame) (meth : Method) (c : Code) (H : Heap) (locs : List Loc) (cells slots mc ms : Nat) (D : va_G) (ls : Array Slot),
    cx_BL M p l s m args meth c → cx_K D b0 s → va_S (fun q => b0 ≤ q) s.heap H locs → cx_R D b0 s G H → lv_has ls M.2.2.1 lv → cells + bc ≤ mc → slots + bs ≤ ms → (va_X X.1 X.2.1 X.2.2 s s.heap ∧ X.1 < s.heap.size ∧ X.1 < b0) →
    W p l e (cx_rl d mc ms) s m args below meth c H locs cells slots (vx_MQ below (cx_Q D b0 Po) (cx_X D b0 Px) args s mc ms (fun q => b0 ≤ q)) (F0 m pc ls st)
section LRU
variable {X : SX} {M : MD} {d b0 : Nat} {Po : Option Value → GH → Prop} {Px : String → GH → Prop} {G : GH} {bc bs pc : Nat} {lv : List (Nat × Value)} {st : List Value}
theorem WL.pure {pc' : Nat} {st' : List Value} (h : ∀ {p : Program} {l : Launch} {e : Env} {R : Room} {s : State} {m : MethodId} {args : Array Value} {below : List Frame} {meth : Method} {c : Code} {H : Heap} {locs : List Loc} {cells slots : Nat} {Q : State → Prop} {ls : Array Slot}, p.tables.exec = Jvm.exec → c.code = M.2.1 → lv_has ls M.2.2.1 lv → W p l e R s m args below meth c H locs cells slots Q (F0 m pc' ls st') → W p l e R s m args below meth c H locs cells slots Q (F0 m pc ls st))
    (k : WL X M d b0 Po Px G bc bs pc' lv st') : WL X M d b0 Po Px G bc bs pc lv st := by
  intro p l e s m args below meth c H locs cells slots mc ms D ls hB hK hS hR hl h1 h2 hx9
  exact h hB.1 hB.2.1 hl (k p l e s m args below meth c H locs cells slots mc ms D ls hB hK hS hR hl h1 h2 hx9)
theorem WL.loc {lv' : List (Nat × Value)} (ks : List Nat) (hl : lv_pick lv ks = lv') (k : WL X M d b0 Po Px G bc bs pc lv' st) : WL X M d b0 Po Px G bc bs pc lv st := by
  intro p l e s m args below meth c H locs cells slots mc ms D ls hB hK hS hR h h1 h2 hx9
  exact k p l e s m args below meth c H locs cells slots mc ms D ls hB hK hS hR (lv_sub h ks hl) h1 h2 hx9
theorem WL.bud {bc' bs' : Nat} (h1 : bc' ≤ bc) (h2 : bs' ≤ bs) (k : WL X M d b0 Po Px G bc' bs' pc lv st) : WL X M d b0 Po Px G bc bs pc lv st := by
  intro p l e s m args below meth c H locs cells slots mc ms D ls hB hK hS hR h h3 h4 hx9
  exact k p l e s m args below meth c H locs cells slots mc ms D ls hB hK hS hR h (by omega) (by omega) hx9
theorem q_iconst {n : Int} {v : Int32} (hd : decode M.2.1 pc = .ok (.iconst n, 1)) (hv : Int32.ofInt n = v) (k : WL X M d b0 Po Px G bc bs (pc + 1) lv (.int v :: st)) : WL X M d b0 Po Px G bc bs pc lv st := WL.pure (fun hx hb hl kk => lv_iconst hx hb hd hv kk) k
theorem q_bipush {n : Int} {v : Int32} (hd : decode M.2.1 pc = .ok (.bipush n, 2)) (hv : (Int8.ofInt n).toInt32 = v) (k : WL X M d b0 Po Px G bc bs (pc + 2) lv (.int v :: st)) : WL X M d b0 Po Px G bc bs pc lv st := WL.pure (fun hx hb hl kk => lv_bipush hx hb hd hv kk) k
theorem q_sipush {n : Int} {v : Int32} (hd : decode M.2.1 pc = .ok (.sipush n, 3)) (hv : (Int16.ofInt n).toInt32 = v) (k : WL X M d b0 Po Px G bc bs (pc + 3) lv (.int v :: st)) : WL X M d b0 Po Px G bc bs pc lv st := WL.pure (fun hx hb hl kk => lv_sipush hx hb hd hv kk) k
theorem q_lconst {n : Fin 2} {v : Int64} (hd : decode M.2.1 pc = .ok (.lconst n, 1)) (hv : Int64.ofNat (n : Nat) = v) (k : WL X M d b0 Po Px G bc bs (pc + 1) lv (.long v :: st)) : WL X M d b0 Po Px G bc bs pc lv st := WL.pure (fun hx hb hl kk => lv_lconst hx hb hd hv kk) k
theorem q_null  (hd : decode M.2.1 pc = .ok (.aconst_null, 1)) (k : WL X M d b0 Po Px G bc bs (pc + 1) lv (.null :: st)) : WL X M d b0 Po Px G bc bs pc lv st := WL.pure (fun hx hb hl kk => lv_null hx hb hd kk) k
theorem q_iload_n {i : Nat} {x : Int32} {kk : Fin 4} (hd : decode M.2.1 pc = .ok (.iload_n kk, 1)) (hi : (kk : Nat) = i) (j : Nat) (hj : lv[j]? = some (i, .int x)) (k : WL X M d b0 Po Px G bc bs (pc + 1) lv (.int x :: st)) : WL X M d b0 Po Px G bc bs pc lv st := WL.pure (fun hx hb hl kk => lv_iload_n hx hb hd hi (lv_at hl j hj) kk) k
theorem q_iload {i : Nat} {x : Int32} (hd : decode M.2.1 pc = .ok (.iload i, 2)) (j : Nat) (hj : lv[j]? = some (i, .int x)) (k : WL X M d b0 Po Px G bc bs (pc + 2) lv (.int x :: st)) : WL X M d b0 Po Px G bc bs pc lv st := WL.pure (fun hx hb hl kk => lv_iload hx hb hd (lv_at hl j hj) kk) k
theorem q_aload_n {i : Nat} {x : Nat} {kk : Fin 4} (hd : decode M.2.1 pc = .ok (.aload_n kk, 1)) (hi : (kk : Nat) = i) (j : Nat) (hj : lv[j]? = some (i, .ref x)) (k : WL X M d b0 Po Px G bc bs (pc + 1) lv (.ref x :: st)) : WL X M d b0 Po Px G bc bs pc lv st := WL.pure (fun hx hb hl kk => lv_aload_n hx hb hd hi (lv_at hl j hj) kk) k
theorem q_aload {i : Nat} {x : Nat} (hd : decode M.2.1 pc = .ok (.aload i, 2)) (j : Nat) (hj : lv[j]? = some (i, .ref x)) (k : WL X M d b0 Po Px G bc bs (pc + 2) lv (.ref x :: st)) : WL X M d b0 Po Px G bc bs pc lv st := WL.pure (fun hx hb hl kk => lv_aload hx hb hd (lv_at hl j hj) kk) k
theorem q_aload_nN {i : Nat} {kk : Fin 4} (hd : decode M.2.1 pc = .ok (.aload_n kk, 1)) (hi : (kk : Nat) = i) (j : Nat) (hj : lv[j]? = some (i, .null)) (k : WL X M d b0 Po Px G bc bs (pc + 1) lv (.null :: st)) : WL X M d b0 Po Px G bc bs pc lv st := WL.pure (fun hx hb hl kk => lv_aload_nN hx hb hd hi (lv_at hl j hj) kk) k
theorem q_aloadN {i : Nat} (hd : decode M.2.1 pc = .ok (.aload i, 2)) (j : Nat) (hj : lv[j]? = some (i, .null)) (k : WL X M d b0 Po Px G bc bs (pc + 2) lv (.null :: st)) : WL X M d b0 Po Px G bc bs pc lv st := WL.pure (fun hx hb hl kk => lv_aloadN hx hb hd (lv_at hl j hj) kk) k
theorem q_iadd {x y : Int32} (hd : decode M.2.1 pc = .ok (.iadd, 1)) (k : WL X M d b0 Po Px G bc bs (pc + 1) lv (.int (x + y) :: st)) : WL X M d b0 Po Px G bc bs pc lv (.int y :: .int x :: st) := WL.pure (fun hx hb hl kk => lv_iadd hx hb hd kk) k
theorem q_isub {x y : Int32} (hd : decode M.2.1 pc = .ok (.isub, 1)) (k : WL X M d b0 Po Px G bc bs (pc + 1) lv (.int (x - y) :: st)) : WL X M d b0 Po Px G bc bs pc lv (.int y :: .int x :: st) := WL.pure (fun hx hb hl kk => lv_isub hx hb hd kk) k
theorem q_imul {x y : Int32} (hd : decode M.2.1 pc = .ok (.imul, 1)) (k : WL X M d b0 Po Px G bc bs (pc + 1) lv (.int (x * y) :: st)) : WL X M d b0 Po Px G bc bs pc lv (.int y :: .int x :: st) := WL.pure (fun hx hb hl kk => lv_imul hx hb hd kk) k
theorem q_iand {x y : Int32} (hd : decode M.2.1 pc = .ok (.iand, 1)) (k : WL X M d b0 Po Px G bc bs (pc + 1) lv (.int (x &&& y) :: st)) : WL X M d b0 Po Px G bc bs pc lv (.int y :: .int x :: st) := WL.pure (fun hx hb hl kk => lv_iand hx hb hd kk) k
theorem q_ior {x y : Int32} (hd : decode M.2.1 pc = .ok (.ior, 1)) (k : WL X M d b0 Po Px G bc bs (pc + 1) lv (.int (x ||| y) :: st)) : WL X M d b0 Po Px G bc bs pc lv (.int y :: .int x :: st) := WL.pure (fun hx hb hl kk => lv_ior hx hb hd kk) k
theorem q_ixor {x y : Int32} (hd : decode M.2.1 pc = .ok (.ixor, 1)) (k : WL X M d b0 Po Px G bc bs (pc + 1) lv (.int (x ^^^ y) :: st)) : WL X M d b0 Po Px G bc bs pc lv (.int y :: .int x :: st) := WL.pure (fun hx hb hl kk => lv_ixor hx hb hd kk) k
theorem q_ishl {x y : Int32} (hd : decode M.2.1 pc = .ok (.ishl, 1)) (k : WL X M d b0 Po Px G bc bs (pc + 1) lv (.int (x <<< (y &&& 31)) :: st)) : WL X M d b0 Po Px G bc bs pc lv (.int y :: .int x :: st) := WL.pure (fun hx hb hl kk => lv_ishl hx hb hd kk) k
theorem q_ishr {x y : Int32} (hd : decode M.2.1 pc = .ok (.ishr, 1)) (k : WL X M d b0 Po Px G bc bs (pc + 1) lv (.int (x >>> (y &&& 31)) :: st)) : WL X M d b0 Po Px G bc bs pc lv (.int y :: .int x :: st) := WL.pure (fun hx hb hl kk => lv_ishr hx hb hd kk) k
theorem q_idiv {x y : Int32} (hd : decode M.2.1 pc = .ok (.idiv, 1)) (hne : ¬ y = 0) (k : WL X M d b0 Po Px G bc bs (pc + 1) lv (.int (x / y) :: st)) : WL X M d b0 Po Px G bc bs pc lv (.int y :: .int x :: st) := WL.pure (fun hx hb hl kk => lv_idiv hx hb hd hne kk) k
theorem q_irem {x y : Int32} (hd : decode M.2.1 pc = .ok (.irem, 1)) (hne : ¬ y = 0) (k : WL X M d b0 Po Px G bc bs (pc + 1) lv (.int (x - x / y * y) :: st)) : WL X M d b0 Po Px G bc bs pc lv (.int y :: .int x :: st) := WL.pure (fun hx hb hl kk => lv_irem hx hb hd hne kk) k
theorem q_iushr {x y v : Int32} (hd : decode M.2.1 pc = .ok (.iushr, 1)) (hv : (x.toUInt32 >>> (y.toUInt32 &&& Int32.toUInt32 31)).toInt32 = v) (k : WL X M d b0 Po Px G bc bs (pc + 1) lv (.int v :: st)) : WL X M d b0 Po Px G bc bs pc lv (.int y :: .int x :: st) := WL.pure (fun hx hb hl kk => lv_iushr hx hb hd hv kk) k
theorem q_i2l {x : Int32} (hd : decode M.2.1 pc = .ok (.i2l, 1)) (k : WL X M d b0 Po Px G bc bs (pc + 1) lv (.long x.toInt64 :: st)) : WL X M d b0 Po Px G bc bs pc lv (.int x :: st) := WL.pure (fun hx hb hl kk => lv_i2l hx hb hd rfl kk) k
theorem q_i2c {x : Int32} {v : Int32} (hd : decode M.2.1 pc = .ok (.i2c, 1)) (hv : (x.toUInt32 % 65536).toInt32 = v) (k : WL X M d b0 Po Px G bc bs (pc + 1) lv (.int v :: st)) : WL X M d b0 Po Px G bc bs pc lv (.int x :: st) := WL.pure (fun hx hb hl kk => lv_i2c hx hb hd hv kk) k
theorem q_lcmp {x y : Int64} (hd : decode M.2.1 pc = .ok (.lcmp, 1)) (k : WL X M d b0 Po Px G bc bs (pc + 1) lv (.int (lg_cmp x y) :: st)) : WL X M d b0 Po Px G bc bs pc lv (.long y :: .long x :: st) := WL.pure (fun hx hb hl kk => W.lcmp hx hb hd kk) k
theorem q_dup {v : Value} (hd : decode M.2.1 pc = .ok (.dup, 1)) (hv : v.category = 1) (k : WL X M d b0 Po Px G bc bs (pc + 1) lv (v :: v :: st)) : WL X M d b0 Po Px G bc bs pc lv (v :: st) := WL.pure (fun hx hb hl kk => lv_dup hx hb hd hv kk) k
theorem q_pop {v : Value} (hd : decode M.2.1 pc = .ok (.pop, 1)) (hv : v.category = 1) (k : WL X M d b0 Po Px G bc bs (pc + 1) lv st) : WL X M d b0 Po Px G bc bs pc lv (v :: st) := WL.pure (fun hx hb hl kk => lv_pop hx hb hd hv kk) k
theorem q_dup2 {v w : Value} (hd : decode M.2.1 pc = .ok (.dup2, 1)) (hv : v.category = 1) (hw : w.category = 1) (k : WL X M d b0 Po Px G bc bs (pc + 1) lv (v :: w :: v :: w :: st)) : WL X M d b0 Po Px G bc bs pc lv (v :: w :: st) := WL.pure (fun hx hb hl kk => lv_dup2_11 hx hb hd hv hw kk) k
theorem q_goto {off : Int} (tgt : Nat) (hd : decode M.2.1 pc = .ok (.goto off, 3)) (ht : (pc : Int) + off = (tgt : Int)) (k : WL X M d b0 Po Px G bc bs tgt lv st) : WL X M d b0 Po Px G bc bs pc lv st := WL.pure (fun hx hb hl kk => lv_goto hx hb hd ht kk) k
theorem q_ifnullR {x : Nat} {off : Int} (hd : decode M.2.1 pc = .ok (.ifnull off, 3)) (k : WL X M d b0 Po Px G bc bs (pc + 3) lv st) : WL X M d b0 Po Px G bc bs pc lv (.ref x :: st) := WL.pure (fun hx hb hl kk => lv_ifnull hx hb hd kk) k
theorem q_ifnullN {off : Int} (tgt : Nat) (hd : decode M.2.1 pc = .ok (.ifnull off, 3)) (ht : (pc : Int) + off = (tgt : Int)) (k : WL X M d b0 Po Px G bc bs tgt lv st) : WL X M d b0 Po Px G bc bs pc lv (.null :: st) := WL.pure (fun hx hb hl kk => lv_ifnullN hx hb hd ht kk) k
theorem q_ifnonnullR {x : Nat} {off : Int} (tgt : Nat) (hd : decode M.2.1 pc = .ok (.ifnonnull off, 3)) (ht : (pc : Int) + off = (tgt : Int)) (k : WL X M d b0 Po Px G bc bs tgt lv st) : WL X M d b0 Po Px G bc bs pc lv (.ref x :: st) := WL.pure (fun hx hb hl kk => lv_ifnonnull hx hb hd ht kk) k
theorem q_ifnonnullN {off : Int} (hd : decode M.2.1 pc = .ok (.ifnonnull off, 3)) (k : WL X M d b0 Po Px G bc bs (pc + 3) lv st) : WL X M d b0 Po Px G bc bs pc lv (.null :: st) := WL.pure (fun hx hb hl kk => lv_ifnonnullN hx hb hd kk) k
theorem q_ldc {index : Nat} {v : Int32} (hd : decode M.2.1 pc = .ok (.ldc index, 2)) (hc : Cond.constant M.1.cls index v ∈ cx_tb) (k : WL X M d b0 Po Px G bc bs (pc + 2) lv (.int v :: st)) : WL X M d b0 Po Px G bc bs pc lv st := by
  intro p l e s m args below meth c H locs cells slots mc ms D ls hB hK hS hR hl h1 h2 hx9
  exact lv_ldc hB.1 hB.2.1 hB.2.2.2.2.1 (hB.2.2.2.2.2.2.1 _ hc) hd (k p l e s m args below meth c H locs cells slots mc ms D ls hB hK hS hR hl h1 h2 hx9)
theorem q_ldcw {index : Nat} {v : Int32} (hd : decode M.2.1 pc = .ok (.ldc_w index, 3)) (hc : Cond.constant M.1.cls index v ∈ cx_tb) (k : WL X M d b0 Po Px G bc bs (pc + 3) lv (.int v :: st)) : WL X M d b0 Po Px G bc bs pc lv st := by
  intro p l e s m args below meth c H locs cells slots mc ms D ls hB hK hS hR hl h1 h2 hx9
  exact lv_ldcw hB.1 hB.2.1 hB.2.2.2.2.1 (hB.2.2.2.2.2.2.1 _ hc) hd (k p l e s m args below meth c H locs cells slots mc ms D ls hB hK hS hR hl h1 h2 hx9)
theorem q_istore_n {i : Nat} {x : Int32} {kk : Fin 4} (lv2 : List (Nat × Value)) (hd : decode M.2.1 pc = .ok (.istore_n kk, 1)) (hi : (kk : Nat) = i) (hn : i < M.2.2.1) (hl0 : (i, Value.int x) :: lv.filter (fun q => !(q.1 == i) && !(q.1 + 1 == i && q.2.category == 2)) = lv2) (k : WL X M d b0 Po Px G bc bs (pc + 1) lv2 st) : WL X M d b0 Po Px G bc bs pc lv (.int x :: st) := by
  intro p l e s m args below meth c H locs cells slots mc ms D ls hB hK hS hR hl h1 h2 hx9
  exact lv_istore_n hB.1 hB.2.1 hd hi hl hn hl0 (fun ls2 hl2 => k p l e s m args below meth c H locs cells slots mc ms D ls2 hB hK hS hR hl2 h1 h2 hx9)
theorem q_istore {i : Nat} {x : Int32} (lv2 : List (Nat × Value)) (hd : decode M.2.1 pc = .ok (.istore i, 2)) (hn : i < M.2.2.1) (hl0 : (i, Value.int x) :: lv.filter (fun q => !(q.1 == i) && !(q.1 + 1 == i && q.2.category == 2)) = lv2) (k : WL X M d b0 Po Px G bc bs (pc + 2) lv2 st) : WL X M d b0 Po Px G bc bs pc lv (.int x :: st) := by
  intro p l e s m args below meth c H locs cells slots mc ms D ls hB hK hS hR hl h1 h2 hx9
  exact lv_istore hB.1 hB.2.1 hd hl hn hl0 (fun ls2 hl2 => k p l e s m args below meth c H locs cells slots mc ms D ls2 hB hK hS hR hl2 h1 h2 hx9)
theorem q_astore_n {i : Nat} {x : Nat} {kk : Fin 4} (lv2 : List (Nat × Value)) (hd : decode M.2.1 pc = .ok (.astore_n kk, 1)) (hi : (kk : Nat) = i) (hn : i < M.2.2.1) (hl0 : (i, Value.ref x) :: lv.filter (fun q => !(q.1 == i) && !(q.1 + 1 == i && q.2.category == 2)) = lv2) (k : WL X M d b0 Po Px G bc bs (pc + 1) lv2 st) : WL X M d b0 Po Px G bc bs pc lv (.ref x :: st) := by
  intro p l e s m args below meth c H locs cells slots mc ms D ls hB hK hS hR hl h1 h2 hx9
  exact lv_astore_n hB.1 hB.2.1 hd hi hl hn hl0 (fun ls2 hl2 => k p l e s m args below meth c H locs cells slots mc ms D ls2 hB hK hS hR hl2 h1 h2 hx9)
theorem q_astore {i : Nat} {x : Nat} (lv2 : List (Nat × Value)) (hd : decode M.2.1 pc = .ok (.astore i, 2)) (hn : i < M.2.2.1) (hl0 : (i, Value.ref x) :: lv.filter (fun q => !(q.1 == i) && !(q.1 + 1 == i && q.2.category == 2)) = lv2) (k : WL X M d b0 Po Px G bc bs (pc + 2) lv2 st) : WL X M d b0 Po Px G bc bs pc lv (.ref x :: st) := by
  intro p l e s m args below meth c H locs cells slots mc ms D ls hB hK hS hR hl h1 h2 hx9
  exact lv_astore hB.1 hB.2.1 hd hl hn hl0 (fun ls2 hl2 => k p l e s m args below meth c H locs cells slots mc ms D ls2 hB hK hS hR hl2 h1 h2 hx9)
theorem q_astore_nN {i : Nat} {kk : Fin 4} (lv2 : List (Nat × Value)) (hd : decode M.2.1 pc = .ok (.astore_n kk, 1)) (hi : (kk : Nat) = i) (hn : i < M.2.2.1) (hl0 : (i, Value.null) :: lv.filter (fun q => !(q.1 == i) && !(q.1 + 1 == i && q.2.category == 2)) = lv2) (k : WL X M d b0 Po Px G bc bs (pc + 1) lv2 st) : WL X M d b0 Po Px G bc bs pc lv (.null :: st) := by
  intro p l e s m args below meth c H locs cells slots mc ms D ls hB hK hS hR hl h1 h2 hx9
  exact lv_astore_nN hB.1 hB.2.1 hd hi hl hn hl0 (fun ls2 hl2 => k p l e s m args below meth c H locs cells slots mc ms D ls2 hB hK hS hR hl2 h1 h2 hx9)
theorem q_astoreN {i : Nat} (lv2 : List (Nat × Value)) (hd : decode M.2.1 pc = .ok (.astore i, 2)) (hn : i < M.2.2.1) (hl0 : (i, Value.null) :: lv.filter (fun q => !(q.1 == i) && !(q.1 + 1 == i && q.2.category == 2)) = lv2) (k : WL X M d b0 Po Px G bc bs (pc + 2) lv2 st) : WL X M d b0 Po Px G bc bs pc lv (.null :: st) := by
  intro p l e s m args below meth c H locs cells slots mc ms D ls hB hK hS hR hl h1 h2 hx9
  exact lv_astoreN hB.1 hB.2.1 hd hl hn hl0 (fun ls2 hl2 => k p l e s m args below meth c H locs cells slots mc ms D ls2 hB hK hS hR hl2 h1 h2 hx9)
theorem q_iinc {i : Nat} {n : Int} {x : Int32} (v : Int32) (lv2 : List (Nat × Value)) (hd : decode M.2.1 pc = .ok (.iinc i n, 3)) (j : Nat) (hj : lv[j]? = some (i, .int x)) (hv : x + Int32.ofInt n = v) (hn : i < M.2.2.1) (hl0 : (i, Value.int v) :: lv.filter (fun q => !(q.1 == i) && !(q.1 + 1 == i && q.2.category == 2)) = lv2) (k : WL X M d b0 Po Px G bc bs (pc + 3) lv2 st) : WL X M d b0 Po Px G bc bs pc lv st := by
  intro p l e s m args below meth c H locs cells slots mc ms D ls hB hK hS hR hl h1 h2 hx9
  exact lv_iinc hB.1 hB.2.1 hd hl hj hv hn hl0 (fun ls2 hl2 => k p l e s m args below meth c H locs cells slots mc ms D ls2 hB hK hS hR hl2 h1 h2 hx9)
theorem q_if_eq {x : Int32} {off : Int} (tgt : Nat) (hd : decode M.2.1 pc = .ok (.ifCond .eq off, 3)) (ht : (pc : Int) + off = (tgt : Int)) (kt : x = 0 → WL X M d b0 Po Px G bc bs tgt lv st) (kf : ¬ x = 0 → WL X M d b0 Po Px G bc bs (pc + 3) lv st) : WL X M d b0 Po Px G bc bs pc lv (.int x :: st) := by
  intro p l e s m args below meth c H locs cells slots mc ms D ls hB hK hS hR hl h1 h2 hx9
  exact lv_if_eq hB.1 hB.2.1 hd ht (fun h => kt h p l e s m args below meth c H locs cells slots mc ms D ls hB hK hS hR hl h1 h2 hx9) (fun h => kf h p l e s m args below meth c H locs cells slots mc ms D ls hB hK hS hR hl h1 h2 hx9)
theorem q_icmp_eq {x y : Int32} {off : Int} (tgt : Nat) (hd : decode M.2.1 pc = .ok (.if_icmp .eq off, 3)) (ht : (pc : Int) + off = (tgt : Int)) (kt : x = y → WL X M d b0 Po Px G bc bs tgt lv st) (kf : ¬ x = y → WL X M d b0 Po Px G bc bs (pc + 3) lv st) : WL X M d b0 Po Px G bc bs pc lv (.int y :: .int x :: st) := by
  intro p l e s m args below meth c H locs cells slots mc ms D ls hB hK hS hR hl h1 h2 hx9
  exact lv_icmp_eq hB.1 hB.2.1 hd ht (fun h => kt h p l e s m args below meth c H locs cells slots mc ms D ls hB hK hS hR hl h1 h2 hx9) (fun h => kf h p l e s m args below meth c H locs cells slots mc ms D ls hB hK hS hR hl h1 h2 hx9)
theorem q_if_ne {x : Int32} {off : Int} (tgt : Nat) (hd : decode M.2.1 pc = .ok (.ifCond .ne off, 3)) (ht : (pc : Int) + off = (tgt : Int)) (kt : ¬ x = 0 → WL X M d b0 Po Px G bc bs tgt lv st) (kf : x = 0 → WL X M d b0 Po Px G bc bs (pc + 3) lv st) : WL X M d b0 Po Px G bc bs pc lv (.int x :: st) := by
  intro p l e s m args below meth c H locs cells slots mc ms D ls hB hK hS hR hl h1 h2 hx9
  exact lv_if_ne hB.1 hB.2.1 hd ht (fun h => kt h p l e s m args below meth c H locs cells slots mc ms D ls hB hK hS hR hl h1 h2 hx9) (fun h => kf h p l e s m args below meth c H locs cells slots mc ms D ls hB hK hS hR hl h1 h2 hx9)
theorem q_icmp_ne {x y : Int32} {off : Int} (tgt : Nat) (hd : decode M.2.1 pc = .ok (.if_icmp .ne off, 3)) (ht : (pc : Int) + off = (tgt : Int)) (kt : ¬ x = y → WL X M d b0 Po Px G bc bs tgt lv st) (kf : x = y → WL X M d b0 Po Px G bc bs (pc + 3) lv st) : WL X M d b0 Po Px G bc bs pc lv (.int y :: .int x :: st) := by
  intro p l e s m args below meth c H locs cells slots mc ms D ls hB hK hS hR hl h1 h2 hx9
  exact lv_icmp_ne hB.1 hB.2.1 hd ht (fun h => kt h p l e s m args below meth c H locs cells slots mc ms D ls hB hK hS hR hl h1 h2 hx9) (fun h => kf h p l e s m args below meth c H locs cells slots mc ms D ls hB hK hS hR hl h1 h2 hx9)
theorem q_if_lt {x : Int32} {off : Int} (tgt : Nat) (hd : decode M.2.1 pc = .ok (.ifCond .lt off, 3)) (ht : (pc : Int) + off = (tgt : Int)) (kt : x < 0 → WL X M d b0 Po Px G bc bs tgt lv st) (kf : ¬ (x < 0) → WL X M d b0 Po Px G bc bs (pc + 3) lv st) : WL X M d b0 Po Px G bc bs pc lv (.int x :: st) := by
  intro p l e s m args below meth c H locs cells slots mc ms D ls hB hK hS hR hl h1 h2 hx9
  exact lv_if_lt hB.1 hB.2.1 hd ht (fun h => kt h p l e s m args below meth c H locs cells slots mc ms D ls hB hK hS hR hl h1 h2 hx9) (fun h => kf h p l e s m args below meth c H locs cells slots mc ms D ls hB hK hS hR hl h1 h2 hx9)
theorem q_icmp_lt {x y : Int32} {off : Int} (tgt : Nat) (hd : decode M.2.1 pc = .ok (.if_icmp .lt off, 3)) (ht : (pc : Int) + off = (tgt : Int)) (kt : x < y → WL X M d b0 Po Px G bc bs tgt lv st) (kf : ¬ (x < y) → WL X M d b0 Po Px G bc bs (pc + 3) lv st) : WL X M d b0 Po Px G bc bs pc lv (.int y :: .int x :: st) := by
  intro p l e s m args below meth c H locs cells slots mc ms D ls hB hK hS hR hl h1 h2 hx9
  exact lv_icmp_lt hB.1 hB.2.1 hd ht (fun h => kt h p l e s m args below meth c H locs cells slots mc ms D ls hB hK hS hR hl h1 h2 hx9) (fun h => kf h p l e s m args below meth c H locs cells slots mc ms D ls hB hK hS hR hl h1 h2 hx9)
theorem q_if_ge {x : Int32} {off : Int} (tgt : Nat) (hd : decode M.2.1 pc = .ok (.ifCond .ge off, 3)) (ht : (pc : Int) + off = (tgt : Int)) (kt : 0 ≤ x → WL X M d b0 Po Px G bc bs tgt lv st) (kf : ¬ (0 ≤ x) → WL X M d b0 Po Px G bc bs (pc + 3) lv st) : WL X M d b0 Po Px G bc bs pc lv (.int x :: st) := by
  intro p l e s m args below meth c H locs cells slots mc ms D ls hB hK hS hR hl h1 h2 hx9
  exact lv_if_ge hB.1 hB.2.1 hd ht (fun h => kt h p l e s m args below meth c H locs cells slots mc ms D ls hB hK hS hR hl h1 h2 hx9) (fun h => kf h p l e s m args below meth c H locs cells slots mc ms D ls hB hK hS hR hl h1 h2 hx9)
theorem q_icmp_ge {x y : Int32} {off : Int} (tgt : Nat) (hd : decode M.2.1 pc = .ok (.if_icmp .ge off, 3)) (ht : (pc : Int) + off = (tgt : Int)) (kt : y ≤ x → WL X M d b0 Po Px G bc bs tgt lv st) (kf : ¬ (y ≤ x) → WL X M d b0 Po Px G bc bs (pc + 3) lv st) : WL X M d b0 Po Px G bc bs pc lv (.int y :: .int x :: st) := by
  intro p l e s m args below meth c H locs cells slots mc ms D ls hB hK hS hR hl h1 h2 hx9
  exact lv_icmp_ge hB.1 hB.2.1 hd ht (fun h => kt h p l e s m args below meth c H locs cells slots mc ms D ls hB hK hS hR hl h1 h2 hx9) (fun h => kf h p l e s m args below meth c H locs cells slots mc ms D ls hB hK hS hR hl h1 h2 hx9)
theorem q_if_gt {x : Int32} {off : Int} (tgt : Nat) (hd : decode M.2.1 pc = .ok (.ifCond .gt off, 3)) (ht : (pc : Int) + off = (tgt : Int)) (kt : 0 < x → WL X M d b0 Po Px G bc bs tgt lv st) (kf : ¬ (0 < x) → WL X M d b0 Po Px G bc bs (pc + 3) lv st) : WL X M d b0 Po Px G bc bs pc lv (.int x :: st) := by
  intro p l e s m args below meth c H locs cells slots mc ms D ls hB hK hS hR hl h1 h2 hx9
  exact lv_if_gt hB.1 hB.2.1 hd ht (fun h => kt h p l e s m args below meth c H locs cells slots mc ms D ls hB hK hS hR hl h1 h2 hx9) (fun h => kf h p l e s m args below meth c H locs cells slots mc ms D ls hB hK hS hR hl h1 h2 hx9)
theorem q_icmp_gt {x y : Int32} {off : Int} (tgt : Nat) (hd : decode M.2.1 pc = .ok (.if_icmp .gt off, 3)) (ht : (pc : Int) + off = (tgt : Int)) (kt : y < x → WL X M d b0 Po Px G bc bs tgt lv st) (kf : ¬ (y < x) → WL X M d b0 Po Px G bc bs (pc + 3) lv st) : WL X M d b0 Po Px G bc bs pc lv (.int y :: .int x :: st) := by
  intro p l e s m args below meth c H locs cells slots mc ms D ls hB hK hS hR hl h1 h2 hx9
  exact lv_icmp_gt hB.1 hB.2.1 hd ht (fun h => kt h p l e s m args below meth c H locs cells slots mc ms D ls hB hK hS hR hl h1 h2 hx9) (fun h => kf h p l e s m args below meth c H locs cells slots mc ms D ls hB hK hS hR hl h1 h2 hx9)
theorem q_if_le {x : Int32} {off : Int} (tgt : Nat) (hd : decode M.2.1 pc = .ok (.ifCond .le off, 3)) (ht : (pc : Int) + off = (tgt : Int)) (kt : x ≤ 0 → WL X M d b0 Po Px G bc bs tgt lv st) (kf : ¬ (x ≤ 0) → WL X M d b0 Po Px G bc bs (pc + 3) lv st) : WL X M d b0 Po Px G bc bs pc lv (.int x :: st) := by
  intro p l e s m args below meth c H locs cells slots mc ms D ls hB hK hS hR hl h1 h2 hx9
  exact lv_if_le hB.1 hB.2.1 hd ht (fun h => kt h p l e s m args below meth c H locs cells slots mc ms D ls hB hK hS hR hl h1 h2 hx9) (fun h => kf h p l e s m args below meth c H locs cells slots mc ms D ls hB hK hS hR hl h1 h2 hx9)
theorem q_icmp_le {x y : Int32} {off : Int} (tgt : Nat) (hd : decode M.2.1 pc = .ok (.if_icmp .le off, 3)) (ht : (pc : Int) + off = (tgt : Int)) (kt : x ≤ y → WL X M d b0 Po Px G bc bs tgt lv st) (kf : ¬ (x ≤ y) → WL X M d b0 Po Px G bc bs (pc + 3) lv st) : WL X M d b0 Po Px G bc bs pc lv (.int y :: .int x :: st) := by
  intro p l e s m args below meth c H locs cells slots mc ms D ls hB hK hS hR hl h1 h2 hx9
  exact lv_icmp_le hB.1 hB.2.1 hd ht (fun h => kt h p l e s m args below meth c H locs cells slots mc ms D ls hB hK hS hR hl h1 h2 hx9) (fun h => kf h p l e s m args below meth c H locs cells slots mc ms D ls hB hK hS hR hl h1 h2 hx9)
theorem q_tin {dflt lo hi : Int} {offs : Array Int} {len : Nat} {x : Int32} {off : Int} (tgt : Nat) (hd : decode M.2.1 pc = .ok (.tableswitch dflt lo hi offs, len)) (h3 : ¬ x.toInt < lo) (h4 : ¬ hi < x.toInt) (ho : offs[(x.toInt - lo).toNat]? = some off) (ht : (pc : Int) + off = (tgt : Int)) (k : WL X M d b0 Po Px G bc bs tgt lv st) : WL X M d b0 Po Px G bc bs pc lv (.int x :: st) := WL.pure (fun hx hb hl kk => lv_tableIn hx hb hd h3 h4 ho ht kk) k
theorem q_tout {dflt lo hi : Int} {offs : Array Int} {len : Nat} {x : Int32} (tgt : Nat) (hd : decode M.2.1 pc = .ok (.tableswitch dflt lo hi offs, len)) (h : x.toInt < lo ∨ hi < x.toInt) (ht : (pc : Int) + dflt = (tgt : Int)) (k : WL X M d b0 Po Px G bc bs tgt lv st) : WL X M d b0 Po Px G bc bs pc lv (.int x :: st) := WL.pure (fun hx hb hl kk => lv_tableOut hx hb hd h ht kk) k

theorem q_lload_n {i : Nat} {x : Int64} {kk : Fin 4} (hd : decode M.2.1 pc = .ok (.lload_n kk, 1)) (hi : (kk : Nat) = i) (j : Nat) (hj : lv[j]? = some (i, .long x)) (k : WL X M d b0 Po Px G bc bs (pc + 1) lv (.long x :: st)) : WL X M d b0 Po Px G bc bs pc lv st := WL.pure (fun hx hb hl kk => lv_lload_n hx hb hd hi (lv_at hl j hj) kk) k
theorem q_lload {i : Nat} {x : Int64} (hd : decode M.2.1 pc = .ok (.lload i, 2)) (j : Nat) (hj : lv[j]? = some (i, .long x)) (k : WL X M d b0 Po Px G bc bs (pc + 2) lv (.long x :: st)) : WL X M d b0 Po Px G bc bs pc lv st := WL.pure (fun hx hb hl kk => lv_lload hx hb hd (lv_at hl j hj) kk) k
theorem q_lstore_n {i : Nat} {x : Int64} {kk : Fin 4} (lv2 : List (Nat × Value)) (hd : decode M.2.1 pc = .ok (.lstore_n kk, 1)) (hi : (kk : Nat) = i) (hn : i + 1 < M.2.2.1) (hl0 : (i, Value.long x) :: lv.filter (fun q => !(q.1 == i) && (!(q.1 == i + 1) && !(q.1 + 1 == i && q.2.category == 2))) = lv2) (k : WL X M d b0 Po Px G bc bs (pc + 1) lv2 st) : WL X M d b0 Po Px G bc bs pc lv (.long x :: st) := by
  intro p l e s m args below meth c H locs cells slots mc ms D ls hB hK hS hR hl h1 h2 hx9
  exact lv_lstore_n hB.1 hB.2.1 hd hi hl hn hl0 (fun ls2 hl2 => k p l e s m args below meth c H locs cells slots mc ms D ls2 hB hK hS hR hl2 h1 h2 hx9)
theorem q_lstore {i : Nat} {x : Int64} (lv2 : List (Nat × Value)) (hd : decode M.2.1 pc = .ok (.lstore i, 2)) (hn : i + 1 < M.2.2.1) (hl0 : (i, Value.long x) :: lv.filter (fun q => !(q.1 == i) && (!(q.1 == i + 1) && !(q.1 + 1 == i && q.2.category == 2))) = lv2) (k : WL X M d b0 Po Px G bc bs (pc + 2) lv2 st) : WL X M d b0 Po Px G bc bs pc lv (.long x :: st) := by
  intro p l e s m args below meth c H locs cells slots mc ms D ls hB hK hS hR hl h1 h2 hx9
  exact lv_lstore hB.1 hB.2.1 hd hl hn hl0 (fun ls2 hl2 => k p l e s m args below meth c H locs cells slots mc ms D ls2 hB hK hS hR hl2 h1 h2 hx9)
theorem q_ladd {x y : Int64} (hd : decode M.2.1 pc = .ok (.ladd, 1)) (k : WL X M d b0 Po Px G bc bs (pc + 1) lv (.long (x + y) :: st)) : WL X M d b0 Po Px G bc bs pc lv (.long y :: .long x :: st) := WL.pure (fun hx hb hl kk => lv_ladd hx hb hd kk) k
theorem q_lmul {x y : Int64} (hd : decode M.2.1 pc = .ok (.lmul, 1)) (k : WL X M d b0 Po Px G bc bs (pc + 1) lv (.long (x * y) :: st)) : WL X M d b0 Po Px G bc bs pc lv (.long y :: .long x :: st) := WL.pure (fun hx hb hl kk => lv_lmul hx hb hd kk) k
theorem q_iald {a n : Nat} {f : Nat → Int32} {i : Int32} (hd : decode M.2.1 pc = .ok (.iaload, 1)) (hG : G a = some (.inl (.int, n, .inl f))) (hin : vp_in i n) (kk : WL X M d b0 Po Px G bc bs (pc + 1) lv (.int (f i.toNatClampNeg) :: st)) : WL X M d b0 Po Px G bc bs pc lv (.int i :: .ref a :: st) := by
  intro p l e s m args below meth c H locs cells slots mc ms D ls hB hK hS hR hl h1 h2 hx9
  obtain ⟨-, hat⟩ := hR a _ hG
  obtain ⟨cA, hP, g1, g2⟩ := cx_Aof hat
  exact va_iald hB.1 hB.2.1 (cx_Kt hK.1 g1 g2) hP 0 0 rfl rfl hin hd (kk p l e s m args below meth c H locs cells slots mc ms D ls hB hK hS hR hl h1 h2 hx9)
theorem q_iast {a n : Nat} {f : Nat → Int32} {i : Int32} {x : Int32} (hd : decode M.2.1 pc = .ok (.iastore, 1)) (hG : G a = some (.inl (.int, n, .inl f))) (hin : vp_in i n) (kk : WL X M d b0 Po Px (va_up G a (some (.inl (.int, n, .inl (upd f i.toNatClampNeg x))))) bc bs (pc + 1) lv st) : WL X M d b0 Po Px G bc bs pc lv (.int x :: .int i :: .ref a :: st) := by
  intro p l e s m args below meth c H locs cells slots mc ms D ls hB hK hS hR hl h1 h2 hx9
  obtain ⟨hb0, cA, g0, g1, g2⟩ := hR a _ hG
  refine W.iast hB.1 hB.2.1 g0 (g1 n _) (fun q => by cases q) (by show ¬ (i < 0 ∨ (arrV _ _ _).slots.size ≤ _); rw [arrV_size]; exact hin) rfl rfl hd fun H1 e1 e2 e3 => ?_
  exact kk p l e s m args below meth c H1 _ cells slots mc ms D ls hB hK (hS.put e2 e3 hb0) (hR.up hb0 ⟨cA, e1.trans (congrArg some cx_updV), g1, g2⟩ (fun q hq _ => e3 q hq)) hl h1 h2 hx9
theorem q_new {idx ci : Nat} (fs : List Value) (bc' bs' : Nat) (hd : decode M.2.1 pc = .ok (.new idx, 3)) (hN : cx_NW M.1.cls idx ci fs) (hbc : bc' + 1 ≤ bc) (hbs : bs' + fs.length ≤ bs) (kk : ∀ q : Nat, G q = none → b0 ≤ q → WL X M d b0 Po Px (va_up G q (some (.inr (ci, fs)))) bc' bs' (pc + 3) lv (.ref q :: st)) : WL X M d b0 Po Px G bc bs pc lv st := by
  intro p l e s m args below meth c H locs cells slots mc ms D ls hB hK hS hR hl h1 h2 hx9
  obtain ⟨⟨C, T, N⟩, ty, g1, g3, g5, g6, g7, g8, g9, g10⟩ := hN
  have hts := hB.2.2.2.2.2.2.1
  have hKn := hK.1.1 ci _ g1
  have g10' : fs.length = N := g10
  refine W.newcK (n := N) hB.1 hB.2.1 hB.2.2.2.2.1 (hts _ g6) (hts _ g7) (hts _ g8) rfl hd (by show cells + 1 ≤ mc; omega) (by show slots + N ≤ ms; omega) hKn.2.1 rfl fun H1 kC hkC e1 z1 o1 => ?_
  have hb : b0 ≤ H.size := Nat.le_trans hK.2.1 hS.1
  exact kk H.size hR.fresh hb p l e s m args below meth c H1 locs (cells + 1) (slots + N) mc ms D ls hB hK ⟨Nat.le_trans hS.1 (by omega), fun x h3 h4 => (o1 x (Nat.lt_of_lt_of_le h3 hS.1)).trans (hS.2.1 x h3 h4), hS.2.2⟩ (hR.up hb ⟨_, g1, (u_born ty hts g3 hKn hkC e1 g5).to g9⟩ (fun q _ hq => o1 q hq)) hl (by omega) (by omega) hx9
theorem q_newa {atype : ArrayType} {n : Int32} (ty : FieldType) (N : Nat) (a0 : vp_A) (bc' bs' : Nat) (hd : decode M.2.1 pc = .ok (.newarray atype, 2)) (hw : Cond.arrayClass (newarray.typeOf atype) ∈ cx_tb) (hty : newarray.typeOf atype = ty) (hRA : ∀ (U : State) (cA : ClassId), U.vm.findClass ("[" ++ ty.toString) = some cA → va_RA U cA ty) (ha : ∀ cA : ClassId, vp_cell cA a0 = arrV cA N (fun _ => defaultValue ty)) (hn : ¬ n < 0) (hN : n.toNatClampNeg = N) (hby : N * componentBytes ty ≤ 536870912) (hbc : bc' + 1 ≤ bc) (hbs : bs' + N ≤ bs) (kk : ∀ q : Nat, G q = none → b0 ≤ q → WL X M d b0 Po Px (va_up G q (some (.inl (ty, a0)))) bc' bs' (pc + 2) lv (.ref q :: st)) : WL X M d b0 Po Px G bc bs pc lv (.int n :: st) := by
  intro p l e s m args below meth c H locs cells slots mc ms D ls hB hK hS hR hl h1 h2 hx9
  subst hty
  have hts := hB.2.2.2.2.2.2.1
  refine va_newaK hB.1 hB.2.1 (hts _ hw) rfl hd rfl hn hN hby (by show cells + 1 ≤ mc; omega) (by show slots + N ≤ ms; omega) rfl fun H1 cA e1 z1 o1 hAr hNm => ?_
  have hb : b0 ≤ H.size := Nat.le_trans hK.2.1 hS.1
  exact kk H.size hR.fresh hb p l e s m args below meth c H1 locs (cells + 1) (slots + N) mc ms D ls hB hK ⟨Nat.le_trans hS.1 (by omega), fun x h3 h4 => (o1 x (Nat.lt_of_lt_of_le h3 hS.1)).trans (hS.2.1 x h3 h4), hS.2.2⟩ (hR.up hb ⟨cA, e1.trans (congrArg some (ha cA).symm), hAr, hRA s cA hNm⟩ (fun q _ hq => o1 q hq)) hl (by omega) (by omega) hx9
theorem q_ret {v : Int32} (ty : FieldType) (hd : decode M.2.1 pc = .ok (.ireturn, 1)) (hr : M.2.2.2.1 = some ty) (hn : narrow ty (.int v) = .int v) (k : Po (some (.int v)) G) : WL X M d b0 Po Px G bc bs pc lv [.int v] := by
  intro p l e s m args below meth c H locs cells slots mc ms D ls hB hK hS hR hl h1 h2 hx9
  refine vx_ret (W.widen (k := mc) (n := ms) (by omega) (by omega) ?_)
  exact W.zret hB.1 hB.2.1 (hB.2.2.2.1.trans hr) hn (fun t ht hW => ⟨_, G, rfl, k, by rw [ht]; exact hR.moved hW.alike, hS.F ht⟩) hS.2.2 hd hB.2.2.2.2.2.1
theorem q_top {x : Int32} (y : Int32) (h : x = y) (k : WL X M d b0 Po Px G bc bs pc lv (.int y :: st)) : WL X M d b0 Po Px G bc bs pc lv (.int x :: st) := by rw [h]; exact k
theorem q_heap {G' : GH} (h : G = G') (k : WL X M d b0 Po Px G' bc bs pc lv st) : WL X M d b0 Po Px G bc bs pc lv st := by rw [h]; exact k
/-- the script is read -/
theorem q_sld {i : Int32} (hd : decode M.2.1 pc = .ok (.iaload, 1)) (hin : vp_in i X.2.1) (kk : WL X M d b0 Po Px G bc bs (pc + 1) lv (.int (X.2.2 i.toNatClampNeg) :: st)) : WL X M d b0 Po Px G bc bs pc lv (.int i :: .ref X.1 :: st) := by
  intro p l e s m args below meth c H locs cells slots mc ms D ls hB hK hS hR hl h1 h2 hx9
  exact va_sld hB.1 hB.2.1 hx9.1 hx9.2.1 (Nat.not_le.mpr hx9.2.2) hS hin hd (kk p l e s m args below meth c H locs cells slots mc ms D ls hB hK hS hR hl h1 h2 hx9)
theorem q_slen {v : Int32} (hd : decode M.2.1 pc = .ok (.arraylength, 1)) (hv : Int32.ofNat X.2.1 = v) (kk : WL X M d b0 Po Px G bc bs (pc + 1) lv (.int v :: st)) : WL X M d b0 Po Px G bc bs pc lv (.ref X.1 :: st) := by
  intro p l e s m args below meth c H locs cells slots mc ms D ls hB hK hS hR hl h1 h2 hx9
  have k := kk p l e s m args below meth c H locs cells slots mc ms D ls hB hK hS hR hl h1 h2 hx9
  rw [← hv] at k
  exact va_slen hB.1 hB.2.1 hx9.1 hx9.2.1 (Nat.not_le.mpr hx9.2.2) hS hd k
theorem ql_back {Po' : Option Value → GH → Prop} {mc' ms' bc' bs' : Nat} {st0 : List Value}
    (h : ∀ (p : Program) (l : Launch) (e : Env) (s : State) (m : MethodId) (args : Array Value) (below : List Frame) (meth : Method) (c : Code) (H : Heap) (locs : List Loc) (cells slots mc ms : Nat) (D : va_G) (ls : Array Slot), cx_BL M p l s m args meth c → cx_K D b0 s → va_S (fun q => b0 ≤ q) s.heap H locs → cx_R D b0 s G H → lv_has ls M.2.2.1 lv → cells + mc' ≤ mc → slots + ms' ≤ ms → (va_X X.1 X.2.1 X.2.2 s s.heap ∧ X.1 < s.heap.size ∧ X.1 < b0) →
      ∃ a : Array Value, vx_Run p l e (cx_rl d mc ms) s m args below meth c H locs cells slots mc' ms' (F0 m pc ls st0) st (cx_Q D b0 Po' a) (cx_X D b0 (fun _ _ => False)) (fun q => b0 ≤ q))
    (hbc : bc' + mc' ≤ bc) (hbs : bs' + ms' ≤ bs) (kk : ∀ (r : Option Value) (G' : GH), Po' r G' → WL X M d b0 Po Px G' bc' bs' (pc + 3) lv (r.toList ++ st)) : WL X M d b0 Po Px G bc bs pc lv st0 := by
  intro p l e s m args below meth c H locs cells slots mc ms D ls hB hK hS hR hl h1 h2 hx9
  obtain ⟨a, hr⟩ := h p l e s m args below meth c H locs cells slots mc ms D ls hB hK hS hR hl (by omega) (by omega) hx9
  intro T hT X
  rcases hr T hT X with ⟨v, st₀, t, T', L, h0, X', hL, e1, e2, ⟨r, G', hv, hp, hb, hF⟩, stp⟩ | ⟨q, st₀, t, T', L, E, ce, h0, X', hL, e1, e2, ⟨G', hp, hb, hF⟩, hce, hcv, hcl, stp⟩
  · cases hv
    obtain ⟨k1, k2, k3⟩ := vx_keep (A1 := fun q => b0 ≤ q) h0 e1 hS (fun _ _ h => h) (fun _ h => h) hL hF
    have hal : s.vm.Alike t.vm := by rw [← e2]; exact X'.warmed.alike
    obtain ⟨t2, a1, b1⟩ := kk v G' hp p l e s m args below meth c T'.heap (locs ++ L) (cells + mc') (slots + ms') mc ms D ls hB hK k3 (by rw [e1]; exact hb.moved hal.symm) hl (by omega) (by omega) hx9 T' rfl X'
    exact ⟨t2, stp t2 a1, b1⟩
  · exact hp.elim
variable {N : MD} {Po' : Option Value → GH → Prop} {mc' ms' : Nat} {As : List Value}
theorem q_callV {idx b ci n : Nat} {fs : List Value} (As : List Value) (bc' bs' : Nat) {st0 : List Value} (hd : decode M.2.1 pc = .ok (.invokevirtual idx, 3)) (hN : cx_M N) (hn : cx_n N n) (hw : Cond.methodLink M.1.cls idx N.1 ∈ cx_tb ∧ Cond.instanceMethod N.1 ∈ cx_tb ∧ Cond.selects N.1.cls N.1 N.1 ∈ cx_tb) (hG : G b = some (.inr (ci, fs))) (hC : (vwCl[ci]?).map (fun r => r.1) = some N.1.cls)
    (hC0 : CT N d b0 G (.ref b :: As) mc' ms' Po' (fun _ _ => False)) (hst : st0 = As.reverse ++ .ref b :: st) (hln : As.length = n) (hroom : (st.map fun v => v.category).sum ≤ 8) (hbc : bc' + mc' ≤ bc) (hbs : bs' + ms' ≤ bs) (kk : ∀ (r : Option Value) (G' : GH), Po' r G' → WL X M (d + 1) b0 Po Px G' bc' bs' (pc + 3) lv (r.toList ++ st)) : WL X M (d + 1) b0 Po Px G bc bs pc lv st0 := by
  refine ql_back ?_ hbc hbs kk
  intro p l e s m args below meth c H locs cells slots mc ms D ls hB hK hS hR hl h1 h2 hx9
  have hts := hB.2.2.2.2.2.2.1
  exact ⟨_, vx_runV (As := As) (C := N.1.cls) ⟨hB.1, hB.2.1, hB.2.2.1, hB.2.2.2.2.1, hts⟩ (hC0 l D hB.2.2.2.2.2.2.2.2.2) ⟨cx_callBl hts hN hn hw.1, hts _ hw.2.1, hts _ hw.2.2⟩ ⟨cx_P.blind, cx_recv hK hR hG hC, cx_pre hK hS hR⟩ rfl hln hl.1 hst (lv_room hroom) hd ⟨by show cells + mc' ≤ mc; omega, by show slots + ms' ≤ ms; omega⟩⟩
theorem q_callI {idx b n : Nat} (As : List Value) (bc' bs' : Nat) {st0 : List Value} (hd : decode M.2.1 pc = .ok (.invokespecial idx, 3)) (hN : cx_M N) (hn : cx_n N n) (hrt : N.2.2.2.1 = none) (hin : N.1.name = "<init>") (hw : Cond.methodLink M.1.cls idx N.1 ∈ cx_tb ∧ Cond.instanceMethod N.1 ∈ cx_tb)
    (hC0 : CT N d b0 G (.ref b :: As) mc' ms' Po' (fun _ _ => False)) (hst : st0 = As.reverse ++ .ref b :: st) (hln : As.length = n) (hroom : (st.map fun v => v.category).sum ≤ 8) (hbc : bc' + mc' ≤ bc) (hbs : bs' + ms' ≤ bs) (kk : ∀ (r : Option Value) (G' : GH), Po' r G' → WL X M (d + 1) b0 Po Px G' bc' bs' (pc + 3) lv (r.toList ++ st)) : WL X M (d + 1) b0 Po Px G bc bs pc lv st0 := by
  refine ql_back ?_ hbc hbs kk
  intro p l e s m args below meth c H locs cells slots mc ms D ls hB hK hS hR hl h1 h2 hx9
  have hts := hB.2.2.2.2.2.2.1
  have cb := cx_callBl (d := d) (mc' := mc') (ms' := ms') (mc := mc) (ms := ms) hts hN hn hw.1
  rw [hrt] at cb
  exact ⟨_, vx_runI (As := As) ⟨hB.1, hB.2.1, hB.2.2.1, hB.2.2.2.2.1, hts⟩ (hC0 l D hB.2.2.2.2.2.2.2.2.2) ⟨cb, hin, hts _ hw.2⟩ ⟨cx_P.blind, cx_pre hK hS hR⟩ rfl hln hl.1 hst (lv_room hroom) hd ⟨by show cells + mc' ≤ mc; omega, by show slots + ms' ≤ ms; omega⟩⟩
theorem q_callSW {idx n : Nat} (As : List Value) (bc' bs' : Nat) {st0 : List Value} (hd : decode M.2.1 pc = .ok (.invokestatic idx, 3)) (hN : cx_MW N) (hn : cx_n N n) (hw : Cond.methodLink M.1.cls idx N.1 ∈ cx_tb ∧ Cond.static N.1 ∈ cx_tb)
    (hC0 : CT N d b0 G As mc' ms' Po' (fun _ _ => False)) (hst : st0 = As.reverse ++ st) (hln : As.length = n) (hroom : (st.map fun v => v.category).sum ≤ 8) (hbc : bc' + mc' ≤ bc) (hbs : bs' + ms' ≤ bs) (kk : ∀ (r : Option Value) (G' : GH), Po' r G' → WL X M (d + 1) b0 Po Px G' bc' bs' (pc + 3) lv (r.toList ++ st)) : WL X M (d + 1) b0 Po Px G bc bs pc lv st0 := by
  refine ql_back ?_ hbc hbs kk
  intro p l e s m args below meth c H locs cells slots mc ms D ls hB hK hS hR hl h1 h2 hx9
  have hts := hB.2.2.2.2.2.2.1
  have hlt := hN.2.2.2.2
  have hwc : cx_ws N = Cond.codeWith N.1 N.2.1 N.2.2.1 N.2.2.2.1 N.2.2.2.2 :: cx_tb := by unfold cx_ws; rw [if_neg hN.1]
  have hGd : GoodIn cx_tb (cx_ws N) := by
    intro w hw
    rw [hwc] at hw
    rcases List.mem_cons.mp hw with h | h
    · rw [h]
      exact ⟨hN.2.1, good_of_word (List.mem_filter.mp hN.2.1).2⟩
    · exact ⟨h, good_of_word (List.mem_filter.mp h).2⟩
  exact ⟨_, vx_runSX (As := As) (hh := N.2.2.2.2) ⟨hB.1, hB.2.1, hB.2.2.1, hB.2.2.2.2.1, hts⟩ (hC0 l D hB.2.2.2.2.2.2.2.2.2) ⟨⟨rfl, rfl, Nat.le_refl _, by show 8 + (N.2.2.1 + 11) + 40 * d ≤ 40 * (d + 1) + 38; omega, pay_in hts hGd, by rw [hwc]; exact List.mem_cons_self⟩, hts _ hN.2.1, hts _ hN.2.2.1, hN.2.2.2.1, cx_lenn hn, hts _ hw.1, hts _ hw.2⟩ ⟨cx_P.blind, cx_pre hK hS hR⟩ rfl hln hl.1 hst (lv_room hroom) hd ⟨by show cells + mc' ≤ mc; omega, by show slots + ms' ≤ ms; omega⟩⟩

theorem q_callS {idx n : Nat} (As : List Value) (bc' bs' : Nat) {st0 : List Value} (hd : decode M.2.1 pc = .ok (.invokestatic idx, 3)) (hN : cx_M N) (hn : cx_n N n) (hw : Cond.methodLink M.1.cls idx N.1 ∈ cx_tb ∧ Cond.static N.1 ∈ cx_tb)
    (hC0 : CT N d b0 G As mc' ms' Po' (fun _ _ => False)) (hst : st0 = As.reverse ++ st) (hln : As.length = n) (hroom : (st.map fun v => v.category).sum ≤ 8) (hbc : bc' + mc' ≤ bc) (hbs : bs' + ms' ≤ bs) (kk : ∀ (r : Option Value) (G' : GH), Po' r G' → WL X M (d + 1) b0 Po Px G' bc' bs' (pc + 3) lv (r.toList ++ st)) : WL X M (d + 1) b0 Po Px G bc bs pc lv st0 := by
  refine ql_back ?_ hbc hbs kk
  intro p l e s m args below meth c H locs cells slots mc ms D ls hB hK hS hR hl h1 h2 hx9
  have hts := hB.2.2.2.2.2.2.1
  exact ⟨_, vx_runS (As := As) ⟨hB.1, hB.2.1, hB.2.2.1, hB.2.2.2.2.1, hts⟩ (hC0 l D hB.2.2.2.2.2.2.2.2.2) ⟨cx_callBl hts hN hn hw.1, hts _ hw.2⟩ ⟨cx_P.blind, cx_pre hK hS hR⟩ rfl hln hl.1 hst (lv_room hroom) hd ⟨by show cells + mc' ≤ mc; omega, by show slots + ms' ≤ ms; omega⟩⟩
/-- a call of a method that reads the script -/
def cx_PX (X : SX) (D : va_G) (b0 : Nat) (G : GH) (av : List Value) : Array Value → State → Prop := fun v U => cx_P D b0 G av v U ∧ (va_X X.1 X.2.1 X.2.2 U U.heap ∧ X.1 < U.heap.size ∧ X.1 < b0)
def CTX (X : SX) (M : MD) (d b0 : Nat) (G : GH) (av : List Value) (mc ms : Nat) (Po : Option Value → GH → Prop) : Prop :=
  ∀ (l : Launch) (D : va_G), l.stackTraces = false → vx_Met l M.1 (cx_ws M) (cx_rl d mc ms) (cx_PX X D b0 G av) (cx_Q D b0 Po) (cx_X D b0 (fun _ _ => False)) mc ms (fun q => b0 ≤ q)
theorem cx_PX.blind {D : va_G} {av : List Value} : FrameBlind (cx_PX X D b0 G av) := fun a U g mk h => by
  obtain ⟨h1, h2, h3, h4⟩ := h
  exact ⟨cx_P.blind a U g mk h1, va_X.moved (u := U) (U := U.calling g mk a) (Vm.Alike.refl U.vm) h2, h3, h4⟩
theorem CTX.intro {av : List Value} (hp : plainName M.1.cls = true) (hh : M.2.2.2.2 = []) (hn : (lg_sl av).length ≤ M.2.2.1) (k : WL X M d b0 Po (fun _ _ => False) G bc bs 0 (lv_args 0 av) []) : CTX X M d b0 G av bc bs Po := by
  intro l D hl
  have hw : cx_ws M = Cond.code M.1 M.2.1 M.2.2.1 M.2.2.2.1 :: cx_tb := by unfold cx_ws; rw [if_pos hh]
  refine vx_ofW (cc := M.2.1) (maxL := M.2.2.1) (ret := M.2.2.2.1) hp hw ?_
  intro p e s m args below meth c s₁ B hml ht hv
  obtain ⟨⟨rfl, hK, hR⟩, hx9⟩ := hv
  have hts := atoms_spec (ws := cx_ws M) B.pre
  have hlv := lv_entry av hn
  rw [lg_entry_eq]
  exact k p l e s m _ below meth c s.heap [] 0 0 bc bs D _ ⟨B.exec, B.bytes, hml, B.returns, findClass_of_methodNamed B.named, B.notSynchronized, fun w h => hts w (by rw [hw]; exact List.mem_cons_of_mem _ h), trivial, trivial, hl⟩ hK va_S.rf hR hlv (by omega) (by omega) hx9
theorem q_callSX {idx n : Nat} (As : List Value) (bc' bs' : Nat) {st0 : List Value} (hd : decode M.2.1 pc = .ok (.invokestatic idx, 3)) (hN : cx_M N) (hn : cx_n N n) (hw : Cond.methodLink M.1.cls idx N.1 ∈ cx_tb ∧ Cond.static N.1 ∈ cx_tb)
    (hC0 : CTX X N d b0 G As mc' ms' Po') (hst : st0 = As.reverse ++ st) (hln : As.length = n) (hroom : (st.map fun v => v.category).sum ≤ 8) (hbc : bc' + mc' ≤ bc) (hbs : bs' + ms' ≤ bs) (kk : ∀ (r : Option Value) (G' : GH), Po' r G' → WL X M (d + 1) b0 Po Px G' bc' bs' (pc + 3) lv (r.toList ++ st)) : WL X M (d + 1) b0 Po Px G bc bs pc lv st0 := by
  refine ql_back ?_ hbc hbs kk
  intro p l e s m args below meth c H locs cells slots mc ms D ls hB hK hS hR hl h1 h2 hx9
  have hts := hB.2.2.2.2.2.2.1
  have hpre : ∀ U : State, U.heap = H → s.WarmedH U.vm → cx_PX X D b0 G As As.toArray U := fun U hU hW => ⟨cx_pre hK hS hR U hU hW, by rw [hU]; exact (hx9.1.kept (hS.2.1 X.1 hx9.2.1 (Nat.not_le.mpr hx9.2.2))).moved hW.alike, by rw [hU]; exact Nat.lt_of_lt_of_le hx9.2.1 hS.1, hx9.2.2⟩
  exact ⟨_, vx_runS (As := As) ⟨hB.1, hB.2.1, hB.2.2.1, hB.2.2.2.2.1, hts⟩ (hC0 l D hB.2.2.2.2.2.2.2.2.2) ⟨cx_callBll hts hN hn hw.1, hts _ hw.2⟩ ⟨cx_PX.blind, hpre⟩ rfl hln hl.1 hst (lv_room hroom) hd ⟨by show cells + mc' ≤ mc; omega, by show slots + ms' ≤ ms; omega⟩⟩
end LRU
theorem ql_det {X : SX} {M : MD} {d b0 : Nat} {Po : Option Value → GH → Prop} {Px : String → GH → Prop} {G1 : GH} {bc bs pc : Nat} {lv : List (Nat × Value)} {st st2 : List Value} {v : Option Value} (hst : v.toList ++ st = st2) (k : WL X M d b0 Po Px G1 bc bs pc lv st2) : ∀ (r : Option Value) (G' : GH), (r = v ∧ G' = G1) → WL X M d b0 Po Px G' bc bs pc lv (r.toList ++ st) := by
  intro r G' h
  obtain ⟨rfl, rfl⟩ := h
  rw [hst]
  exact k
theorem ql_val {X : SX} {M : MD} {d b0 : Nat} {Po : Option Value → GH → Prop} {Px : String → GH → Prop} {bc bs pc : Nat} {lv : List (Nat × Value)} {st st2 : List Value} {v : Option Value} {Q : GH → Prop} (hst : v.toList ++ st = st2) (k : ∀ G', Q G' → WL X M d b0 Po Px G' bc bs pc lv st2) : ∀ (r : Option Value) (G' : GH), (r = v ∧ Q G') → WL X M d b0 Po Px G' bc bs pc lv (r.toList ++ st) := by
  intro r G' h
  obtain ⟨rfl, h2⟩ := h
  rw [hst]
  exact k G' h2

section LRN
variable {X : SX} {M : MD} {d b0 : Nat} {Po : Option Value → GH → Prop} {Px : String → GH → Prop} {G : GH} {bc bs pc : Nat} {lv : List (Nat × Value)} {st : List Value}
theorem nq_iadd {a b : Nat}  (hd : decode M.2.1 pc = .ok (.iadd, 1)) (k : WL X M d b0 Po Px G bc bs (pc + 1) lv (.int (nI (a + b)) :: st)) : WL X M d b0 Po Px G bc bs pc lv (.int (nI b) :: .int (nI a) :: st) := by
  refine q_iadd hd ?_
  rw [nI_add]
  exact k
theorem nq_imul {a b : Nat}  (hd : decode M.2.1 pc = .ok (.imul, 1)) (k : WL X M d b0 Po Px G bc bs (pc + 1) lv (.int (nI (a * b)) :: st)) : WL X M d b0 Po Px G bc bs pc lv (.int (nI b) :: .int (nI a) :: st) := by
  refine q_imul hd ?_
  rw [pk_mul]
  exact k
theorem nq_isub {a b : Nat}  (hd : decode M.2.1 pc = .ok (.isub, 1)) (h : b ≤ a) (k : WL X M d b0 Po Px G bc bs (pc + 1) lv (.int (nI (a - b)) :: st)) : WL X M d b0 Po Px G bc bs pc lv (.int (nI b) :: .int (nI a) :: st) := by
  refine q_isub hd ?_
  rw [pk_sub h]
  exact k
theorem nq_idiv {a b : Nat}  (hd : decode M.2.1 pc = .ok (.idiv, 1)) (ha : a < 2 ^ 31) (h0 : 0 < b) (hb : b < 2 ^ 31) (k : WL X M d b0 Po Px G bc bs (pc + 1) lv (.int (nI (a / b)) :: st)) : WL X M d b0 Po Px G bc bs pc lv (.int (nI b) :: .int (nI a) :: st) := by
  refine q_idiv hd (nI_ne0 h0 hb) ?_
  rw [pk_div ha h0 hb]
  exact k
theorem nq_irem {a b : Nat}  (hd : decode M.2.1 pc = .ok (.irem, 1)) (ha : a < 2 ^ 31) (h0 : 0 < b) (hb : b < 2 ^ 31) (k : WL X M d b0 Po Px G bc bs (pc + 1) lv (.int (nI (a % b)) :: st)) : WL X M d b0 Po Px G bc bs pc lv (.int (nI b) :: .int (nI a) :: st) := by
  refine q_irem hd (nI_ne0 h0 hb) ?_
  rw [pk_rem ha h0 hb]
  exact k
theorem nq_iald {B : ST} {q f n k : Nat} (hd : decode M.2.1 pc = .ok (.iaload, 1)) (hG : G q = some (.inl (.int, n, .inl (rg B f 0 n)))) (hk : k < n) (hn : n < 2 ^ 31) (kk : WL X M d b0 Po Px G bc bs (pc + 1) lv (.int (nI (B f k)) :: st)) : WL X M d b0 Po Px G bc bs pc lv (.int (nI k) :: .ref q :: st) := by
  refine q_iald hd hG (vp_in_nI hk hn) ?_
  have e : rg B f 0 n (nI k).toNatClampNeg = nI (B f k) := by
    rw [nI_cl (by omega)]
    dsimp only [rg]
    rw [if_pos hk, Nat.zero_add]
  rw [e]
  exact kk
theorem nq_iast {B : ST} {q f n k v : Nat} (hd : decode M.2.1 pc = .ok (.iastore, 1)) (hG : G q = some (.inl (.int, n, .inl (rg B f 0 n)))) (hk : k < n) (hn : n < 2 ^ 31) (kk : WL X M d b0 Po Px (va_up G q (some (.inl (.int, n, .inl (upd (rg B f 0 n) k (nI v)))))) bc bs (pc + 1) lv st) : WL X M d b0 Po Px G bc bs pc lv (.int (nI v) :: .int (nI k) :: .ref q :: st) := by
  refine q_iast hd hG (vp_in_nI hk hn) ?_
  rw [nI_cl (by omega)]
  exact kk
theorem nq_icmp_eq {a b : Nat} {off : Int} (tgt : Nat) (hd : decode M.2.1 pc = .ok (.if_icmp .eq off, 3)) (ht : (pc : Int) + off = (tgt : Int)) (ha : a < 2 ^ 31) (hb : b < 2 ^ 31) (kt : a = b → WL X M d b0 Po Px G bc bs tgt lv st) (kf : a ≠ b → WL X M d b0 Po Px G bc bs (pc + 3) lv st) : WL X M d b0 Po Px G bc bs pc lv (.int (nI b) :: .int (nI a) :: st) := q_icmp_eq tgt hd ht (fun h => kt (ni_eq ha hb h)) (fun h => kf (ni_ne ha hb h))
theorem nq_if_eq {a : Nat} {off : Int} (tgt : Nat) (hd : decode M.2.1 pc = .ok (.ifCond .eq off, 3)) (ht : (pc : Int) + off = (tgt : Int)) (ha : a < 2 ^ 31) (kt : a = 0 → WL X M d b0 Po Px G bc bs tgt lv st) (kf : a ≠ 0 → WL X M d b0 Po Px G bc bs (pc + 3) lv st) : WL X M d b0 Po Px G bc bs pc lv (.int (nI a) :: st) := q_if_eq tgt hd ht (fun h => kt (ni_eq ha (by decide) (show nI a = nI 0 from h))) (fun h => kf (ni_ne ha (by decide) (show ¬ nI a = nI 0 from h)))
theorem nq_icmp_ne {a b : Nat} {off : Int} (tgt : Nat) (hd : decode M.2.1 pc = .ok (.if_icmp .ne off, 3)) (ht : (pc : Int) + off = (tgt : Int)) (ha : a < 2 ^ 31) (hb : b < 2 ^ 31) (kt : a ≠ b → WL X M d b0 Po Px G bc bs tgt lv st) (kf : a = b → WL X M d b0 Po Px G bc bs (pc + 3) lv st) : WL X M d b0 Po Px G bc bs pc lv (.int (nI b) :: .int (nI a) :: st) := q_icmp_ne tgt hd ht (fun h => kt (ni_ne ha hb h)) (fun h => kf (ni_eq ha hb h))
theorem nq_if_ne {a : Nat} {off : Int} (tgt : Nat) (hd : decode M.2.1 pc = .ok (.ifCond .ne off, 3)) (ht : (pc : Int) + off = (tgt : Int)) (ha : a < 2 ^ 31) (kt : a ≠ 0 → WL X M d b0 Po Px G bc bs tgt lv st) (kf : a = 0 → WL X M d b0 Po Px G bc bs (pc + 3) lv st) : WL X M d b0 Po Px G bc bs pc lv (.int (nI a) :: st) := q_if_ne tgt hd ht (fun h => kt (ni_ne ha (by decide) (show ¬ nI a = nI 0 from h))) (fun h => kf (ni_eq ha (by decide) (show nI a = nI 0 from h)))
theorem nq_icmp_lt {a b : Nat} {off : Int} (tgt : Nat) (hd : decode M.2.1 pc = .ok (.if_icmp .lt off, 3)) (ht : (pc : Int) + off = (tgt : Int)) (ha : a < 2 ^ 31) (hb : b < 2 ^ 31) (kt : a < b → WL X M d b0 Po Px G bc bs tgt lv st) (kf : b ≤ a → WL X M d b0 Po Px G bc bs (pc + 3) lv st) : WL X M d b0 Po Px G bc bs pc lv (.int (nI b) :: .int (nI a) :: st) := q_icmp_lt tgt hd ht (fun h => kt (ni_lt ha hb h)) (fun h => kf (ni_nlt ha hb h))
theorem nq_if_lt {a : Nat} {off : Int} (tgt : Nat) (hd : decode M.2.1 pc = .ok (.ifCond .lt off, 3)) (ht : (pc : Int) + off = (tgt : Int)) (ha : a < 2 ^ 31) (kt : a < 0 → WL X M d b0 Po Px G bc bs tgt lv st) (kf : 0 ≤ a → WL X M d b0 Po Px G bc bs (pc + 3) lv st) : WL X M d b0 Po Px G bc bs pc lv (.int (nI a) :: st) := q_if_lt tgt hd ht (fun h => kt (ni_lt ha (by decide) (show nI a < nI 0 from h))) (fun h => kf (ni_nlt ha (by decide) (show ¬ nI a < nI 0 from h)))
theorem nq_icmp_ge {a b : Nat} {off : Int} (tgt : Nat) (hd : decode M.2.1 pc = .ok (.if_icmp .ge off, 3)) (ht : (pc : Int) + off = (tgt : Int)) (ha : a < 2 ^ 31) (hb : b < 2 ^ 31) (kt : b ≤ a → WL X M d b0 Po Px G bc bs tgt lv st) (kf : a < b → WL X M d b0 Po Px G bc bs (pc + 3) lv st) : WL X M d b0 Po Px G bc bs pc lv (.int (nI b) :: .int (nI a) :: st) := q_icmp_ge tgt hd ht (fun h => kt (ni_le hb ha h)) (fun h => kf (ni_nle hb ha h))
theorem nq_if_ge {a : Nat} {off : Int} (tgt : Nat) (hd : decode M.2.1 pc = .ok (.ifCond .ge off, 3)) (ht : (pc : Int) + off = (tgt : Int)) (ha : a < 2 ^ 31) (kt : 0 ≤ a → WL X M d b0 Po Px G bc bs tgt lv st) (kf : a < 0 → WL X M d b0 Po Px G bc bs (pc + 3) lv st) : WL X M d b0 Po Px G bc bs pc lv (.int (nI a) :: st) := q_if_ge tgt hd ht (fun h => kt (ni_le (by decide) ha (show nI 0 ≤ nI a from h))) (fun h => kf (ni_nle (by decide) ha (show ¬ nI 0 ≤ nI a from h)))
theorem nq_icmp_gt {a b : Nat} {off : Int} (tgt : Nat) (hd : decode M.2.1 pc = .ok (.if_icmp .gt off, 3)) (ht : (pc : Int) + off = (tgt : Int)) (ha : a < 2 ^ 31) (hb : b < 2 ^ 31) (kt : b < a → WL X M d b0 Po Px G bc bs tgt lv st) (kf : a ≤ b → WL X M d b0 Po Px G bc bs (pc + 3) lv st) : WL X M d b0 Po Px G bc bs pc lv (.int (nI b) :: .int (nI a) :: st) := q_icmp_gt tgt hd ht (fun h => kt (ni_lt hb ha h)) (fun h => kf (ni_nlt hb ha h))
theorem nq_if_gt {a : Nat} {off : Int} (tgt : Nat) (hd : decode M.2.1 pc = .ok (.ifCond .gt off, 3)) (ht : (pc : Int) + off = (tgt : Int)) (ha : a < 2 ^ 31) (kt : 0 < a → WL X M d b0 Po Px G bc bs tgt lv st) (kf : a ≤ 0 → WL X M d b0 Po Px G bc bs (pc + 3) lv st) : WL X M d b0 Po Px G bc bs pc lv (.int (nI a) :: st) := q_if_gt tgt hd ht (fun h => kt (ni_lt (by decide) ha (show nI 0 < nI a from h))) (fun h => kf (ni_nlt (by decide) ha (show ¬ nI 0 < nI a from h)))
theorem nq_icmp_le {a b : Nat} {off : Int} (tgt : Nat) (hd : decode M.2.1 pc = .ok (.if_icmp .le off, 3)) (ht : (pc : Int) + off = (tgt : Int)) (ha : a < 2 ^ 31) (hb : b < 2 ^ 31) (kt : a ≤ b → WL X M d b0 Po Px G bc bs tgt lv st) (kf : b < a → WL X M d b0 Po Px G bc bs (pc + 3) lv st) : WL X M d b0 Po Px G bc bs pc lv (.int (nI b) :: .int (nI a) :: st) := q_icmp_le tgt hd ht (fun h => kt (ni_le ha hb h)) (fun h => kf (ni_nle ha hb h))
theorem nq_if_le {a : Nat} {off : Int} (tgt : Nat) (hd : decode M.2.1 pc = .ok (.ifCond .le off, 3)) (ht : (pc : Int) + off = (tgt : Int)) (ha : a < 2 ^ 31) (kt : a ≤ 0 → WL X M d b0 Po Px G bc bs tgt lv st) (kf : 0 < a → WL X M d b0 Po Px G bc bs (pc + 3) lv st) : WL X M d b0 Po Px G bc bs pc lv (.int (nI a) :: st) := q_if_le tgt hd ht (fun h => kt (ni_le ha (by decide) (show nI a ≤ nI 0 from h))) (fun h => kf (ni_nle ha (by decide) (show ¬ nI a ≤ nI 0 from h)))
theorem nq_bif_eq {x : Bool} {off : Int} (tgt : Nat) (hd : decode M.2.1 pc = .ok (.ifCond .eq off, 3)) (ht : (pc : Int) + off = (tgt : Int)) (kt : x = false → WL X M d b0 Po Px G bc bs tgt lv st) (kf : x = true → WL X M d b0 Po Px G bc bs (pc + 3) lv st) : WL X M d b0 Po Px G bc bs pc lv (.int (b2i x) :: st) := q_if_eq tgt hd ht (fun h => kt (b2i_e0 h)) (fun h => kf (b2i_ne0 h))
theorem nq_bif_ne {x : Bool} {off : Int} (tgt : Nat) (hd : decode M.2.1 pc = .ok (.ifCond .ne off, 3)) (ht : (pc : Int) + off = (tgt : Int)) (kt : x = true → WL X M d b0 Po Px G bc bs tgt lv st) (kf : x = false → WL X M d b0 Po Px G bc bs (pc + 3) lv st) : WL X M d b0 Po Px G bc bs pc lv (.int (b2i x) :: st) := q_if_ne tgt hd ht (fun h => kt (b2i_ne0 h)) (fun h => kf (b2i_e0 h))
end LRN
