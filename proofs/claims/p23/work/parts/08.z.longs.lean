section CXL
variable {M : MD} {d b0 : Nat} {Po : Option Value → GH → Prop} {Px : String → GH → Prop} {G : GH} {bc bs pc : Nat} {lv : List (Nat × Value)} {st : List Value}
theorem r_lload_n {i : Nat} {x : Int64} {kk : Fin 4} (hd : decode M.2.1 pc = .ok (.lload_n kk, 1)) (hi : (kk : Nat) = i) (j : Nat) (hj : lv[j]? = some (i, .long x)) (k : WP M d b0 Po Px G bc bs (pc + 1) lv (.long x :: st)) : WP M d b0 Po Px G bc bs pc lv st := WP.pure (fun hx hb hl kk => lv_lload_n hx hb hd hi (lv_at hl j hj) kk) k
theorem r_lload {i : Nat} {x : Int64} (hd : decode M.2.1 pc = .ok (.lload i, 2)) (j : Nat) (hj : lv[j]? = some (i, .long x)) (k : WP M d b0 Po Px G bc bs (pc + 2) lv (.long x :: st)) : WP M d b0 Po Px G bc bs pc lv st := WP.pure (fun hx hb hl kk => lv_lload hx hb hd (lv_at hl j hj) kk) k
theorem r_lstore_n {i : Nat} {x : Int64} {kk : Fin 4} (lv2 : List (Nat × Value)) (hd : decode M.2.1 pc = .ok (.lstore_n kk, 1)) (hi : (kk : Nat) = i) (hn : i + 1 < M.2.2.1) (hl0 : (i, Value.long x) :: lv.filter (fun q => !(q.1 == i) && (!(q.1 == i + 1) && !(q.1 + 1 == i && q.2.category == 2))) = lv2) (k : WP M d b0 Po Px G bc bs (pc + 1) lv2 st) : WP M d b0 Po Px G bc bs pc lv (.long x :: st) := by
  intro p l e s m args below meth c H locs cells slots mc ms D ls hB hK hS hR hl h1 h2
  exact lv_lstore_n hB.1 hB.2.1 hd hi hl hn hl0 (fun ls2 hl2 => k p l e s m args below meth c H locs cells slots mc ms D ls2 hB hK hS hR hl2 h1 h2)
theorem r_lstore {i : Nat} {x : Int64} (lv2 : List (Nat × Value)) (hd : decode M.2.1 pc = .ok (.lstore i, 2)) (hn : i + 1 < M.2.2.1) (hl0 : (i, Value.long x) :: lv.filter (fun q => !(q.1 == i) && (!(q.1 == i + 1) && !(q.1 + 1 == i && q.2.category == 2))) = lv2) (k : WP M d b0 Po Px G bc bs (pc + 2) lv2 st) : WP M d b0 Po Px G bc bs pc lv (.long x :: st) := by
  intro p l e s m args below meth c H locs cells slots mc ms D ls hB hK hS hR hl h1 h2
  exact lv_lstore hB.1 hB.2.1 hd hl hn hl0 (fun ls2 hl2 => k p l e s m args below meth c H locs cells slots mc ms D ls2 hB hK hS hR hl2 h1 h2)
theorem r_ladd {x y : Int64} (hd : decode M.2.1 pc = .ok (.ladd, 1)) (k : WP M d b0 Po Px G bc bs (pc + 1) lv (.long (x + y) :: st)) : WP M d b0 Po Px G bc bs pc lv (.long y :: .long x :: st) := WP.pure (fun hx hb hl kk => lv_ladd hx hb hd kk) k
theorem r_lmul {x y : Int64} (hd : decode M.2.1 pc = .ok (.lmul, 1)) (k : WP M d b0 Po Px G bc bs (pc + 1) lv (.long (x * y) :: st)) : WP M d b0 Po Px G bc bs pc lv (.long y :: .long x :: st) := WP.pure (fun hx hb hl kk => lv_lmul hx hb hd kk) k
theorem r_ldc2 {index : Nat} {v : Int64} (hd : decode M.2.1 pc = .ok (.ldc2_w index, 3)) (hc : Cond.constantLong M.1.cls index v ∈ cx_tb) (k : WP M d b0 Po Px G bc bs (pc + 3) lv (.long v :: st)) : WP M d b0 Po Px G bc bs pc lv st := by
  intro p l e s m args below meth c H locs cells slots mc ms D ls hB hK hS hR hl h1 h2
  exact lv_ldc2 hB.1 hB.2.1 hB.2.2.2.2.1 (hB.2.2.2.2.2.2.1 _ hc) hd (k p l e s m args below meth c H locs cells slots mc ms D ls hB hK hS hR hl h1 h2)
theorem r_lret {v : Int64} (hd : decode M.2.1 pc = .ok (.lreturn, 1)) (hr : M.2.2.2.1 = some .long) (k : Po (some (.long v)) G) : WP M d b0 Po Px G bc bs pc lv [.long v] := by
  intro p l e s m args below meth c H locs cells slots mc ms D ls hB hK hS hR hl h1 h2
  refine vx_ret (W.widen (k := mc) (n := ms) (by omega) (by omega) ?_)
  exact W.lret hB.1 hB.2.1 (hB.2.2.2.1.trans hr) (fun t ht hW => ⟨_, G, rfl, k, by rw [ht]; exact hR.moved hW.alike, hS.F ht⟩) hS.2.2 hd hB.2.2.2.2.2.1
theorem r_topl {x : Int64} (y : Int64) (h : x = y) (k : WP M d b0 Po Px G bc bs pc lv (.long y :: st)) : WP M d b0 Po Px G bc bs pc lv (.long x :: st) := by rw [h]; exact k
end CXL
section CXS
variable {M N : MD} {d b0 : Nat} {Po Po' : Option Value → GH → Prop} {Px Px' : String → GH → Prop} {G : GH} {bc bs pc mc' ms' : Nat} {lv : List (Nat × Value)} {st : List Value} {As : List Value}
/-- a method with many locals -/
def cx_ML (N : MD) : Prop := N.2.2.2.2 = [] ∧ Cond.code N.1 N.2.1 N.2.2.1 N.2.2.2.1 ∈ cx_tb ∧ Cond.initialized N.1.cls ∈ cx_tb ∧ (N.1.cls ≠ "java/lang/invoke/MethodHandle" ∧ N.1.cls ≠ "java/lang/invoke/VarHandle") ∧ N.2.2.1 ≤ 61
theorem cx_GoodInL (hN : cx_ML N) : GoodIn cx_tb (cx_ws N) := by
  intro w hw
  have hw2 : w ∈ Cond.code N.1 N.2.1 N.2.2.1 N.2.2.2.1 :: cx_tb := by
    unfold cx_ws at hw
    rw [if_pos hN.1] at hw
    exact hw
  rcases List.mem_cons.mp hw2 with h | h
  · rw [h]
    exact ⟨hN.2.1, good_of_word (List.mem_filter.mp hN.2.1).2⟩
  · exact ⟨h, good_of_word (List.mem_filter.mp h).2⟩
theorem cx_wscL (hN : cx_ML N) : cx_ws N = Cond.code N.1 N.2.1 N.2.2.1 N.2.2.2.1 :: cx_tb := by unfold cx_ws; rw [if_pos hN.1]
theorem cx_callBL {s : State} {args : Array Value} {own : String} {idx n mc ms : Nat} (ht : ∀ w ∈ cx_tb, w.before args s = true) (hN : cx_ML N) (hn : cx_n N n) (hl : Cond.methodLink own idx N.1 ∈ cx_tb) : CallB (cx_rm (d + 2) mc ms) s args own idx N.1 N.2.1 N.2.2.1 N.2.2.2.1 (cx_ws N) (cx_rm d mc' ms') mc' ms' n := by
  have hlt := hN.2.2.2.2
  exact ⟨rfl, rfl, (by show d + 1 ≤ d + 2; omega), by show 8 + (N.2.2.1 + 11) + 40 * d ≤ 40 * (d + 2); omega, pay_in ht (cx_GoodInL hN), by rw [cx_wscL hN]; exact List.mem_cons_self, ht _ hN.2.1, ht _ hN.2.2.1, hN.2.2.2.1, cx_lenn hn, ht _ hl⟩
theorem r_callSL {idx n : Nat} (As : List Value) (bc' bs' : Nat) {st0 : List Value} (hd : decode M.2.1 pc = .ok (.invokestatic idx, 3)) (hN : cx_ML N) (hn : cx_n N n) (hw : Cond.methodLink M.1.cls idx N.1 ∈ cx_tb ∧ Cond.static N.1 ∈ cx_tb)
    (hC0 : CT N d b0 G As mc' ms' Po' Px') (hst : st0 = As.reverse ++ st) (hln : As.length = n) (hroom : (st.map fun v => v.category).sum ≤ 8) (hbc : bc' + mc' ≤ bc) (hbs : bs' + ms' ≤ bs) (kx : ∀ (E : String) (G' : GH), Px' E G' → WX M (d + 2) b0 Po Px G' bc' bs' pc lv E) (kk : ∀ (r : Option Value) (G' : GH), Po' r G' → WP M (d + 2) b0 Po Px G' bc' bs' (pc + 3) lv (r.toList ++ st)) : WP M (d + 2) b0 Po Px G bc bs pc lv st0 := by
  refine cx_back ?_ hbc hbs kx kk
  intro p l e s m args below meth c H locs cells slots mc ms D ls hB hK hS hR hl h1 h2
  have hts := hB.2.2.2.2.2.2.1
  exact ⟨_, vx_runS (As := As) ⟨hB.1, hB.2.1, hB.2.2.1, hB.2.2.2.2.1, hts⟩ (hC0 l D hB.2.2.2.2.2.2.2.2.2) ⟨cx_callBL hts hN hn hw.1, hts _ hw.2⟩ ⟨cx_P.blind, cx_pre hK hS hR⟩ rfl hln hl.1 hst (lv_room hroom) hd ⟨by show cells + mc' ≤ mc; omega, by show slots + ms' ≤ ms; omega⟩⟩
end CXS
