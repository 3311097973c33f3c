/-! ends, throws, catches and calls of the frame -/
section CXE
variable {M : MD} {d b0 : Nat} {Po : Option Value → GH → Prop} {Px : String → GH → Prop} {G : GH} {bc bs pc : Nat} {lv : List (Nat × Value)} {st : List Value}
theorem r_ireti {v : Int32} (hd : decode M.2.1 pc = .ok (.ireturn, 1)) (hr : M.2.2.2.1 = some .int) (k : Po (some (.int v)) G) : WP M d b0 Po Px G bc bs pc lv [.int v] := by
  intro p l e s m args below meth c H locs cells slots mc ms D ls hB hK hS hR hl h1 h2
  refine vx_ret (W.widen (k := mc) (n := ms) (by omega) (by omega) ?_)
  exact W.iret hB.1 hB.2.1 (hB.2.2.2.1.trans hr) (fun t ht hW => ⟨_, G, rfl, k, by rw [ht]; exact hR.moved hW.alike, hS.F ht⟩) hS.2.2 hd hB.2.2.2.2.2.1
theorem r_ret {v : Int32} (ty : FieldType) (hd : decode M.2.1 pc = .ok (.ireturn, 1)) (hr : M.2.2.2.1 = some ty) (hn : narrow ty (.int v) = .int v) (k : Po (some (.int v)) G) : WP M d b0 Po Px G bc bs pc lv [.int v] := by
  intro p l e s m args below meth c H locs cells slots mc ms D ls hB hK hS hR hl h1 h2
  refine vx_ret (W.widen (k := mc) (n := ms) (by omega) (by omega) ?_)
  exact W.zret hB.1 hB.2.1 (hB.2.2.2.1.trans hr) hn (fun t ht hW => ⟨_, G, rfl, k, by rw [ht]; exact hR.moved hW.alike, hS.F ht⟩) hS.2.2 hd hB.2.2.2.2.2.1
theorem r_vret (hd : decode M.2.1 pc = .ok (.return_, 1)) (hr : M.2.2.2.1 = none) (k : Po none G) : WP M d b0 Po Px G bc bs pc lv [] := by
  intro p l e s m args below meth c H locs cells slots mc ms D ls hB hK hS hR hl h1 h2
  refine vx_ret (W.widen (k := mc) (n := ms) (by omega) (by omega) ?_)
  exact W.vret hB.1 hB.2.1 (hB.2.2.2.1.trans hr) (fun t ht hW => ⟨_, G, rfl, k, by rw [ht]; exact hR.moved hW.alike, hS.F ht⟩) hS.2.2 hd hB.2.2.2.2.2.1
theorem r_aret {v : Value} {rt : FieldType} (hd : decode M.2.1 pc = .ok (.areturn, 1)) (hr : M.2.2.2.1 = some rt) (hrt : (∃ n, rt = .object n) ∨ ∃ t, rt = .array t) (hv : v = .null ∨ ∃ a, v = .ref a) (k : Po (some v) G) : WP M d b0 Po Px G bc bs pc lv [v] := by
  intro p l e s m args below meth c H locs cells slots mc ms D ls hB hK hS hR hl h1 h2
  refine vx_ret (W.widen (k := mc) (n := ms) (by omega) (by omega) ?_)
  exact W.aret hB.1 hB.2.1 (hB.2.2.2.1.trans hr) hrt hv (fun t ht hW => ⟨_, G, rfl, k, by rw [ht]; exact hR.moved hW.alike, hS.F ht⟩) hS.2.2 hd hB.2.2.2.2.2.1
/-- Object's own constructor -/
theorem r_obj {idx a : Nat} (hd : decode M.2.1 pc = .ok (.invokespecial idx, 3)) (hw : Cond.methodLink M.1.cls idx objectInit ∈ cx_tb ∧ Cond.instanceMethod objectInit ∈ cx_tb ∧ Cond.code objectInit ⟨#[0xb1]⟩ 1 none ∈ cx_tb) (hd1 : 1 ≤ d) (hst : (st.map fun v => v.category).sum ≤ 8) (k : WP M d b0 Po Px G bc bs (pc + 3) lv st) : WP M d b0 Po Px G bc bs pc lv (.ref a :: st) := by
  intro p l e s m args below meth c H locs cells slots mc ms D ls hB hK hS hR hl h1 h2
  have hts := hB.2.2.2.2.2.2.1
  refine W.objInit hB.1 hB.2.1 hB.2.2.2.2.1 (hts _ hw.1) (hts _ hw.2.1) (hts _ hw.2.2) rfl (by rw [hB.2.2.1]; exact hl.1) rfl hd (by show 1 ≤ d; exact hd1) ?_ ?_
  · show 2 * (F0 m pc ls (.ref a :: st)).monitorRoom + (st.map fun v => v.category).sum + 12 ≤ 40 * d
    have h0 : 2 * (F0 m pc ls (.ref a :: st)).monitorRoom + (st.map fun v => v.category).sum ≤ 8 := lv_room hst
    omega
  · exact k p l e s m args below meth c H locs cells slots mc ms D ls hB hK hS hR hl h1 h2
/-- 'throw new E("text")', at the road's last five instructions; the method has no table -/
theorem r_throw {ik is ic : Nat} (E tx : String) (d0 : decode M.2.1 pc = .ok (.new ik, 3)) (d3 : decode M.2.1 (pc + 3) = .ok (.dup, 1)) (d4 : decode M.2.1 (pc + 4) = .ok (.ldc is, 2)) (d6 : decode M.2.1 (pc + 6) = .ok (.invokespecial ic, 3)) (d9 : decode M.2.1 (pc + 9) = .ok (.athrow, 1))
    (hh : M.2.2.2.2 = []) (hE : E ∈ cx_exc) (hk : Cond.classLink M.1.cls ik E ∈ cx_tb) (hini : Cond.initialized E ∈ cx_tb) (hs : (M.1.cls, is, tx) ∈ cx_strs)
    (hat : ∀ w ∈ (vx_atS M.1.cls ic E ["java/lang/RuntimeException", "java/lang/Exception"]).filter goodWord, w ∈ cx_tb) (hng : ∀ w ∈ (vx_atS M.1.cls ic E ["java/lang/RuntimeException", "java/lang/Exception"]).filter (fun w => !goodWord w), w = Cond.castable E E ∨ w ∈ cx_dcl.map Cond.declares)
    (hfit : Bundle.fit E = true) (hd6 : 6 ≤ d) (hbc : 1 ≤ bc) (hbs : 6 ≤ bs) (hst : (st.map fun v => v.category).sum ≤ 8) (k : Px E G) : WP M d b0 Po Px G bc bs pc lv st := by
  intro p l e s m args below meth c H locs cells slots mc ms D ls hB hK hS hR hl h1 h2
  have hts := hB.2.2.2.2.2.2.1
  obtain ⟨sa, hsa⟩ := hK.2.2.1.2.2.2.2.2 _ hs
  have hcast := hK.2.2.1.2.2.1 E hE
  have hdc : ∀ w ∈ cx_dcl.map Cond.declares, w.before args s = true := fun w hw => by
    obtain ⟨y, hy, rfl⟩ := List.mem_map.mp hw
    exact (hK.2.2.1.1 y hy).use rfl
  have hat2 : ∀ w ∈ vx_atS M.1.cls ic E ["java/lang/RuntimeException", "java/lang/Exception"], w.before args s = true := vx_hat (B := Cond.castable E E :: cx_dcl.map Cond.declares) (fun w hw => hts w (hat w hw)) (fun w hw => by
    rcases hng w hw with h | h
    · rw [h]; exact List.mem_cons_self
    · exact List.mem_cons_of_mem _ h) (fun w hw => by
    rcases List.mem_cons.mp hw with h | h
    · rw [h]; exact hcast.use rfl
    · exact hdc w h)
  refine vx_throwS (ik := ik) (is := is) (ic := ic) (sa := sa) (cls := E) (text := tx) (names := ["java/lang/RuntimeException", "java/lang/Exception"]) (A := fun q => b0 ≤ q) (own := M.1.cls) hB.1 hB.2.1 hB.2.2.2.2.2.2.2.2.2 hB.2.2.2.2.1 hfit (by decide +kernel) (hts _ hk) (hts _ hini) hsa hat2 ?_ hK.2.2.2.1 hK.2.2.2.2 hS (by rw [hB.2.2.1]; exact hl.1) d0 d3 d4 d6 d9 ?_ (by show 2 + 3 < d; omega) (by show _ + (13 * (2 + 1) + 43) ≤ 40 * d; omega) (by show cells + 1 ≤ mc; omega) (by show slots + 6 ≤ ms; omega) hB.2.2.2.2.2.1 ?_ hS.2.2 (by omega) (by omega)
  · intro w hw
    rcases List.mem_cons.mp hw with h | hw
    · rw [h]; rfl
    rcases List.mem_cons.mp hw with h | hw
    · rw [h]; rfl
    by_cases g : goodWord w = true
    · unfold vx_ot; rw [g]; simp
    · rcases hng w (List.mem_filter.mpr ⟨hw, by cases hg : goodWord w; rfl; exact absurd hg g⟩) with h9 | h9
      · rw [h9]; rfl
      · obtain ⟨y, hy, rfl⟩ := List.mem_map.mp h9
        rfl
  · rw [hB.2.2.2.2.2.2.2.1, hh]
    intro x hx; cases hx
  · intro t hal hz ho
    refine ⟨G, k, fun q x hq => ?_, Nat.le_trans hS.1 hz, fun q h3 h4 => ?_⟩
    · obtain ⟨g1, g2⟩ := hR q x hq
      exact ⟨g1, (g2.kept (ho q g2.lt)).moved hal⟩
    · rw [ho q (Nat.lt_of_lt_of_le h3 hS.1)]
      exact hS.2.1 q h3 h4
/-- caught by a row of this method's table -/
theorem r_catch {E : String} (pre : List ExceptionTableEntry) (x : ExceptionTableEntry) (suf : List ExceptionTableEntry) (hsplit : tableOf M.2.2.2.2 = pre ++ x :: suf) (hpass : ∀ z ∈ pre, z.catchType ≠ 0 ∧ ∃ nm : String, Cond.classLink M.1.cls z.catchType nm ∈ cx_tb ∧ (E, nm) ∈ cx_nc) (hx : covers x pc = true) (h0 : x.catchType ≠ 0) (hlink : Cond.classLink M.1.cls x.catchType E ∈ cx_tb) (hE : E ∈ cx_exc) (kk : ∀ q : Nat, WP M d b0 Po Px G bc bs x.handlerPc lv [.ref q]) : WX M d b0 Po Px G bc bs pc lv E := by
  intro p l e s m args below meth c H locs cells slots mc ms D ls rest q ce hB hK hS hR hl h1 h2 h3 h4 h5
  have hts := hB.2.2.2.2.2.2.1
  exact vx_catch (name := E) hB.2.2.2.2.1 pre x suf (by rw [hB.2.2.2.2.2.2.2.1]; exact hsplit) (fun z hz => Or.inr (by
    obtain ⟨g1, nm, g2, g3⟩ := hpass z hz
    exact ⟨g1, nm, hts _ g2, hK.2.2.1.2.2.2.1 _ g3⟩)) hx h0 (hts _ hlink) ((hK.2.2.1.2.2.1 E hE).use rfl) h3 h4 h5 (kk q p l e s m args below meth c H locs cells slots mc ms D ls hB hK hS hR hl h1 h2)
/-- no throw is told -/
theorem WX.no {E : String} (h : False) : WX M d b0 Po Px G bc bs pc lv E := h.elim
/-- what comes back from a call -/
theorem cx_back {Po' : Option Value → GH → Prop} {Px' : String → GH → Prop} {mc' ms' bc' bs' : Nat} {st0 : List Value}
    (h : ∀ (p : Program) (l : Launch) (e : Env) (s : State) (m : MethodId) (args : Array Value) (below : List Frame) (meth : Method) (c : Code) (H : Heap) (locs : List Loc) (cells slots mc ms : Nat) (D : va_G) (ls : Array Slot), cx_B M p l s m args meth c → cx_K D b0 s → va_S (fun q => b0 ≤ q) s.heap H locs → cx_R D b0 s G H → lv_has ls M.2.2.1 lv → cells + mc' ≤ mc → slots + ms' ≤ ms →
      ∃ a : Array Value, vx_Run p l e (cx_rm d mc ms) s m args below meth c H locs cells slots mc' ms' (F0 m pc ls st0) st (cx_Q D b0 Po' a) (cx_X D b0 Px') (fun q => b0 ≤ q))
    (hbc : bc' + mc' ≤ bc) (hbs : bs' + ms' ≤ bs) (kx : ∀ (E : String) (G' : GH), Px' E G' → WX M d b0 Po Px G' bc' bs' pc lv E) (kk : ∀ (r : Option Value) (G' : GH), Po' r G' → WP M d b0 Po Px G' bc' bs' (pc + 3) lv (r.toList ++ st)) : WP M d b0 Po Px G bc bs pc lv st0 := by
  intro p l e s m args below meth c H locs cells slots mc ms D ls hB hK hS hR hl h1 h2
  obtain ⟨a, hr⟩ := h p l e s m args below meth c H locs cells slots mc ms D ls hB hK hS hR hl (by omega) (by omega)
  intro T hT X
  rcases hr T hT X with ⟨v, st₀, t, T', L, h0, X', hL, e1, e2, ⟨r, G', hv, hp, hb, hF⟩, stp⟩ | ⟨q, st₀, t, T', L, E, ce, h0, X', hL, e1, e2, ⟨G', hp, hb, hF⟩, hce, hcv, hcl, stp⟩
  · cases hv
    obtain ⟨k1, k2, k3⟩ := vx_keep (A1 := fun q => b0 ≤ q) h0 e1 hS (fun _ _ h => h) (fun _ h => h) hL hF
    have hal : s.vm.Alike t.vm := by rw [← e2]; exact X'.warmed.alike
    obtain ⟨t2, a1, b1⟩ := kk v G' hp p l e s m args below meth c T'.heap (locs ++ L) (cells + mc') (slots + ms') mc ms D ls hB hK k3 (by rw [e1]; exact hb.moved hal.symm) hl (by omega) (by omega) T' rfl X'
    exact ⟨t2, stp t2 a1, b1⟩
  · obtain ⟨k1, k2, k3⟩ := vx_keep (A1 := fun q => b0 ≤ q) h0 e1 hS (fun _ _ h => h) (fun _ h => h) hL hF
    have hal : s.vm.Alike t.vm := by rw [← e2]; exact X'.warmed.alike
    obtain ⟨t2, a1, b1⟩ := kx E G' hp p l e s m args below meth c T'.heap (locs ++ L) (cells + mc') (slots + ms') mc ms D ls st q ce hB hK k3 (by rw [e1]; exact hb.moved hal.symm) hl (by omega) (by omega) (by rw [e1]; exact hce) hcv hcl T' rfl X'
    exact ⟨t2, stp.trans a1, b1⟩
end CXE
section CXC
variable {M N : MD} {d b0 : Nat} {Po Po' : Option Value → GH → Prop} {Px Px' : String → GH → Prop} {G : GH} {bc bs pc mc' ms' : Nat} {lv : List (Nat × Value)} {st : List Value} {As : List Value}
/-- a method that may be called: its words stand in the tables -/
def cx_M (N : MD) : Prop := N.2.2.2.2 = [] ∧ Cond.code N.1 N.2.1 N.2.2.1 N.2.2.2.1 ∈ cx_tb ∧ Cond.initialized N.1.cls ∈ cx_tb ∧ (N.1.cls ≠ "java/lang/invoke/MethodHandle" ∧ N.1.cls ≠ "java/lang/invoke/VarHandle") ∧ N.2.2.1 ≤ 21
def cx_n (N : MD) (n : Nat) : Prop := (parseMethodDescriptor N.1.desc).map (fun d => d.parameters.length) = some n
theorem cx_GoodIn (hN : cx_M N) : GoodIn cx_tb (cx_ws N) := by
  intro w hw
  have hw2 : w ∈ Cond.code N.1 N.2.1 N.2.2.1 N.2.2.2.1 :: cx_tb := by
    unfold cx_ws at hw
    rw [if_pos hN.1] at hw
    exact hw
  rcases List.mem_cons.mp hw2 with h | h
  · rw [h]
    exact ⟨hN.2.1, good_of_word (List.mem_filter.mp hN.2.1).2⟩
  · exact ⟨h, good_of_word (List.mem_filter.mp h).2⟩
theorem cx_wsc (hN : cx_M N) : cx_ws N = Cond.code N.1 N.2.1 N.2.2.1 N.2.2.2.1 :: cx_tb := by unfold cx_ws; rw [if_pos hN.1]
theorem cx_lenn {n : Nat} (h : cx_n N n) : ∀ sig, parseMethodDescriptor N.1.desc = some sig → n = sig.parameters.length := fun sig hs => by
  unfold cx_n at h
  rw [hs] at h
  exact (Option.some.inj h).symm
theorem cx_callB {s : State} {args : Array Value} {own : String} {idx n mc ms : Nat} (ht : ∀ w ∈ cx_tb, w.before args s = true) (hN : cx_M N) (hn : cx_n N n) (hl : Cond.methodLink own idx N.1 ∈ cx_tb) : CallB (cx_rm (d + 1) mc ms) s args own idx N.1 N.2.1 N.2.2.1 N.2.2.2.1 (cx_ws N) (cx_rm d mc' ms') mc' ms' n := by
  have hlt := hN.2.2.2.2
  exact ⟨rfl, rfl, Nat.le_refl _, by show 8 + (N.2.2.1 + 11) + 40 * d ≤ 40 * (d + 1); omega, pay_in ht (cx_GoodIn hN), by rw [cx_wsc hN]; exact List.mem_cons_self, ht _ hN.2.1, ht _ hN.2.2.1, hN.2.2.2.1, cx_lenn hn, ht _ hl⟩
theorem cx_callN {s : State} {args : Array Value} {own host : String} {idx n mc ms : Nat} (ht : ∀ w ∈ cx_tb, w.before args s = true) (hN : cx_M N) (hn : cx_n N n) (hl : va_Nw (.methodLinkNest own idx N.1 host) s) : va_CN (cx_rm (d + 1) mc ms) s args own idx N.1 host N.2.1 N.2.2.1 N.2.2.2.1 (cx_ws N) (cx_rm d mc' ms') mc' ms' n := by
  have hlt := hN.2.2.2.2
  exact ⟨⟨rfl, rfl, Nat.le_refl _, by show 8 + (N.2.2.1 + 11) + 40 * d ≤ 40 * (d + 1); omega, pay_in ht (cx_GoodIn hN), by rw [cx_wsc hN]; exact List.mem_cons_self⟩, ht _ hN.2.1, ht _ hN.2.2.1, hN.2.2.2.1, cx_lenn hn, hl.use rfl⟩
theorem cx_pre {D : va_G} {s : State} {H : Heap} {locs : List Loc} {av : List Value} (hK : cx_K D b0 s) (hS : va_S (fun q => b0 ≤ q) s.heap H locs) (hR : cx_R D b0 s G H) : ∀ U : State, U.heap = H → s.WarmedH U.vm → cx_P D b0 G av av.toArray U := fun U hU hW => ⟨rfl, hK.next hS hU hW, by rw [hU]; exact hR.moved hW.alike⟩
theorem cx_recv {D : va_G} {s : State} {H : Heap} {b ci : Nat} {fs : List Value} {C : String} (hK : cx_K D b0 s) (hR : cx_R D b0 s G H) (hG : G b = some (.inr (ci, fs))) (hC : (vwCl[ci]?).map (fun r => r.1) = some C) : ∃ cellB : Cell, H[b]? = some cellB ∧ cellB.vm.isStatics = false ∧ s.vm.findClass C = some cellB.cls := by
  obtain ⟨-, r, hr, cell, g1, g2, g3, -⟩ := hR b _ hG
  rw [hr] at hC
  have hrC : r.1 = C := Option.some.inj hC
  exact ⟨cell, g1, by rw [g3]; rfl, by rw [g2, ← hrC]; exact (hK.1.1 _ r hr).2.1⟩
theorem r_callV {idx b ci n : Nat} {fs : List Value} (As : List Value) (bc' bs' : Nat) {st0 : List Value} (hd : decode M.2.1 pc = .ok (.invokevirtual idx, 3)) (hN : cx_M N) (hn : cx_n N n) (hw : Cond.methodLink M.1.cls idx N.1 ∈ cx_tb ∧ Cond.instanceMethod N.1 ∈ cx_tb ∧ Cond.selects N.1.cls N.1 N.1 ∈ cx_tb) (hG : G b = some (.inr (ci, fs))) (hC : (vwCl[ci]?).map (fun r => r.1) = some N.1.cls)
    (hC0 : CT N d b0 G (.ref b :: As) mc' ms' Po' Px') (hst : st0 = As.reverse ++ .ref b :: st) (hln : As.length = n) (hroom : (st.map fun v => v.category).sum ≤ 8) (hbc : bc' + mc' ≤ bc) (hbs : bs' + ms' ≤ bs) (kx : ∀ (E : String) (G' : GH), Px' E G' → WX M (d + 1) b0 Po Px G' bc' bs' pc lv E) (kk : ∀ (r : Option Value) (G' : GH), Po' r G' → WP M (d + 1) b0 Po Px G' bc' bs' (pc + 3) lv (r.toList ++ st)) : WP M (d + 1) b0 Po Px G bc bs pc lv st0 := by
  refine cx_back ?_ hbc hbs kx kk
  intro p l e s m args below meth c H locs cells slots mc ms D ls hB hK hS hR hl h1 h2
  have hts := hB.2.2.2.2.2.2.1
  exact ⟨_, vx_runV (As := As) (C := N.1.cls) ⟨hB.1, hB.2.1, hB.2.2.1, hB.2.2.2.2.1, hts⟩ (hC0 l D hB.2.2.2.2.2.2.2.2.2) ⟨cx_callB hts hN hn hw.1, hts _ hw.2.1, hts _ hw.2.2⟩ ⟨cx_P.blind, cx_recv hK hR hG hC, cx_pre hK hS hR⟩ rfl hln hl.1 hst (lv_room hroom) hd ⟨by show cells + mc' ≤ mc; omega, by show slots + ms' ≤ ms; omega⟩⟩
theorem r_callVN {idx b ci n : Nat} {fs : List Value} {host : String} (As : List Value) (bc' bs' : Nat) {st0 : List Value} (hd : decode M.2.1 pc = .ok (.invokevirtual idx, 3)) (hN : cx_M N) (hn : cx_n N n) (hw : (M.1.cls, idx, N.1, host) ∈ cx_nest ∧ Cond.instanceMethod N.1 ∈ cx_tb ∧ Cond.selects N.1.cls N.1 N.1 ∈ cx_tb) (hG : G b = some (.inr (ci, fs))) (hC : (vwCl[ci]?).map (fun r => r.1) = some N.1.cls)
    (hC0 : CT N d b0 G (.ref b :: As) mc' ms' Po' Px') (hst : st0 = As.reverse ++ .ref b :: st) (hln : As.length = n) (hroom : (st.map fun v => v.category).sum ≤ 8) (hbc : bc' + mc' ≤ bc) (hbs : bs' + ms' ≤ bs) (kx : ∀ (E : String) (G' : GH), Px' E G' → WX M (d + 1) b0 Po Px G' bc' bs' pc lv E) (kk : ∀ (r : Option Value) (G' : GH), Po' r G' → WP M (d + 1) b0 Po Px G' bc' bs' (pc + 3) lv (r.toList ++ st)) : WP M (d + 1) b0 Po Px G bc bs pc lv st0 := by
  refine cx_back ?_ hbc hbs kx kk
  intro p l e s m args below meth c H locs cells slots mc ms D ls hB hK hS hR hl h1 h2
  have hts := hB.2.2.2.2.2.2.1
  exact ⟨_, vx_runVN (As := As) (C := N.1.cls) (host := host) ⟨hB.1, hB.2.1, hB.2.2.1, hB.2.2.2.2.1, hts⟩ (hC0 l D hB.2.2.2.2.2.2.2.2.2) ⟨cx_callN hts hN hn (hK.2.2.1.2.1 _ hw.1), hts _ hw.2.1, hts _ hw.2.2⟩ ⟨cx_P.blind, cx_recv hK hR hG hC, cx_pre hK hS hR⟩ rfl hln hl.1 hst (lv_room hroom) hd ⟨by show cells + mc' ≤ mc; omega, by show slots + ms' ≤ ms; omega⟩⟩
theorem r_callS {idx n : Nat} (As : List Value) (bc' bs' : Nat) {st0 : List Value} (hd : decode M.2.1 pc = .ok (.invokestatic idx, 3)) (hN : cx_M N) (hn : cx_n N n) (hw : Cond.methodLink M.1.cls idx N.1 ∈ cx_tb ∧ Cond.static N.1 ∈ cx_tb)
    (hC0 : CT N d b0 G As mc' ms' Po' Px') (hst : st0 = As.reverse ++ st) (hln : As.length = n) (hroom : (st.map fun v => v.category).sum ≤ 8) (hbc : bc' + mc' ≤ bc) (hbs : bs' + ms' ≤ bs) (kx : ∀ (E : String) (G' : GH), Px' E G' → WX M (d + 1) b0 Po Px G' bc' bs' pc lv E) (kk : ∀ (r : Option Value) (G' : GH), Po' r G' → WP M (d + 1) b0 Po Px G' bc' bs' (pc + 3) lv (r.toList ++ st)) : WP M (d + 1) b0 Po Px G bc bs pc lv st0 := by
  refine cx_back ?_ hbc hbs kx kk
  intro p l e s m args below meth c H locs cells slots mc ms D ls hB hK hS hR hl h1 h2
  have hts := hB.2.2.2.2.2.2.1
  exact ⟨_, vx_runS (As := As) ⟨hB.1, hB.2.1, hB.2.2.1, hB.2.2.2.2.1, hts⟩ (hC0 l D hB.2.2.2.2.2.2.2.2.2) ⟨cx_callB hts hN hn hw.1, hts _ hw.2⟩ ⟨cx_P.blind, cx_pre hK hS hR⟩ rfl hln hl.1 hst (lv_room hroom) hd ⟨by show cells + mc' ≤ mc; omega, by show slots + ms' ≤ ms; omega⟩⟩
theorem r_callSN {idx n : Nat} {host : String} (As : List Value) (bc' bs' : Nat) {st0 : List Value} (hd : decode M.2.1 pc = .ok (.invokestatic idx, 3)) (hN : cx_M N) (hn : cx_n N n) (hw : (M.1.cls, idx, N.1, host) ∈ cx_nest ∧ Cond.static N.1 ∈ cx_tb)
    (hC0 : CT N d b0 G As mc' ms' Po' Px') (hst : st0 = As.reverse ++ st) (hln : As.length = n) (hroom : (st.map fun v => v.category).sum ≤ 8) (hbc : bc' + mc' ≤ bc) (hbs : bs' + ms' ≤ bs) (kx : ∀ (E : String) (G' : GH), Px' E G' → WX M (d + 1) b0 Po Px G' bc' bs' pc lv E) (kk : ∀ (r : Option Value) (G' : GH), Po' r G' → WP M (d + 1) b0 Po Px G' bc' bs' (pc + 3) lv (r.toList ++ st)) : WP M (d + 1) b0 Po Px G bc bs pc lv st0 := by
  refine cx_back ?_ hbc hbs kx kk
  intro p l e s m args below meth c H locs cells slots mc ms D ls hB hK hS hR hl h1 h2
  have hts := hB.2.2.2.2.2.2.1
  exact ⟨_, vx_runSN (As := As) (host := host) ⟨hB.1, hB.2.1, hB.2.2.1, hB.2.2.2.2.1, hts⟩ (hC0 l D hB.2.2.2.2.2.2.2.2.2) ⟨cx_callN hts hN hn (hK.2.2.1.2.1 _ hw.1), hts _ hw.2, trivial⟩ ⟨cx_P.blind, cx_pre hK hS hR⟩ rfl hln hl.1 hst (lv_room hroom) hd ⟨by show cells + mc' ≤ mc; omega, by show slots + ms' ≤ ms; omega⟩⟩
theorem r_callI {idx b n : Nat} (As : List Value) (bc' bs' : Nat) {st0 : List Value} (hd : decode M.2.1 pc = .ok (.invokespecial idx, 3)) (hN : cx_M N) (hn : cx_n N n) (hrt : N.2.2.2.1 = none) (hin : N.1.name = "<init>") (hw : Cond.methodLink M.1.cls idx N.1 ∈ cx_tb ∧ Cond.instanceMethod N.1 ∈ cx_tb)
    (hC0 : CT N d b0 G (.ref b :: As) mc' ms' Po' Px') (hst : st0 = As.reverse ++ .ref b :: st) (hln : As.length = n) (hroom : (st.map fun v => v.category).sum ≤ 8) (hbc : bc' + mc' ≤ bc) (hbs : bs' + ms' ≤ bs) (kx : ∀ (E : String) (G' : GH), Px' E G' → WX M (d + 1) b0 Po Px G' bc' bs' pc lv E) (kk : ∀ (r : Option Value) (G' : GH), Po' r G' → WP M (d + 1) b0 Po Px G' bc' bs' (pc + 3) lv (r.toList ++ st)) : WP M (d + 1) b0 Po Px G bc bs pc lv st0 := by
  refine cx_back ?_ hbc hbs kx kk
  intro p l e s m args below meth c H locs cells slots mc ms D ls hB hK hS hR hl h1 h2
  have hts := hB.2.2.2.2.2.2.1
  have cb := cx_callB (d := d) (mc' := mc') (ms' := ms') (mc := mc) (ms := ms) hts hN hn hw.1
  rw [hrt] at cb
  exact ⟨_, vx_runI (As := As) ⟨hB.1, hB.2.1, hB.2.2.1, hB.2.2.2.2.1, hts⟩ (hC0 l D hB.2.2.2.2.2.2.2.2.2) ⟨cb, hin, hts _ hw.2⟩ ⟨cx_P.blind, cx_pre hK hS hR⟩ rfl hln hl.1 hst (lv_room hroom) hd ⟨by show cells + mc' ≤ mc; omega, by show slots + ms' ≤ ms; omega⟩⟩
theorem r_callIN {idx b n : Nat} {host : String} (As : List Value) (bc' bs' : Nat) {st0 : List Value} (hd : decode M.2.1 pc = .ok (.invokespecial idx, 3)) (hN : cx_M N) (hn : cx_n N n) (hrt : N.2.2.2.1 = none) (hin : N.1.name = "<init>") (hw : (M.1.cls, idx, N.1, host) ∈ cx_nest ∧ Cond.instanceMethod N.1 ∈ cx_tb)
    (hC0 : CT N d b0 G (.ref b :: As) mc' ms' Po' Px') (hst : st0 = As.reverse ++ .ref b :: st) (hln : As.length = n) (hroom : (st.map fun v => v.category).sum ≤ 8) (hbc : bc' + mc' ≤ bc) (hbs : bs' + ms' ≤ bs) (kx : ∀ (E : String) (G' : GH), Px' E G' → WX M (d + 1) b0 Po Px G' bc' bs' pc lv E) (kk : ∀ (r : Option Value) (G' : GH), Po' r G' → WP M (d + 1) b0 Po Px G' bc' bs' (pc + 3) lv (r.toList ++ st)) : WP M (d + 1) b0 Po Px G bc bs pc lv st0 := by
  refine cx_back ?_ hbc hbs kx kk
  intro p l e s m args below meth c H locs cells slots mc ms D ls hB hK hS hR hl h1 h2
  have hts := hB.2.2.2.2.2.2.1
  have cb := cx_callN (d := d) (mc' := mc') (ms' := ms') (mc := mc) (ms := ms) hts hN hn (hK.2.2.1.2.1 _ hw.1)
  rw [hrt] at cb
  exact ⟨_, vx_runIN (As := As) (host := host) ⟨hB.1, hB.2.1, hB.2.2.1, hB.2.2.2.2.1, hts⟩ (hC0 l D hB.2.2.2.2.2.2.2.2.2) ⟨cb, hin, hts _ hw.2⟩ ⟨cx_P.blind, cx_pre hK hS hR⟩ rfl hln hl.1 hst (lv_room hroom) hd ⟨by show cells + mc' ≤ mc; omega, by show slots + ms' ≤ ms; omega⟩⟩
/-- a static method with a table of handlers -/
def cx_MW (N : MD) : Prop := N.2.2.2.2 ≠ [] ∧ Cond.codeWith N.1 N.2.1 N.2.2.1 N.2.2.2.1 N.2.2.2.2 ∈ cx_tb ∧ Cond.initialized N.1.cls ∈ cx_tb ∧ (N.1.cls ≠ "java/lang/invoke/MethodHandle" ∧ N.1.cls ≠ "java/lang/invoke/VarHandle") ∧ N.2.2.1 ≤ 21
theorem r_callSW {idx n : Nat} (As : List Value) (bc' bs' : Nat) {st0 : List Value} (hd : decode M.2.1 pc = .ok (.invokestatic idx, 3)) (hN : cx_MW N) (hn : cx_n N n) (hw : Cond.methodLink M.1.cls idx N.1 ∈ cx_tb ∧ Cond.static N.1 ∈ cx_tb)
    (hC0 : CT N d b0 G As mc' ms' Po' Px') (hst : st0 = As.reverse ++ st) (hln : As.length = n) (hroom : (st.map fun v => v.category).sum ≤ 8) (hbc : bc' + mc' ≤ bc) (hbs : bs' + ms' ≤ bs) (kx : ∀ (E : String) (G' : GH), Px' E G' → WX M (d + 1) b0 Po Px G' bc' bs' pc lv E) (kk : ∀ (r : Option Value) (G' : GH), Po' r G' → WP M (d + 1) b0 Po Px G' bc' bs' (pc + 3) lv (r.toList ++ st)) : WP M (d + 1) b0 Po Px G bc bs pc lv st0 := by
  refine cx_back ?_ hbc hbs kx kk
  intro p l e s m args below meth c H locs cells slots mc ms D ls hB hK hS hR hl h1 h2
  have hts := hB.2.2.2.2.2.2.1
  have hlt := hN.2.2.2.2
  have hwc : cx_ws N = Cond.codeWith N.1 N.2.1 N.2.2.1 N.2.2.2.1 N.2.2.2.2 :: cx_tb := by unfold cx_ws; rw [if_neg hN.1]
  have hGd : GoodIn cx_tb (cx_ws N) := by
    intro w hw
    rw [hwc] at hw
    rcases List.mem_cons.mp hw with h | h
    · rw [h]
      exact ⟨hN.2.1, good_of_word (List.mem_filter.mp hN.2.1).2⟩
    · exact ⟨h, good_of_word (List.mem_filter.mp h).2⟩
  exact ⟨_, vx_runSX (As := As) (hh := N.2.2.2.2) ⟨hB.1, hB.2.1, hB.2.2.1, hB.2.2.2.2.1, hts⟩ (hC0 l D hB.2.2.2.2.2.2.2.2.2) ⟨⟨rfl, rfl, Nat.le_refl _, by show 8 + (N.2.2.1 + 11) + 40 * d ≤ 40 * (d + 1); omega, pay_in hts hGd, by rw [hwc]; exact List.mem_cons_self⟩, hts _ hN.2.1, hts _ hN.2.2.1, hN.2.2.2.1, cx_lenn hn, hts _ hw.1, hts _ hw.2⟩ ⟨cx_P.blind, cx_pre hK hS hR⟩ rfl hln hl.1 hst (lv_room hroom) hd ⟨by show cells + mc' ≤ mc; omega, by show slots + ms' ≤ ms; omega⟩⟩
end CXC
