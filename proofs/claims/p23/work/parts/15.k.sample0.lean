/-! the same throw by ldc_w -/
section CXT
variable {M : MD} {d b0 : Nat} {Po : Option Value → GH → Prop} {Px : String → GH → Prop} {G : GH} {bc bs pc : Nat} {lv : List (Nat × Value)} {st : List Value}
/-- 'throw new E("text")', at the road's last five instructions; the method has no table -/
theorem r_throwW {ik is ic : Nat} (E tx : String) (d0 : decode M.2.1 pc = .ok (.new ik, 3)) (d3 : decode M.2.1 (pc + 3) = .ok (.dup, 1)) (d4 : decode M.2.1 (pc + 4) = .ok (.ldc_w is, 3)) (d6 : decode M.2.1 (pc + 7) = .ok (.invokespecial ic, 3)) (d9 : decode M.2.1 (pc + 10) = .ok (.athrow, 1))
    (hh : M.2.2.2.2 = []) (hE : E ∈ cx_exc) (hk : Cond.classLink M.1.cls ik E ∈ cx_tb) (hini : Cond.initialized E ∈ cx_tb) (hs : (M.1.cls, is, tx) ∈ cx_strs)
    (hat : ∀ w ∈ (vx_atS M.1.cls ic E ["java/lang/RuntimeException", "java/lang/Exception"]).filter goodWord, w ∈ cx_tb) (hng : ∀ w ∈ (vx_atS M.1.cls ic E ["java/lang/RuntimeException", "java/lang/Exception"]).filter (fun w => !goodWord w), w = Cond.castable E E ∨ w ∈ cx_dcl.map Cond.declares)
    (hfit : Bundle.fit E = true) (hd6 : 6 ≤ d) (hbc : 1 ≤ bc) (hbs : 6 ≤ bs) (hst : (st.map fun v => v.category).sum ≤ 8) (k : Px E G) : WP M d b0 Po Px G bc bs pc lv st := by
  intro p l e s m args below meth c H locs cells slots mc ms D ls hB hK hS hR hl h1 h2
  have hts := hB.2.2.2.2.2.2.1
  obtain ⟨sa, hsa⟩ := hK.2.2.1.2.2.2.2.2 _ hs
  have hcast := hK.2.2.1.2.2.1 E hE
  have hdc : ∀ w ∈ cx_dcl.map Cond.declares, w.before args s = true := fun w hw => by
    obtain ⟨y, hy, rfl⟩ := List.mem_map.mp hw
    exact (hK.2.2.1.1 y hy).use rfl
  have hat2 : ∀ w ∈ vx_atS M.1.cls ic E ["java/lang/RuntimeException", "java/lang/Exception"], w.before args s = true := vx_hat (B := Cond.castable E E :: cx_dcl.map Cond.declares) (fun w hw => hts w (hat w hw)) (fun w hw => by
    rcases hng w hw with h | h
    · rw [h]; exact List.mem_cons_self
    · exact List.mem_cons_of_mem _ h) (fun w hw => by
    rcases List.mem_cons.mp hw with h | h
    · rw [h]; exact hcast.use rfl
    · exact hdc w h)
  refine vx_throwSW (ik := ik) (is := is) (ic := ic) (sa := sa) (cls := E) (text := tx) (names := ["java/lang/RuntimeException", "java/lang/Exception"]) (A := fun q => b0 ≤ q) (own := M.1.cls) hB.1 hB.2.1 hB.2.2.2.2.2.2.2.2.2 hB.2.2.2.2.1 hfit (by decide +kernel) (hts _ hk) (hts _ hini) hsa hat2 ?_ hK.2.2.2.1 hK.2.2.2.2 hS (by rw [hB.2.2.1]; exact hl.1) d0 d3 d4 d6 d9 ?_ (by show 2 + 3 < d; omega) (by show _ + (13 * (2 + 1) + 43) ≤ 40 * d; omega) (by show cells + 1 ≤ mc; omega) (by show slots + 6 ≤ ms; omega) hB.2.2.2.2.2.1 ?_ hS.2.2 (by omega) (by omega)
  · intro w hw
    rcases List.mem_cons.mp hw with h | hw
    · rw [h]; rfl
    rcases List.mem_cons.mp hw with h | hw
    · rw [h]; rfl
    by_cases g : goodWord w = true
    · unfold vx_ot; rw [g]; simp
    · rcases hng w (List.mem_filter.mpr ⟨hw, by cases hg : goodWord w; rfl; exact absurd hg g⟩) with h9 | h9
      · rw [h9]; rfl
      · obtain ⟨y, hy, rfl⟩ := List.mem_map.mp h9
        rfl
  · rw [hB.2.2.2.2.2.2.2.1, hh]
    intro x hx; cases hx
  · intro t hal hz ho
    refine ⟨G, k, fun q x hq => ?_, Nat.le_trans hS.1 hz, fun q h3 h4 => ?_⟩
    · obtain ⟨g1, g2⟩ := hR q x hq
      exact ⟨g1, (g2.kept (ho q g2.lt)).moved hal⟩
    · rw [ho q (Nat.lt_of_lt_of_le h3 hS.1)]
      exact hS.2.1 q h3 h4
end CXT

set_option maxRecDepth 100000 in
set_option maxHeartbeats 4000000 in
theorem c_sample_1a {d b0 : Nat} {G : GH} {A B : ST} {ad : AD} (hW : World A B ad G) (hI : Inv A) {x y : Int32} (hx : inB x (A 15 0) = false) : CT mX8_sample (d + 8) b0 G [.ref (ad 0 0), .int x, .int y] 20 400 (fun _ _ => False) (fun E G' => E = "java/lang/IndexOutOfBoundsException" ∧ G' = G) := by
  have hb0 := hI.b0
  have hb2 := hI.b2
  have hb9 := hI.b9
  have hb15 := hI.b15
  have hb18 := hI.b18
  refine CT.intro (by decide +kernel) rfl (Nat.le_of_ble_eq_true rfl) ?_
  show WP mX8_sample _ _ _ _ _ 20 400 0 [(0, .ref (ad 0 0)), (1, .int x), (2, .int y)] []
  refine r_aload_n dX8_sample_0 rfl 0 rfl ?_
  refine r_iload_n dX8_sample_1 rfl 1 rfl ?_
  refine r_callV (st := []) [.int x] 20 400 dX8_sample_2 kX8_letterAt nX8_letterAt lRX8_188 (hW.g 0 0 rfl) rfl (c_X8_letterAt_f hW hI hx) rfl rfl (Nat.le_of_ble_eq_true rfl) (Nat.le_refl _) (Nat.le_refl _) (fun _ _ h => h.elim) ?_
  refine cx_det (st2 := [.null]) rfl ?_
  refine r_astore_nN [(3, .null), (0, .ref (ad 0 0)), (1, .int x), (2, .int y)] dX8_sample_5 rfl (by decide) rfl ?_
  refine r_aload_nN dX8_sample_6 rfl 0 rfl ?_
  refine r_ifnullN 14 dX8_sample_7 (by decide) ?_
  refine r_throwW "java/lang/IndexOutOfBoundsException" "no such letter or place" dX8_sample_14 dX8_sample_17 dX8_sample_18 dX8_sample_21 dX8_sample_24 rfl (by decide +kernel) t_321 t_32 (by decide +kernel) exB_at exB_ng (by decide +kernel) (by omega) (by decide) (by decide) (Nat.le_of_ble_eq_true rfl) ?_
  exact ⟨rfl, rfl⟩
set_option maxRecDepth 100000 in
set_option maxHeartbeats 4000000 in
theorem c_sample_1b {d b0 : Nat} {G : GH} {A B : ST} {ad : AD} (hW : World A B ad G) (hI : Inv A) {l : Nat} {y : Int32} (hl : l < A 15 0) (hy : y < 0) : CT mX8_sample (d + 8) b0 G [.ref (ad 0 0), .int (nI l), .int y] 20 400 (fun _ _ => False) (fun E G' => E = "java/lang/IndexOutOfBoundsException" ∧ G' = G) := by
  have hb0 := hI.b0
  have hb2 := hI.b2
  have hb9 := hI.b9
  have hb15 := hI.b15
  have hb18 := hI.b18
  refine CT.intro (by decide +kernel) rfl (Nat.le_of_ble_eq_true rfl) ?_
  show WP mX8_sample _ _ _ _ _ 20 400 0 [(0, .ref (ad 0 0)), (1, .int (nI l)), (2, .int y)] []
  refine r_aload_n dX8_sample_0 rfl 0 rfl ?_
  refine r_iload_n dX8_sample_1 rfl 1 rfl ?_
  refine r_callV (st := []) [.int (nI l)] 20 400 dX8_sample_2 kX8_letterAt nX8_letterAt lRX8_188 (hW.g 0 0 rfl) rfl (c_X8_letterAt_t hW hI hl) rfl rfl (Nat.le_of_ble_eq_true rfl) (Nat.le_refl _) (Nat.le_refl _) (fun _ _ h => h.elim) ?_
  refine cx_det (st2 := [.ref (ad 27 l)]) rfl ?_
  refine r_astore_n [(3, .ref (ad 27 l)), (0, .ref (ad 0 0)), (1, .int (nI l)), (2, .int y)] dX8_sample_5 rfl (by decide) rfl ?_
  refine r_aload_n dX8_sample_6 rfl 0 rfl ?_
  refine r_ifnullR dX8_sample_7 ?_
  refine r_iload_n dX8_sample_10 rfl 3 rfl ?_
  refine r_if_ge 25 dX8_sample_11 (by decide) (fun c_1 => absurd c_1 (fun h => absurd hy (Int32.not_lt.mpr h))) (fun c_1 => ?_)
  refine r_throwW "java/lang/IndexOutOfBoundsException" "no such letter or place" dX8_sample_14 dX8_sample_17 dX8_sample_18 dX8_sample_21 dX8_sample_24 rfl (by decide +kernel) t_321 t_32 (by decide +kernel) exB_at exB_ng (by decide +kernel) (by omega) (by decide) (by decide) (Nat.le_of_ble_eq_true rfl) ?_
  exact ⟨rfl, rfl⟩
