theorem and_mask (x : Int32) : ∃ n : Nat, n < 2 ^ 31 ∧ x &&& 2147483647 = nI n := by
  refine ⟨x.toBitVec.toNat &&& 2147483647, Nat.lt_of_le_of_lt Nat.and_le_right (by decide), ?_⟩
  apply Int32.toBitVec.inj
  apply BitVec.eq_of_toNat_eq
  show (x.toBitVec &&& (2147483647 : Int32).toBitVec).toNat = (BitVec.ofNat 32 (x.toBitVec.toNat &&& 2147483647)).toNat
  rw [BitVec.toNat_and, BitVec.toNat_ofNat, Nat.mod_eq_of_lt (Nat.lt_of_le_of_lt Nat.and_le_right (by decide))]
  rfl
/-- the turn goes on -/
abbrev LK (X : SX) (b0 : Nat) (Q : Nat → Nat) (bc bs t x y : Nat) : Prop := ∀ (A B : ST) (G : GH), LW Q A B G → Inv A → Rl A B → Ap A → WL X mL_law 12 b0 (fun r _ => r = some (.int 1)) NoX G bc bs 1445 [(11, .int (nI y)), (9, .int (nI x)), (8, .int (nI t)), (7, .int (nI 1)), (0, .ref X.1), (1, .ref (Q 0)), (2, .ref (Q 1)), (3, .ref (Q 2)), (4, .ref (Q 3)), (5, .ref (Q 4)), (6, .ref (Q 5))] []
set_option maxRecDepth 100000 in
set_option maxHeartbeats 4000000 in
theorem l_dice {d b0 : Nat} {G : GH} {X : SX} {t : Nat} (ht : t < 2 ^ 31) (hX : X.2.1 < 2 ^ 31) : CTX X mL_dice d b0 G [.ref X.1, .int (nI t)] 0 0 (fun r G' => ∃ n : Nat, r = some (.int (nI n)) ∧ n < 2 ^ 31 ∧ G' = G) := by
  refine CTX.intro (by decide +kernel) rfl (Nat.le_of_ble_eq_true rfl) ?_
  show WL X mL_dice _ _ _ _ _ _ _ 0 [(0, .ref X.1), (1, .int (nI t))] []
  refine q_iload_n dL_dice_0 rfl 1 rfl ?_
  refine q_aload_n dL_dice_1 rfl 0 rfl ?_
  refine q_slen (v := nI X.2.1) dL_dice_2 rfl ?_
  refine nq_icmp_ge 12 dL_dice_3 (by decide) (by omega) (by omega) (fun c3 => ?_) (fun c3 => ?_)
  · refine q_ldc dL_dice_12 con_7 ?_
    refine q_iload_n dL_dice_14 rfl 1 rfl ?_
    refine q_sipush (v := (nI 613)) dL_dice_15 (by decide) ?_
    refine q_iadd dL_dice_18 ?_
    refine q_imul dL_dice_19 ?_
    refine q_sipush (v := (nI 953)) dL_dice_20 (by decide) ?_
    refine q_iload_n dL_dice_23 rfl 1 rfl ?_
    refine q_imul dL_dice_24 ?_
    refine q_iload_n dL_dice_25 rfl 1 rfl ?_
    refine q_imul dL_dice_26 ?_
    refine q_iadd dL_dice_27 ?_
    refine q_sipush (v := (nI 467)) dL_dice_28 (by decide) ?_
    refine q_iadd dL_dice_31 ?_
    refine q_ldc dL_dice_32 con_8 ?_
    refine q_iand dL_dice_34 ?_
    refine q_ret .int dL_dice_35 rfl rfl ?_
    obtain ⟨n, hn, e⟩ := and_mask (((2079202305 * ((nI t) + (nI 613))) + (((nI 953) * (nI t)) * (nI t))) + (nI 467))
    exact ⟨n, congrArg (fun q => some (Value.int q)) e, hn, rfl⟩
  · refine q_aload_n dL_dice_6 rfl 0 rfl ?_
    refine q_iload_n dL_dice_7 rfl 1 rfl ?_
    refine q_sld dL_dice_8 (vp_in_nI (by omega) (by omega)) ?_
    refine q_goto 32 dL_dice_9 (by decide) ?_
    refine q_ldc dL_dice_32 con_8 ?_
    refine q_iand dL_dice_34 ?_
    refine q_ret .int dL_dice_35 rfl rfl ?_
    obtain ⟨n, hn, e⟩ := and_mask (X.2.2 (nI t).toNatClampNeg)
    exact ⟨n, congrArg (fun q => some (Value.int q)) e, hn, rfl⟩
set_option maxRecDepth 100000 in
set_option maxHeartbeats 4000000 in
theorem la_word {X : SX} {b0 : Nat} {Q : Nat → Nat} {bc bs : Nat} {A B : ST} {G : GH} (hL : LW Q A B G) (hI : Inv A) (hR : Rl A B) (hA : Ap A) {t x y c z : Nat} (hx : x < 2 ^ 31) (hy : y < 2 ^ 31) (hz : z < 2 ^ 31)  (K : LK X b0 Q bc bs t x y) : WL X mL_law 12 b0 (fun r _ => r = some (.int 1)) NoX G (bc + 700) (bs + 14000) 209 [(13, .int (nI z)), (12, .int (nI c)), (11, .int (nI y)), (9, .int (nI x)), (8, .int (nI t)), (7, .int (nI 1)), (0, .ref X.1), (1, .ref (Q 0)), (2, .ref (Q 1)), (3, .ref (Q 2)), (4, .ref (Q 3)), (5, .ref (Q 4)), (6, .ref (Q 5))] [] := by
  have hm0 := hR.m0
  have hm1 := hR.m1
  have hm2 := hR.m2
  have hm3 := hR.m3
  have hm4 := hR.m4
  have hn9 := hR.n9
  have hb0 := hI.b0
  have hb2 := hI.b2
  have hb15 := hI.b15
  have hb18 := hI.b18
  refine q_aload_n dL_law_209 rfl 8 rfl ?_
  refine q_iconst (v := (nI 0)) dL_law_210 (by decide) ?_
  refine nq_iald dL_law_211 hL.r1 (by omega) (by decide) ?_
  refine q_bipush (v := (nI 12)) dL_law_212 (by decide) ?_
  refine nq_icmp_eq 252 dL_law_214 (by decide) (by omega) (by omega) (fun c214 => ?_) (fun c214 => ?_)
  · refine q_iconst (v := (nI 1)) dL_law_252 (by decide) ?_
    refine q_goto 257 dL_law_253 (by decide) ?_
    refine q_istore [(7, .int (nI 1)), (13, .int (nI z)), (12, .int (nI c)), (11, .int (nI y)), (9, .int (nI x)), (8, .int (nI t)), (0, .ref X.1), (1, .ref (Q 0)), (2, .ref (Q 1)), (3, .ref (Q 2)), (4, .ref (Q 3)), (5, .ref (Q 4)), (6, .ref (Q 5))] dL_law_257 (by decide) rfl ?_
    refine q_aload_n dL_law_259 rfl 8 rfl ?_
    refine q_iconst (v := (nI 4)) dL_law_260 (by decide) ?_
    refine q_aload_n dL_law_261 rfl 8 rfl ?_
    refine q_iconst (v := (nI 0)) dL_law_262 (by decide) ?_
    refine nq_iald dL_law_263 hL.r1 (by omega) (by decide) ?_
    refine q_bipush (v := (nI 12)) dL_law_264 (by decide) ?_
    refine nq_icmp_ne 275 dL_law_266 (by decide) (by omega) (by omega) (fun c2 => absurd c2 (by omega)) (fun c2 => ?_)
    refine q_aload_n dL_law_269 rfl 8 rfl ?_
    refine q_iconst (v := (nI 4)) dL_law_270 (by decide) ?_
    refine nq_iald dL_law_271 hL.r1 (by omega) (by decide) ?_
    refine q_goto 276 dL_law_272 (by decide) ?_
    refine nq_iast dL_law_276 hL.r1 (by omega) (by decide) ?_
    have hL3 := hL.w1 (j := 4) (v := B 1 4) (by omega)
    have hb4 : (setA B 1 4 (B 1 4)) 1 4 = B 1 4 := setA_s
    have hb0x : (setA B 1 4 (B 1 4)) 1 0 = B 1 0 := setA_n (by decide)
    refine q_aload_n dL_law_277 rfl 8 rfl ?_
    refine q_iconst (v := (nI 0)) dL_law_278 (by decide) ?_
    refine q_dup2 dL_law_279 rfl rfl ?_
    refine nq_iald dL_law_280 hL3.r1 (by omega) (by decide) ?_
    refine q_aload_n dL_law_281 rfl 8 rfl ?_
    refine q_iconst (v := (nI 0)) dL_law_282 (by decide) ?_
    refine nq_iald dL_law_283 hL3.r1 (by omega) (by decide) ?_
    refine q_bipush (v := (nI 12)) dL_law_284 (by decide) ?_
    refine nq_icmp_ne 293 dL_law_286 (by decide) (by omega) (by omega) (fun c5 => absurd c5 (by omega)) (fun c5 => ?_)
    refine q_iconst (v := (nI 0)) dL_law_289 (by decide) ?_
    refine q_goto 294 dL_law_290 (by decide) ?_
    refine nq_iadd dL_law_294 ?_
    refine nq_iast dL_law_295 hL3.r1 (by omega) (by decide) ?_
    have hL6 := hL3.w1 (j := 0) (v := ((setA B 1 4 (B 1 4)) 1 0) + 0) (by omega)
    have hb7 : (setA (setA B 1 4 (B 1 4)) 1 0 (((setA B 1 4 (B 1 4)) 1 0) + 0)) 1 0 = ((setA B 1 4 (B 1 4)) 1 0) + 0 := setA_s
    refine q_goto 1445 dL_law_296 (by decide) ?_
    exact WL.loc [3, 4, 5, 0, 6, 7, 8, 9, 10, 11, 12] rfl (WL.bud (by omega) (by omega) (K _ _ _ hL6 (hI) (rl_id hR (fun f k => by
        by_cases q : f = 1
        · by_cases r : k = 0
          · rw [q, r]; rw [setA_s]; exact (Nat.add_zero _).trans (setA_n (show (0 : Nat) ≠ 4 by decide))
          · by_cases r4 : k = 4
            · rw [q, r4]; exact (setA_n (show (4 : Nat) ≠ 0 by decide)).trans setA_s
            · rw [q]; exact (setA_n r).trans (setA_n r4)
        · exact (setA_f q).trans (setA_f q))) (hA)))
  · refine q_aload_n dL_law_217 rfl 7 rfl ?_
    refine q_aload_n dL_law_218 rfl 8 rfl ?_
    refine q_iconst (v := (nI 1)) dL_law_219 (by decide) ?_
    refine q_iload dL_law_220 0 rfl ?_
    refine q_bipush (v := (nI 10)) dL_law_222 (by decide) ?_
    refine nq_irem dL_law_224 (by omega) (by omega) (by omega) ?_
    refine nq_iadd dL_law_225 ?_
    refine q_iload dL_law_226 0 rfl ?_
    refine q_bipush (v := (nI 10)) dL_law_228 (by decide) ?_
    refine nq_idiv dL_law_230 (by omega) (by omega) (by omega) ?_
    refine q_callS (st := []) [.ref (Q 0), .ref (Q 1), .int (nI (1 + (z % 10))), .int (nI (z / 10))] (bc + 480) (bs + 9600) dL_law_231 kL_spells nL_spells lRL_127 (l_spells (d := 1) hL hI hR (x := z / 10) (m := 1 + z % 10) (by omega) (by omega)) rfl rfl (Nat.le_of_ble_eq_true rfl) (by omega) (by omega) ?_
    intro r G8 hr
    obtain ⟨rfl, A2, B2, hL2, hI2, hR2, hK2, h02, hs2⟩ := hr
    show WL X mL_law _ _ _ _ _ _ _ 234 [(13, .int (nI z)), (12, .int (nI c)), (11, .int (nI y)), (9, .int (nI x)), (8, .int (nI t)), (7, .int (nI 1)), (0, .ref X.1), (1, .ref (Q 0)), (2, .ref (Q 1)), (3, .ref (Q 2)), (4, .ref (Q 3)), (5, .ref (Q 4)), (6, .ref (Q 5))] [.int (nI 1)]
    have k20 : A2 2 0 = A 2 0 := by rw [hK2.e 2]
    have q20 := hR2.m0
    have q24 := hR2.m4
    have hA2 := hA.kp hK2
    have hs3 : ∀ k, k < A2 0 0 → sml (A2 1 k) := fun k hk => hs2 k (by omega)
    refine nq_if_eq 256 dL_law_234 (by decide) (by omega) (fun c10 => absurd c10 (by decide)) (fun c10 => ?_)
    have hlb : ltB A2 1 10 = true := ltB_yes hI2.b0 hs3 (by omega) (by omega)
    refine q_aload_n dL_law_237 rfl 7 rfl ?_
    refine q_iconst (v := (nI 1)) dL_law_238 (by decide) ?_
    refine q_iconst (v := (nI 0)) dL_law_239 (by decide) ?_
    refine q_iconst (v := (nI 0)) dL_law_240 (by decide) ?_
    refine q_iconst (v := (nI 0)) dL_law_241 (by decide) ?_
    refine q_iconst (v := (nI 0)) dL_law_242 (by decide) ?_
    refine q_callSW (st := []) [.ref (Q 0), .int (nI 1), .int (nI 0), .int (nI 0), .int (nI 0), .int (nI 0)] (bc + 460) (bs + 9200) dL_law_243 kL_act nL_act lRL_88 (L_word (d := 2) hL2 hI2 hlb (by omega)) rfl rfl (Nat.le_of_ble_eq_true rfl) (by omega) (by omega) ?_
    intro r G11 hr
    obtain ⟨rfl, hL12⟩ := hr
    show WL X mL_law _ _ _ _ _ _ _ 246 [(13, .int (nI z)), (12, .int (nI c)), (11, .int (nI y)), (9, .int (nI x)), (8, .int (nI t)), (7, .int (nI 1)), (0, .ref X.1), (1, .ref (Q 0)), (2, .ref (Q 1)), (3, .ref (Q 2)), (4, .ref (Q 3)), (5, .ref (Q 4)), (6, .ref (Q 5))] [.int (nI (A2 2 0))]
    refine q_aload_n dL_law_246 rfl 8 rfl ?_
    refine q_iconst (v := (nI 0)) dL_law_247 (by decide) ?_
    refine nq_iald dL_law_248 hL12.r1 (by omega) (by decide) ?_
    refine nq_icmp_ne 256 dL_law_249 (by decide) (by omega) (by omega) (fun c13 => absurd c13 (by omega)) (fun c13 => ?_)
    refine q_iconst (v := (nI 1)) dL_law_252 (by decide) ?_
    refine q_goto 257 dL_law_253 (by decide) ?_
    refine q_istore [(7, .int (nI 1)), (13, .int (nI z)), (12, .int (nI c)), (11, .int (nI y)), (9, .int (nI x)), (8, .int (nI t)), (0, .ref X.1), (1, .ref (Q 0)), (2, .ref (Q 1)), (3, .ref (Q 2)), (4, .ref (Q 3)), (5, .ref (Q 4)), (6, .ref (Q 5))] dL_law_257 (by decide) rfl ?_
    refine q_aload_n dL_law_259 rfl 8 rfl ?_
    refine q_iconst (v := (nI 4)) dL_law_260 (by decide) ?_
    refine q_aload_n dL_law_261 rfl 8 rfl ?_
    refine q_iconst (v := (nI 0)) dL_law_262 (by decide) ?_
    refine nq_iald dL_law_263 hL12.r1 (by omega) (by decide) ?_
    refine q_bipush (v := (nI 12)) dL_law_264 (by decide) ?_
    refine nq_icmp_ne 275 dL_law_266 (by decide) (by omega) (by omega) (fun c14 => ?_) (fun c14 => absurd c14 (by omega))
    refine q_iconst (v := (nI 0)) dL_law_275 (by decide) ?_
    refine nq_iast dL_law_276 hL12.r1 (by omega) (by decide) ?_
    have hL15 := hL12.w1 (j := 4) (v := 0) (by omega)
    have hb16 : (setA B2 1 4 0) 1 4 = 0 := setA_s
    have hb0x : (setA B2 1 4 0) 1 0 = B2 1 0 := setA_n (by decide)
    refine q_aload_n dL_law_277 rfl 8 rfl ?_
    refine q_iconst (v := (nI 0)) dL_law_278 (by decide) ?_
    refine q_dup2 dL_law_279 rfl rfl ?_
    refine nq_iald dL_law_280 hL15.r1 (by omega) (by decide) ?_
    refine q_aload_n dL_law_281 rfl 8 rfl ?_
    refine q_iconst (v := (nI 0)) dL_law_282 (by decide) ?_
    refine nq_iald dL_law_283 hL15.r1 (by omega) (by decide) ?_
    refine q_bipush (v := (nI 12)) dL_law_284 (by decide) ?_
    refine nq_icmp_ne 293 dL_law_286 (by decide) (by omega) (by omega) (fun c17 => ?_) (fun c17 => absurd c17 (by omega))
    refine q_iconst (v := (nI 1)) dL_law_293 (by decide) ?_
    refine nq_iadd dL_law_294 ?_
    refine nq_iast dL_law_295 hL15.r1 (by omega) (by decide) ?_
    have hL18 := hL15.w1 (j := 0) (v := ((setA B2 1 4 0) 1 0) + 1) (by omega)
    have hb19 : (setA (setA B2 1 4 0) 1 0 (((setA B2 1 4 0) 1 0) + 1)) 1 0 = ((setA B2 1 4 0) 1 0) + 1 := setA_s
    refine q_goto 1445 dL_law_296 (by decide) ?_
    exact WL.loc [3, 4, 5, 0, 6, 7, 8, 9, 10, 11, 12] rfl (WL.bud (by omega) (by omega) (K _ _ _ hL18 (i_word hI2 hlb (by omega)) (rl_word hR2 (by omega) (X := (setA (setA (setA (cpyA A2 3 (10 * A2 2 0) (A2 0 0)) 4 (A2 2 0) (A2 0 0)) 2 0 (A2 2 0 + 1)) 0 0 0)) (fun f h3 h4 h2 h0 => by
        funext k
        rw [setA_f h0, setA_f h2, setA_f h4, cpyA_f h3]) rfl setA_s) (hA2)))
set_option maxRecDepth 100000 in
set_option maxHeartbeats 4000000 in
theorem la_end {X : SX} {b0 : Nat} {Q : Nat → Nat} {bc bs : Nat} {A B : ST} {G : GH} (hL : LW Q A B G) (hI : Inv A) (hR : Rl A B) (hA : Ap A) {t x y c z : Nat} (hx : x < 2 ^ 31) (hy : y < 2 ^ 31) (hz : z < 2 ^ 31)  (K : LK X b0 Q bc bs t x y) : WL X mL_law 12 b0 (fun r _ => r = some (.int 1)) NoX G (bc + 700) (bs + 14000) 305 [(13, .int (nI z)), (12, .int (nI c)), (11, .int (nI y)), (9, .int (nI x)), (8, .int (nI t)), (7, .int (nI 1)), (0, .ref X.1), (1, .ref (Q 0)), (2, .ref (Q 1)), (3, .ref (Q 2)), (4, .ref (Q 3)), (5, .ref (Q 4)), (6, .ref (Q 5))] [] := by
  have hm0 := hR.m0
  have hm1 := hR.m1
  have hm2 := hR.m2
  have hm3 := hR.m3
  have hm4 := hR.m4
  have hn9 := hR.n9
  have hb0 := hI.b0
  have hb2 := hI.b2
  have hb15 := hI.b15
  have hb18 := hI.b18
  refine q_iload dL_law_305 0 rfl ?_
  refine q_iconst (v := (nI 5)) dL_law_307 (by decide) ?_
  refine nq_irem dL_law_308 (by omega) (by omega) (by omega) ?_
  refine q_istore [(14, .int (nI (z % 5))), (13, .int (nI z)), (12, .int (nI c)), (11, .int (nI y)), (9, .int (nI x)), (8, .int (nI t)), (7, .int (nI 1)), (0, .ref X.1), (1, .ref (Q 0)), (2, .ref (Q 1)), (3, .ref (Q 2)), (4, .ref (Q 3)), (5, .ref (Q 4)), (6, .ref (Q 5))] dL_law_309 (by decide) rfl ?_
  refine q_aload_n dL_law_311 rfl 8 rfl ?_
  refine q_aload_n dL_law_312 rfl 9 rfl ?_
  refine q_iload dL_law_313 0 rfl ?_
  refine q_iload dL_law_315 1 rfl ?_
  refine q_iconst (v := (nI 5)) dL_law_317 (by decide) ?_
  refine nq_idiv dL_law_318 (by omega) (by omega) (by omega) ?_
  refine q_callS (st := []) [.ref (Q 0), .ref (Q 1), .int (nI (z % 5)), .int (nI (z / 5))] (bc + 480) (bs + 9600) dL_law_319 kL_spells nL_spells lRL_127 (l_spells (d := 1) hL hI hR (x := z / 5) (m := z % 5) (by omega) (by omega)) rfl rfl (Nat.le_of_ble_eq_true rfl) (by omega) (by omega) ?_
  intro r G1 hr
  obtain ⟨rfl, A2, B2, hL2, hI2, hR2, hK2, h02, hs2⟩ := hr
  show WL X mL_law _ _ _ _ _ _ _ 322 [(14, .int (nI (z % 5))), (13, .int (nI z)), (12, .int (nI c)), (11, .int (nI y)), (9, .int (nI x)), (8, .int (nI t)), (7, .int (nI 1)), (0, .ref X.1), (1, .ref (Q 0)), (2, .ref (Q 1)), (3, .ref (Q 2)), (4, .ref (Q 3)), (5, .ref (Q 4)), (6, .ref (Q 5))] [.int (nI 1)]
  have k20 : A2 2 0 = A 2 0 := by rw [hK2.e 2]
  have q20 := hR2.m0
  have q24 := hR2.m4
  have hA2 := hA.kp hK2
  have hs3 : ∀ k, k < A2 0 0 → sml (A2 1 k) := fun k hk => hs2 k (by omega)
  refine nq_if_eq 352 dL_law_322 (by decide) (by omega) (fun c3 => absurd c3 (by decide)) (fun c3 => ?_)
  have hlb : ltB A2 0 4 = true := ltB_yes hI2.b0 hs3 (by omega) (by omega)
  refine q_aload_n dL_law_325 rfl 8 rfl ?_
  refine q_iconst (v := (nI 2)) dL_law_326 (by decide) ?_
  refine q_iload dL_law_327 1 rfl ?_
  refine q_iconst (v := (nI 3)) dL_law_329 (by decide) ?_
  refine nq_irem dL_law_330 (by omega) (by omega) (by omega) ?_
  refine q_iconst (v := (-1)) dL_law_331 (by decide) ?_
  refine q_iload dL_law_332 1 rfl ?_
  refine q_iconst (v := (nI 3)) dL_law_334 (by decide) ?_
  refine nq_idiv dL_law_335 (by omega) (by omega) (by omega) ?_
  refine q_bipush (v := (nI 8)) dL_law_336 (by decide) ?_
  refine nq_irem dL_law_338 (by omega) (by omega) (by omega) ?_
  refine q_iconst (v := (nI 0)) dL_law_339 (by decide) ?_
  refine q_callSW (st := []) [.ref (Q 0), .int (nI 2), .int (nI (z % 3)), .int (-1), .int (nI ((z / 3) % 8)), .int (nI 0)] (bc + 460) (bs + 9200) dL_law_340 kL_act nL_act lRL_88 (L_form0 (d := 2) hL2 hI2 (l := z % 3) (g := z / 3 % 8) (by omega) (by omega) hlb) rfl rfl (Nat.le_of_ble_eq_true rfl) (by omega) (by omega) ?_
  intro r G4 hr
  obtain ⟨rfl, hL5⟩ := hr
  show WL X mL_law _ _ _ _ _ _ _ 343 [(14, .int (nI (z % 5))), (13, .int (nI z)), (12, .int (nI c)), (11, .int (nI y)), (9, .int (nI x)), (8, .int (nI t)), (7, .int (nI 1)), (0, .ref X.1), (1, .ref (Q 0)), (2, .ref (Q 1)), (3, .ref (Q 2)), (4, .ref (Q 3)), (5, .ref (Q 4)), (6, .ref (Q 5))] [.int (nI (A2 0 0))]
  refine q_iload dL_law_343 0 rfl ?_
  refine nq_icmp_ne 352 dL_law_345 (by decide) (by omega) (by omega) (fun c6 => absurd c6 (by omega)) (fun c6 => ?_)
  refine q_iconst (v := (nI 1)) dL_law_348 (by decide) ?_
  refine q_goto 353 dL_law_349 (by decide) ?_
  refine q_istore [(7, .int (nI 1)), (14, .int (nI (z % 5))), (13, .int (nI z)), (12, .int (nI c)), (11, .int (nI y)), (9, .int (nI x)), (8, .int (nI t)), (0, .ref X.1), (1, .ref (Q 0)), (2, .ref (Q 1)), (3, .ref (Q 2)), (4, .ref (Q 3)), (5, .ref (Q 4)), (6, .ref (Q 5))] dL_law_353 (by decide) rfl ?_
  refine q_aload_n dL_law_355 rfl 9 rfl ?_
  refine q_iconst (v := (nI 4)) dL_law_356 (by decide) ?_
  refine q_iconst (v := (nI 0)) dL_law_357 (by decide) ?_
  refine nq_iast dL_law_358 hL5.r1 (by omega) (by decide) ?_
  have hL7 := hL5.w1 (j := 4) (v := 0) (by omega)
  have hb8 : (setA B2 1 4 0) 1 4 = 0 := setA_s
  refine q_goto 1445 dL_law_359 (by decide) ?_
  exact WL.loc [4, 5, 6, 0, 7, 8, 9, 10, 11, 12, 13] rfl (WL.bud (by omega) (by omega) (K _ _ _ hL7 (i_end hI2 (e := z % 3 * 8 + z / 3 % 8) hlb) (rl_z hR2 (fun f h0 h1 h3 h4 h5 h6 h7 h8 => by
      funext k
      rw [setA_f h0, setA_f h6, cpyA_f h5]) setA_s) (hA2)))
set_option maxRecDepth 100000 in
set_option maxHeartbeats 4000000 in
theorem la_own {X : SX} {b0 : Nat} {Q : Nat → Nat} {bc bs : Nat} {A B : ST} {G : GH} (hL : LW Q A B G) (hI : Inv A) (hR : Rl A B) (hA : Ap A) {t x y c z : Nat} (hx : x < 2 ^ 31) (hy : y < 2 ^ 31) (hz : z < 2 ^ 31) (h00 : 0 < A 2 0) (K : LK X b0 Q bc bs t x y) : WL X mL_law 12 b0 (fun r _ => r = some (.int 1)) NoX G (bc + 700) (bs + 14000) 374 [(13, .int (nI z)), (12, .int (nI c)), (11, .int (nI y)), (9, .int (nI x)), (8, .int (nI t)), (7, .int (nI 1)), (0, .ref X.1), (1, .ref (Q 0)), (2, .ref (Q 1)), (3, .ref (Q 2)), (4, .ref (Q 3)), (5, .ref (Q 4)), (6, .ref (Q 5))] [] := by
  have hm0 := hR.m0
  have hm1 := hR.m1
  have hm2 := hR.m2
  have hm3 := hR.m3
  have hm4 := hR.m4
  have hn9 := hR.n9
  have hb0 := hI.b0
  have hb2 := hI.b2
  have hb15 := hI.b15
  have hb18 := hI.b18
  refine q_iconst (v := (nI 1)) dL_law_374 (by decide) ?_
  refine q_iload dL_law_375 0 rfl ?_
  refine q_bipush (v := (nI 10)) dL_law_377 (by decide) ?_
  refine nq_irem dL_law_379 (by omega) (by omega) (by omega) ?_
  refine nq_iadd dL_law_380 ?_
  refine q_istore [(14, .int (nI (1 + (z % 10)))), (13, .int (nI z)), (12, .int (nI c)), (11, .int (nI y)), (9, .int (nI x)), (8, .int (nI t)), (7, .int (nI 1)), (0, .ref X.1), (1, .ref (Q 0)), (2, .ref (Q 1)), (3, .ref (Q 2)), (4, .ref (Q 3)), (5, .ref (Q 4)), (6, .ref (Q 5))] dL_law_381 (by decide) rfl ?_
  refine q_aload_n dL_law_383 rfl 8 rfl ?_
  refine q_aload_n dL_law_384 rfl 9 rfl ?_
  refine q_iload dL_law_385 0 rfl ?_
  refine q_iload dL_law_387 1 rfl ?_
  refine q_bipush (v := (nI 10)) dL_law_389 (by decide) ?_
  refine nq_idiv dL_law_391 (by omega) (by omega) (by omega) ?_
  refine q_callS (st := []) [.ref (Q 0), .ref (Q 1), .int (nI (1 + (z % 10))), .int (nI (z / 10))] (bc + 480) (bs + 9600) dL_law_392 kL_spells nL_spells lRL_127 (l_spells (d := 1) hL hI hR (x := z / 10) (m := 1 + z % 10) (by omega) (by omega)) rfl rfl (Nat.le_of_ble_eq_true rfl) (by omega) (by omega) ?_
  intro r G1 hr
  obtain ⟨rfl, A2, B2, hL2, hI2, hR2, hK2, h02, hs2⟩ := hr
  show WL X mL_law _ _ _ _ _ _ _ 395 [(14, .int (nI (1 + (z % 10)))), (13, .int (nI z)), (12, .int (nI c)), (11, .int (nI y)), (9, .int (nI x)), (8, .int (nI t)), (7, .int (nI 1)), (0, .ref X.1), (1, .ref (Q 0)), (2, .ref (Q 1)), (3, .ref (Q 2)), (4, .ref (Q 3)), (5, .ref (Q 4)), (6, .ref (Q 5))] [.int (nI 1)]
  have k20 : A2 2 0 = A 2 0 := by rw [hK2.e 2]
  have q20 := hR2.m0
  have q24 := hR2.m4
  have hA2 := hA.kp hK2
  have hs3 : ∀ k, k < A2 0 0 → sml (A2 1 k) := fun k hk => hs2 k (by omega)
  refine nq_if_eq 433 dL_law_395 (by decide) (by omega) (fun c3 => absurd c3 (by decide)) (fun c3 => ?_)
  have hlb : ltB A2 1 10 = true := ltB_yes hI2.b0 hs3 (by omega) (by omega)
  have hw2 : z / 24 % B2 1 0 < A2 2 0 := by rw [← q20]; exact Nat.mod_lt _ (by omega)
  refine q_aload_n dL_law_398 rfl 8 rfl ?_
  refine q_iconst (v := (nI 2)) dL_law_399 (by decide) ?_
  refine q_iload dL_law_400 1 rfl ?_
  refine q_iconst (v := (nI 3)) dL_law_402 (by decide) ?_
  refine nq_irem dL_law_403 (by omega) (by omega) (by omega) ?_
  refine q_iload dL_law_404 1 rfl ?_
  refine q_bipush (v := (nI 24)) dL_law_406 (by decide) ?_
  refine nq_idiv dL_law_408 (by omega) (by omega) (by omega) ?_
  refine q_aload_n dL_law_409 rfl 9 rfl ?_
  refine q_iconst (v := (nI 0)) dL_law_410 (by decide) ?_
  refine nq_iald dL_law_411 hL2.r1 (by omega) (by decide) ?_
  refine nq_irem dL_law_412 (by omega) (by omega) (by omega) ?_
  refine q_iload dL_law_413 1 rfl ?_
  refine q_iconst (v := (nI 3)) dL_law_415 (by decide) ?_
  refine nq_idiv dL_law_416 (by omega) (by omega) (by omega) ?_
  refine q_bipush (v := (nI 8)) dL_law_417 (by decide) ?_
  refine nq_irem dL_law_419 (by omega) (by omega) (by omega) ?_
  refine q_iconst (v := (nI 0)) dL_law_420 (by decide) ?_
  refine q_callSW (st := []) [.ref (Q 0), .int (nI 2), .int (nI (z % 3)), .int (nI ((z / 24) % (B2 1 0))), .int (nI ((z / 3) % 8)), .int (nI 0)] (bc + 460) (bs + 9200) dL_law_421 kL_act nL_act lRL_88 (L_form1 (d := 2) hL2 hI2 (l := z % 3) (g := z / 3 % 8) (by omega) hw2 (by omega) hlb) rfl rfl (Nat.le_of_ble_eq_true rfl) (by omega) (by omega) ?_
  intro r G4 hr
  obtain ⟨rfl, hL5⟩ := hr
  show WL X mL_law _ _ _ _ _ _ _ 424 [(14, .int (nI (1 + (z % 10)))), (13, .int (nI z)), (12, .int (nI c)), (11, .int (nI y)), (9, .int (nI x)), (8, .int (nI t)), (7, .int (nI 1)), (0, .ref X.1), (1, .ref (Q 0)), (2, .ref (Q 1)), (3, .ref (Q 2)), (4, .ref (Q 3)), (5, .ref (Q 4)), (6, .ref (Q 5))] [.int (nI (A2 0 0))]
  refine q_iload dL_law_424 0 rfl ?_
  refine nq_icmp_ne 433 dL_law_426 (by decide) (by omega) (by omega) (fun c6 => absurd c6 (by omega)) (fun c6 => ?_)
  refine q_iconst (v := (nI 1)) dL_law_429 (by decide) ?_
  refine q_goto 434 dL_law_430 (by decide) ?_
  refine q_istore [(7, .int (nI 1)), (14, .int (nI (1 + (z % 10)))), (13, .int (nI z)), (12, .int (nI c)), (11, .int (nI y)), (9, .int (nI x)), (8, .int (nI t)), (0, .ref X.1), (1, .ref (Q 0)), (2, .ref (Q 1)), (3, .ref (Q 2)), (4, .ref (Q 3)), (5, .ref (Q 4)), (6, .ref (Q 5))] dL_law_434 (by decide) rfl ?_
  refine q_aload_n dL_law_436 rfl 9 rfl ?_
  refine q_iconst (v := (nI 4)) dL_law_437 (by decide) ?_
  refine q_iconst (v := (nI 0)) dL_law_438 (by decide) ?_
  refine nq_iast dL_law_439 hL5.r1 (by omega) (by decide) ?_
  have hL7 := hL5.w1 (j := 4) (v := 0) (by omega)
  have hb8 : (setA B2 1 4 0) 1 4 = 0 := setA_s
  refine q_goto 1445 dL_law_440 (by decide) ?_
  exact WL.loc [4, 5, 6, 0, 7, 8, 9, 10, 11, 12, 13] rfl (WL.bud (by omega) (by omega) (K _ _ _ hL7 (i_own hI2 (e := oix (z % 3) (z / 24 % B2 1 0) (z / 3 % 8)) hlb) (rl_z hR2 (fun f h0 h1 h3 h4 h5 h6 h7 h8 => by
      funext k
      rw [setA_f h0, setA_f h8, cpyA_f h7]) setA_s) (hA2)))
set_option maxRecDepth 100000 in
set_option maxHeartbeats 4000000 in
theorem la_clause {X : SX} {b0 : Nat} {Q : Nat → Nat} {bc bs : Nat} {A B : ST} {G : GH} (hL : LW Q A B G) (hI : Inv A) (hR : Rl A B) (hA : Ap A) {t x y c z : Nat} (hx : x < 2 ^ 31) (hy : y < 2 ^ 31) (hz : z < 2 ^ 31)  (K : LK X b0 Q bc bs t x y) : WL X mL_law 12 b0 (fun r _ => r = some (.int 1)) NoX G (bc + 700) (bs + 14000) 456 [(13, .int (nI z)), (12, .int (nI c)), (11, .int (nI y)), (9, .int (nI x)), (8, .int (nI t)), (7, .int (nI 1)), (0, .ref X.1), (1, .ref (Q 0)), (2, .ref (Q 1)), (3, .ref (Q 2)), (4, .ref (Q 3)), (5, .ref (Q 4)), (6, .ref (Q 5))] [] := by
  have hm0 := hR.m0
  have hm1 := hR.m1
  have hm2 := hR.m2
  have hm3 := hR.m3
  have hm4 := hR.m4
  have hn9 := hR.n9
  have hb0 := hI.b0
  have hb2 := hI.b2
  have hb15 := hI.b15
  have hb18 := hI.b18
  refine q_aload_n dL_law_456 rfl 8 rfl ?_
  refine q_iconst (v := (nI 1)) dL_law_457 (by decide) ?_
  refine nq_iald dL_law_458 hL.r1 (by omega) (by decide) ?_
  refine q_bipush (v := (nI 9)) dL_law_459 (by decide) ?_
  refine nq_icmp_ge 1445 dL_law_461 (by decide) (by omega) (by omega) (fun c461 => ?_) (fun c461 => ?_)
  · exact WL.loc [2, 3, 4, 5, 6, 7, 8, 9, 10, 11, 12] rfl (WL.bud (by omega) (by omega) (K _ _ _ hL (hI) (hR) (hA)))
  · refine q_aload_n dL_law_464 rfl 9 rfl ?_
    refine q_bipush (v := (nI 7)) dL_law_465 (by decide) ?_
    refine q_aload_n dL_law_467 rfl 8 rfl ?_
    refine q_iconst (v := (nI 1)) dL_law_468 (by decide) ?_
    refine nq_iald dL_law_469 hL.r1 (by omega) (by decide) ?_
    refine nq_imul dL_law_470 ?_
    refine q_iload dL_law_471 0 rfl ?_
    refine q_iconst (v := (nI 3)) dL_law_473 (by decide) ?_
    refine nq_irem dL_law_474 (by omega) (by omega) (by omega) ?_
    refine nq_if_ne 482 dL_law_475 (by decide) (by omega) (fun c475 => ?_) (fun c475 => ?_)
    · refine q_iconst (v := (nI 1)) dL_law_482 (by decide) ?_
      refine q_iload dL_law_483 0 rfl ?_
      refine q_iconst (v := (nI 3)) dL_law_485 (by decide) ?_
      refine nq_idiv dL_law_486 (by omega) (by omega) (by omega) ?_
      refine q_bipush (v := (nI 8)) dL_law_487 (by decide) ?_
      refine nq_irem dL_law_489 (by omega) (by omega) (by omega) ?_
      refine nq_iadd dL_law_490 ?_
      refine nq_iast dL_law_491 hL.r2 (by omega) (by decide) ?_
      have hL3 := hL.w2 (j := 7 * (B 1 1)) (v := 1 + ((z / 3) % 8)) (by omega)
      have hb4 : (setA B 2 (7 * (B 1 1)) (1 + ((z / 3) % 8))) 2 (7 * (B 1 1)) = 1 + ((z / 3) % 8) := setA_s
      have hbx : (setA B 2 (7 * (B 1 1)) (1 + ((z / 3) % 8))) 1 1 = B 1 1 := setA_f (by decide)
      have hbb : (setA B 2 (7 * (B 1 1)) (1 + ((z / 3) % 8))) 2 (7 * (setA B 2 (7 * (B 1 1)) (1 + ((z / 3) % 8))) 1 1) = 1 + ((z / 3) % 8) := by rw [hbx]; exact setA_s
      refine q_aload_n dL_law_492 rfl 7 rfl ?_
      refine q_iconst (v := (nI 3)) dL_law_493 (by decide) ?_
      refine q_aload_n dL_law_494 rfl 9 rfl ?_
      refine q_bipush (v := (nI 7)) dL_law_495 (by decide) ?_
      refine q_aload_n dL_law_497 rfl 8 rfl ?_
      refine q_iconst (v := (nI 1)) dL_law_498 (by decide) ?_
      refine nq_iald dL_law_499 hL3.r1 (by omega) (by decide) ?_
      refine nq_imul dL_law_500 ?_
      refine nq_iald dL_law_501 hL3.r2 (by omega) (by decide) ?_
      refine q_iconst (v := (nI 1)) dL_law_502 (by decide) ?_
      refine q_isub dL_law_503 ?_
      refine q_top (nI (1 + ((z / 3) % 8)) - 1) (congrArg (fun q => nI q - 1) hbb) ?_
      refine q_iconst (v := (nI 0)) dL_law_504 (by decide) ?_
      refine q_iconst (v := (nI 0)) dL_law_505 (by decide) ?_
      refine q_iconst (v := (nI 0)) dL_law_506 (by decide) ?_
      refine q_callSW (st := []) [.ref (Q 0), .int (nI 3), .int (nI (1 + ((z / 3) % 8)) - 1), .int (nI 0), .int (nI 0), .int (nI 0)] (bc + 680) (bs + 13600) dL_law_507 kL_act nL_act lRL_88 (L_clause (d := 2) hL3 hI (b := 1 + ((z / 3) % 8)) (by omega) (by omega)) rfl rfl (Nat.le_of_ble_eq_true rfl) (by omega) (by omega) ?_
      intro r G5 hr
      obtain ⟨rfl, hL6⟩ := hr
      show WL X mL_law _ _ _ _ _ _ _ 510 [(13, .int (nI z)), (12, .int (nI c)), (11, .int (nI y)), (9, .int (nI x)), (8, .int (nI t)), (7, .int (nI 1)), (0, .ref X.1), (1, .ref (Q 0)), (2, .ref (Q 1)), (3, .ref (Q 2)), (4, .ref (Q 3)), (5, .ref (Q 4)), (6, .ref (Q 5))] [.int (nI (A 9 0))]
      refine q_aload_n dL_law_510 rfl 8 rfl ?_
      refine q_iconst (v := (nI 1)) dL_law_511 (by decide) ?_
      refine nq_iald dL_law_512 hL6.r1 (by omega) (by decide) ?_
      refine nq_icmp_ne 520 dL_law_513 (by decide) (by omega) (by omega) (fun c7 => absurd c7 (by omega)) (fun c7 => ?_)
      refine q_iconst (v := (nI 1)) dL_law_516 (by decide) ?_
      refine q_goto 521 dL_law_517 (by decide) ?_
      refine q_istore [(7, .int (nI 1)), (13, .int (nI z)), (12, .int (nI c)), (11, .int (nI y)), (9, .int (nI x)), (8, .int (nI t)), (0, .ref X.1), (1, .ref (Q 0)), (2, .ref (Q 1)), (3, .ref (Q 2)), (4, .ref (Q 3)), (5, .ref (Q 4)), (6, .ref (Q 5))] dL_law_521 (by decide) rfl ?_
      refine q_aload_n dL_law_523 rfl 8 rfl ?_
      refine q_iconst (v := (nI 1)) dL_law_524 (by decide) ?_
      refine q_dup2 dL_law_525 rfl rfl ?_
      refine nq_iald dL_law_526 hL6.r1 (by omega) (by decide) ?_
      refine q_iconst (v := (nI 1)) dL_law_527 (by decide) ?_
      refine nq_iadd dL_law_528 ?_
      refine nq_iast dL_law_529 hL6.r1 (by omega) (by decide) ?_
      have hL8 := hL6.w1 (j := 1) (v := ((setA B 2 (7 * (B 1 1)) (1 + ((z / 3) % 8))) 1 1) + 1) (by omega)
      have hb9 : (setA (setA B 2 (7 * (B 1 1)) (1 + ((z / 3) % 8))) 1 1 (((setA B 2 (7 * (B 1 1)) (1 + ((z / 3) % 8))) 1 1) + 1)) 1 1 = ((setA B 2 (7 * (B 1 1)) (1 + ((z / 3) % 8))) 1 1) + 1 := setA_s
      refine q_goto 1445 dL_law_530 (by decide) ?_
      exact WL.loc [3, 4, 5, 0, 6, 7, 8, 9, 10, 11, 12] rfl (WL.bud (by omega) (by omega) (K _ _ _ hL8 (i_clause hI (b := 1 + ((z / 3) % 8)) (by omega) (by omega)) (rl_clause hR (b := 1 + ((z / 3) % 8)) (by omega) (by omega)) (hA)))
    · refine q_iconst (v := (nI 0)) dL_law_478 (by decide) ?_
      refine q_goto 491 dL_law_479 (by decide) ?_
      refine nq_iast dL_law_491 hL.r2 (by omega) (by decide) ?_
      have hL10 := hL.w2 (j := 7 * (B 1 1)) (v := 0) (by omega)
      have hb11 : (setA B 2 (7 * (B 1 1)) 0) 2 (7 * (B 1 1)) = 0 := setA_s
      have hbx : (setA B 2 (7 * (B 1 1)) 0) 1 1 = B 1 1 := setA_f (by decide)
      have hbb : (setA B 2 (7 * (B 1 1)) 0) 2 (7 * (setA B 2 (7 * (B 1 1)) 0) 1 1) = 0 := by rw [hbx]; exact setA_s
      refine q_aload_n dL_law_492 rfl 7 rfl ?_
      refine q_iconst (v := (nI 3)) dL_law_493 (by decide) ?_
      refine q_aload_n dL_law_494 rfl 9 rfl ?_
      refine q_bipush (v := (nI 7)) dL_law_495 (by decide) ?_
      refine q_aload_n dL_law_497 rfl 8 rfl ?_
      refine q_iconst (v := (nI 1)) dL_law_498 (by decide) ?_
      refine nq_iald dL_law_499 hL10.r1 (by omega) (by decide) ?_
      refine nq_imul dL_law_500 ?_
      refine nq_iald dL_law_501 hL10.r2 (by omega) (by decide) ?_
      refine q_iconst (v := (nI 1)) dL_law_502 (by decide) ?_
      refine q_isub dL_law_503 ?_
      refine q_top (nI (0) - 1) (congrArg (fun q => nI q - 1) hbb) ?_
      refine q_iconst (v := (nI 0)) dL_law_504 (by decide) ?_
      refine q_iconst (v := (nI 0)) dL_law_505 (by decide) ?_
      refine q_iconst (v := (nI 0)) dL_law_506 (by decide) ?_
      refine q_callSW (st := []) [.ref (Q 0), .int (nI 3), .int (nI (0) - 1), .int (nI 0), .int (nI 0), .int (nI 0)] (bc + 680) (bs + 13600) dL_law_507 kL_act nL_act lRL_88 (L_clause (d := 2) hL10 hI (b := 0) (by omega) (by omega)) rfl rfl (Nat.le_of_ble_eq_true rfl) (by omega) (by omega) ?_
      intro r G12 hr
      obtain ⟨rfl, hL13⟩ := hr
      show WL X mL_law _ _ _ _ _ _ _ 510 [(13, .int (nI z)), (12, .int (nI c)), (11, .int (nI y)), (9, .int (nI x)), (8, .int (nI t)), (7, .int (nI 1)), (0, .ref X.1), (1, .ref (Q 0)), (2, .ref (Q 1)), (3, .ref (Q 2)), (4, .ref (Q 3)), (5, .ref (Q 4)), (6, .ref (Q 5))] [.int (nI (A 9 0))]
      refine q_aload_n dL_law_510 rfl 8 rfl ?_
      refine q_iconst (v := (nI 1)) dL_law_511 (by decide) ?_
      refine nq_iald dL_law_512 hL13.r1 (by omega) (by decide) ?_
      refine nq_icmp_ne 520 dL_law_513 (by decide) (by omega) (by omega) (fun c14 => absurd c14 (by omega)) (fun c14 => ?_)
      refine q_iconst (v := (nI 1)) dL_law_516 (by decide) ?_
      refine q_goto 521 dL_law_517 (by decide) ?_
      refine q_istore [(7, .int (nI 1)), (13, .int (nI z)), (12, .int (nI c)), (11, .int (nI y)), (9, .int (nI x)), (8, .int (nI t)), (0, .ref X.1), (1, .ref (Q 0)), (2, .ref (Q 1)), (3, .ref (Q 2)), (4, .ref (Q 3)), (5, .ref (Q 4)), (6, .ref (Q 5))] dL_law_521 (by decide) rfl ?_
      refine q_aload_n dL_law_523 rfl 8 rfl ?_
      refine q_iconst (v := (nI 1)) dL_law_524 (by decide) ?_
      refine q_dup2 dL_law_525 rfl rfl ?_
      refine nq_iald dL_law_526 hL13.r1 (by omega) (by decide) ?_
      refine q_iconst (v := (nI 1)) dL_law_527 (by decide) ?_
      refine nq_iadd dL_law_528 ?_
      refine nq_iast dL_law_529 hL13.r1 (by omega) (by decide) ?_
      have hL15 := hL13.w1 (j := 1) (v := ((setA B 2 (7 * (B 1 1)) 0) 1 1) + 1) (by omega)
      have hb16 : (setA (setA B 2 (7 * (B 1 1)) 0) 1 1 (((setA B 2 (7 * (B 1 1)) 0) 1 1) + 1)) 1 1 = ((setA B 2 (7 * (B 1 1)) 0) 1 1) + 1 := setA_s
      refine q_goto 1445 dL_law_530 (by decide) ?_
      exact WL.loc [3, 4, 5, 0, 6, 7, 8, 9, 10, 11, 12] rfl (WL.bud (by omega) (by omega) (K _ _ _ hL15 (i_clause hI (b := 0) (by omega) (by omega)) (rl_clause hR (b := 0) (by omega) (by omega)) (hA)))
set_option maxRecDepth 100000 in
set_option maxHeartbeats 4000000 in
theorem la_text {X : SX} {b0 : Nat} {Q : Nat → Nat} {bc bs : Nat} {A B : ST} {G : GH} (hL : LW Q A B G) (hI : Inv A) (hR : Rl A B) (hA : Ap A) {t x y c z : Nat} (hx : x < 2 ^ 31) (hy : y < 2 ^ 31) (hz : z < 2 ^ 31) (hc : c < A 9 0) (K : LK X b0 Q bc bs t x y) : WL X mL_law 12 b0 (fun r _ => r = some (.int 1)) NoX G (bc + 700) (bs + 14000) 546 [(13, .int (nI z)), (12, .int (nI c)), (11, .int (nI y)), (9, .int (nI x)), (8, .int (nI t)), (7, .int (nI 1)), (0, .ref X.1), (1, .ref (Q 0)), (2, .ref (Q 1)), (3, .ref (Q 2)), (4, .ref (Q 3)), (5, .ref (Q 4)), (6, .ref (Q 5))] [] := by
  have hm0 := hR.m0
  have hm1 := hR.m1
  have hm2 := hR.m2
  have hm3 := hR.m3
  have hm4 := hR.m4
  have hn9 := hR.n9
  have hb0 := hI.b0
  have hb2 := hI.b2
  have hb15 := hI.b15
  have hb18 := hI.b18
  refine q_aload_n dL_law_546 rfl 7 rfl ?_
  refine q_aload_n dL_law_547 rfl 8 rfl ?_
  refine q_iload dL_law_548 0 rfl ?_
  refine q_callS (st := []) [.ref (Q 0), .ref (Q 1), .int (nI z)] (bc + 100) (bs + 2000) dL_law_550 kL_types nL_types lRL_131 (l_types (d := 1) hL hI hR hz) rfl rfl (Nat.le_of_ble_eq_true rfl) (by omega) (by omega) ?_
  intro r G1 hr
  obtain ⟨rfl, A2, B2, hL2, hI2, hR2, hK2⟩ := hr
  show WL X mL_law _ _ _ _ _ _ _ 553 [(13, .int (nI z)), (12, .int (nI c)), (11, .int (nI y)), (9, .int (nI x)), (8, .int (nI t)), (7, .int (nI 1)), (0, .ref X.1), (1, .ref (Q 0)), (2, .ref (Q 1)), (3, .ref (Q 2)), (4, .ref (Q 3)), (5, .ref (Q 4)), (6, .ref (Q 5))] [.int (nI 1)]
  have k9 : A2 9 0 = A 9 0 := by rw [hK2.e 9]
  have hA2 := hA.kp hK2
  have q24 := hR2.m4
  have hn92 := hR2.n9
  have hb02 := hI2.b0
  refine q_istore [(7, .int (nI 1)), (13, .int (nI z)), (12, .int (nI c)), (11, .int (nI y)), (9, .int (nI x)), (8, .int (nI t)), (0, .ref X.1), (1, .ref (Q 0)), (2, .ref (Q 1)), (3, .ref (Q 2)), (4, .ref (Q 3)), (5, .ref (Q 4)), (6, .ref (Q 5))] dL_law_553 (by decide) rfl ?_
  refine q_aload_n dL_law_555 rfl 7 rfl ?_
  obtain ⟨fshq3, hq3⟩ := hL2.r0
  refine q_callV (st := []) [] (bc + 80) (bs + 1600) dL_law_556 kX8_fault nX8_fault lRL_83 hq3 rfl (L_fault (d := 3) hL2 hI2) rfl rfl (Nat.le_of_ble_eq_true rfl) (by omega) (by omega) ?_
  intro r G4 hr
  obtain ⟨rfl, hL5⟩ := hr
  show WL X mL_law _ _ _ _ _ _ _ 559 [(7, .int (nI 1)), (13, .int (nI z)), (12, .int (nI c)), (11, .int (nI y)), (9, .int (nI x)), (8, .int (nI t)), (0, .ref X.1), (1, .ref (Q 0)), (2, .ref (Q 1)), (3, .ref (Q 2)), (4, .ref (Q 3)), (5, .ref (Q 4)), (6, .ref (Q 5))] [.int (ffS (rg A2 1 0 60) (A2 0 0))]
  rcases ffS_r (rg A2 1 0 60) (A2 0 0) with hf | ⟨q, hq, hf⟩
  · refine q_top (-1) hf ?_
    have hne : A2 0 0 ≠ 0 := fun q => by
      rw [q, ffS_0] at hf; exact nI_nm (by decide) hf
    have htl := told_le hI2 hf
    refine q_istore [(14, .int (-1)), (7, .int (nI 1)), (13, .int (nI z)), (12, .int (nI c)), (11, .int (nI y)), (9, .int (nI x)), (8, .int (nI t)), (0, .ref X.1), (1, .ref (Q 0)), (2, .ref (Q 1)), (3, .ref (Q 2)), (4, .ref (Q 3)), (5, .ref (Q 4)), (6, .ref (Q 5))] dL_law_559 (by decide) rfl ?_
    refine q_aload_n dL_law_561 rfl 8 rfl ?_
    refine q_iconst (v := (nI 4)) dL_law_562 (by decide) ?_
    refine q_iload dL_law_563 3 rfl ?_
    refine q_iload dL_law_565 2 rfl ?_
    refine q_iconst (v := (nI 3)) dL_law_567 (by decide) ?_
    refine nq_irem dL_law_568 (by omega) (by omega) (by omega) ?_
    refine q_iconst (v := (nI 0)) dL_law_569 (by decide) ?_
    refine q_iconst (v := (nI 0)) dL_law_570 (by decide) ?_
    refine q_callSW (st := []) [.ref (Q 0), .int (nI 4), .int (nI c), .int (nI (z % 3)), .int (nI 0), .int (nI 0)] (bc + 60) (bs + 1200) dL_law_571 kL_act nL_act lRL_88 (L_text (d := 2) hL5 hI2 (c := c) (l := z % 3) (by omega) (by omega) hf) rfl rfl (Nat.le_of_ble_eq_true rfl) (by omega) (by omega) ?_
    intro r G6 hr
    obtain ⟨rfl, hL7⟩ := hr
    show WL X mL_law _ _ _ _ _ _ _ 574 [(14, .int (-1)), (7, .int (nI 1)), (13, .int (nI z)), (12, .int (nI c)), (11, .int (nI y)), (9, .int (nI x)), (8, .int (nI t)), (0, .ref X.1), (1, .ref (Q 0)), (2, .ref (Q 1)), (3, .ref (Q 2)), (4, .ref (Q 3)), (5, .ref (Q 4)), (6, .ref (Q 5))] [.int (nI (cntB (slB (rg A2 1 0 60) (A2 0 0)) (A2 0 0)))]
    refine q_istore [(15, .int (nI (cntB (slB (rg A2 1 0 60) (A2 0 0)) (A2 0 0)))), (14, .int (-1)), (7, .int (nI 1)), (13, .int (nI z)), (12, .int (nI c)), (11, .int (nI y)), (9, .int (nI x)), (8, .int (nI t)), (0, .ref X.1), (1, .ref (Q 0)), (2, .ref (Q 1)), (3, .ref (Q 2)), (4, .ref (Q 3)), (5, .ref (Q 4)), (6, .ref (Q 5))] dL_law_574 (by decide) rfl ?_
    refine q_iload dL_law_576 2 rfl ?_
    refine nq_if_eq 613 dL_law_578 (by decide) (by omega) (fun c8 => absurd c8 (by decide)) (fun c8 => ?_)
    refine q_iload dL_law_581 1 rfl ?_
    refine q_iconst (v := (-1)) dL_law_583 (by decide) ?_
    refine q_icmp_ne 602 dL_law_584 (by decide) (fun c9 => absurd c9 (fun q => q rfl)) (fun c9 => ?_)
    refine q_iload dL_law_587 0 rfl ?_
    refine nq_if_lt 613 dL_law_589 (by decide) (by omega) (fun c10 => absurd c10 (by omega)) (fun c10 => ?_)
    refine q_iload dL_law_592 0 rfl ?_
    refine q_bipush (v := (nI 12)) dL_law_594 (by decide) ?_
    refine nq_icmp_gt 613 dL_law_596 (by decide) (by omega) (by omega) (fun c11 => absurd c11 (by omega)) (fun c11 => ?_)
    refine q_goto 609 dL_law_599 (by decide) ?_
    refine q_iconst (v := (nI 1)) dL_law_609 (by decide) ?_
    refine q_goto 614 dL_law_610 (by decide) ?_
    refine q_istore [(7, .int (nI 1)), (15, .int (nI (cntB (slB (rg A2 1 0 60) (A2 0 0)) (A2 0 0)))), (14, .int (-1)), (13, .int (nI z)), (12, .int (nI c)), (11, .int (nI y)), (9, .int (nI x)), (8, .int (nI t)), (0, .ref X.1), (1, .ref (Q 0)), (2, .ref (Q 1)), (3, .ref (Q 2)), (4, .ref (Q 3)), (5, .ref (Q 4)), (6, .ref (Q 5))] dL_law_614 (by decide) rfl ?_
    refine q_iload dL_law_616 1 rfl ?_
    refine nq_if_lt 655 dL_law_618 (by decide) (by omega) (fun c12 => absurd c12 (by omega)) (fun c12 => ?_)
    refine q_aload_n dL_law_621 rfl 11 rfl ?_
    refine q_bipush (v := (nI 7)) dL_law_622 (by decide) ?_
    refine q_iload dL_law_624 4 rfl ?_
    refine nq_imul dL_law_626 ?_
    refine q_iconst (v := (nI 1)) dL_law_627 (by decide) ?_
    refine nq_iadd dL_law_628 ?_
    refine q_iload dL_law_629 3 rfl ?_
    refine q_iconst (v := (nI 3)) dL_law_631 (by decide) ?_
    refine nq_irem dL_law_632 (by omega) (by omega) (by omega) ?_
    refine nq_iadd dL_law_633 ?_
    refine q_iconst (v := (nI 1)) dL_law_634 (by decide) ?_
    refine nq_iast dL_law_635 hL7.r2 (by omega) (by decide) ?_
    have hL13 := hL7.w2 (j := ((7 * c) + 1) + (z % 3)) (v := 1) (by omega)
    have hb14 : (setA B2 2 (((7 * c) + 1) + (z % 3)) 1) 2 (((7 * c) + 1) + (z % 3)) = 1 := setA_s
    refine q_aload_n dL_law_636 rfl 11 rfl ?_
    refine q_bipush (v := (nI 7)) dL_law_637 (by decide) ?_
    refine q_iload dL_law_639 4 rfl ?_
    refine nq_imul dL_law_641 ?_
    refine q_iconst (v := (nI 4)) dL_law_642 (by decide) ?_
    refine nq_iadd dL_law_643 ?_
    refine q_iload dL_law_644 3 rfl ?_
    refine q_iconst (v := (nI 3)) dL_law_646 (by decide) ?_
    refine nq_irem dL_law_647 (by omega) (by omega) (by omega) ?_
    refine nq_iadd dL_law_648 ?_
    refine q_iconst (v := (nI 0)) dL_law_649 (by decide) ?_
    refine nq_iast dL_law_650 hL13.r2 (by omega) (by decide) ?_
    have hL15 := hL13.w2 (j := ((7 * c) + 4) + (z % 3)) (v := 0) (by omega)
    have hb16 : (setA (setA B2 2 (((7 * c) + 1) + (z % 3)) 1) 2 (((7 * c) + 4) + (z % 3)) 0) 2 (((7 * c) + 4) + (z % 3)) = 0 := setA_s
    refine q_aload_n dL_law_651 rfl 10 rfl ?_
    refine q_iconst (v := (nI 4)) dL_law_652 (by decide) ?_
    refine q_iconst (v := (nI 0)) dL_law_653 (by decide) ?_
    refine nq_iast dL_law_654 hL15.r1 (by omega) (by decide) ?_
    have hL17 := hL15.w1 (j := 4) (v := 0) (by omega)
    have hb18 : (setA (setA (setA B2 2 (((7 * c) + 1) + (z % 3)) 1) 2 (((7 * c) + 4) + (z % 3)) 0) 1 4 0) 1 4 = 0 := setA_s
    refine q_goto 1445 dL_law_655 (by decide) ?_
    exact WL.loc [5, 6, 7, 0, 8, 9, 10, 11, 12, 13, 14] rfl (WL.bud (by omega) (by omega) (K _ _ _ hL17 (i_text hI2 (t := 3 * c + z % 3) (by omega) hf) (rl_text hR2 (c := c) (g := z % 3) (by omega) (by omega) hne (by omega) (by omega)) (ap_text hA2 hne)))
  · refine q_top (nI q) hf ?_
    refine q_istore [(14, .int (nI q)), (7, .int (nI 1)), (13, .int (nI z)), (12, .int (nI c)), (11, .int (nI y)), (9, .int (nI x)), (8, .int (nI t)), (0, .ref X.1), (1, .ref (Q 0)), (2, .ref (Q 1)), (3, .ref (Q 2)), (4, .ref (Q 3)), (5, .ref (Q 4)), (6, .ref (Q 5))] dL_law_559 (by decide) rfl ?_
    refine q_aload_n dL_law_561 rfl 8 rfl ?_
    refine q_iconst (v := (nI 4)) dL_law_562 (by decide) ?_
    refine q_iload dL_law_563 3 rfl ?_
    refine q_iload dL_law_565 2 rfl ?_
    refine q_iconst (v := (nI 3)) dL_law_567 (by decide) ?_
    refine nq_irem dL_law_568 (by omega) (by omega) (by omega) ?_
    refine q_iconst (v := (nI 0)) dL_law_569 (by decide) ?_
    refine q_iconst (v := (nI 0)) dL_law_570 (by decide) ?_
    refine q_callSW (st := []) [.ref (Q 0), .int (nI 4), .int (nI c), .int (nI (z % 3)), .int (nI 0), .int (nI 0)] (bc + 60) (bs + 1200) dL_law_571 kL_act nL_act lRL_88 (R_text_2 (d := 2) hL5 hI2 (c := c) (l := z % 3) (by omega) (by omega) (by rw [hf]; exact nI_nm (by omega))) rfl rfl (Nat.le_of_ble_eq_true rfl) (by omega) (by omega) ?_
    refine ql_det (st2 := [.int (-1663000)]) rfl ?_
    refine q_istore [(15, .int (-1663000)), (14, .int (nI q)), (7, .int (nI 1)), (13, .int (nI z)), (12, .int (nI c)), (11, .int (nI y)), (9, .int (nI x)), (8, .int (nI t)), (0, .ref X.1), (1, .ref (Q 0)), (2, .ref (Q 1)), (3, .ref (Q 2)), (4, .ref (Q 3)), (5, .ref (Q 4)), (6, .ref (Q 5))] dL_law_574 (by decide) rfl ?_
    refine q_iload dL_law_576 2 rfl ?_
    refine nq_if_eq 613 dL_law_578 (by decide) (by omega) (fun c19 => absurd c19 (by decide)) (fun c19 => ?_)
    refine q_iload dL_law_581 1 rfl ?_
    refine q_iconst (v := (-1)) dL_law_583 (by decide) ?_
    refine q_icmp_ne 602 dL_law_584 (by decide) (fun c20 => ?_) (fun c20 => absurd c20 (nI_nm (by omega)))
    refine q_iload dL_law_602 0 rfl ?_
    refine q_ldc dL_law_604 con_82 ?_
    refine q_icmp_ne 613 dL_law_606 (by decide) (fun c21 => absurd c21 (fun q => q rfl)) (fun c21 => ?_)
    refine q_iconst (v := (nI 1)) dL_law_609 (by decide) ?_
    refine q_goto 614 dL_law_610 (by decide) ?_
    refine q_istore [(7, .int (nI 1)), (15, .int (-1663000)), (14, .int (nI q)), (13, .int (nI z)), (12, .int (nI c)), (11, .int (nI y)), (9, .int (nI x)), (8, .int (nI t)), (0, .ref X.1), (1, .ref (Q 0)), (2, .ref (Q 1)), (3, .ref (Q 2)), (4, .ref (Q 3)), (5, .ref (Q 4)), (6, .ref (Q 5))] dL_law_614 (by decide) rfl ?_
    refine q_iload dL_law_616 1 rfl ?_
    refine q_if_lt 655 dL_law_618 (by decide) (fun c22 => ?_) (fun c22 => absurd c22 (fun q => q (by decide)))
    refine q_goto 1445 dL_law_655 (by decide) ?_
    exact WL.loc [5, 6, 7, 0, 8, 9, 10, 11, 12, 13, 14] rfl (WL.bud (by omega) (by omega) (K _ _ _ hL5 (hI2) (hR2) (hA2)))
set_option maxRecDepth 100000 in
set_option maxHeartbeats 4000000 in
theorem la_approve {X : SX} {b0 : Nat} {Q : Nat → Nat} {bc bs : Nat} {A B : ST} {G : GH} (hL : LW Q A B G) (hI : Inv A) (hR : Rl A B) (hA : Ap A) {t x y c z : Nat} (hx : x < 2 ^ 31) (hy : y < 2 ^ 31) (hz : z < 2 ^ 31) (hc : c < A 9 0) (K : LK X b0 Q bc bs t x y) : WL X mL_law 12 b0 (fun r _ => r = some (.int 1)) NoX G (bc + 700) (bs + 14000) 678 [(13, .int (nI z)), (12, .int (nI c)), (11, .int (nI y)), (9, .int (nI x)), (8, .int (nI t)), (7, .int (nI 1)), (0, .ref X.1), (1, .ref (Q 0)), (2, .ref (Q 1)), (3, .ref (Q 2)), (4, .ref (Q 3)), (5, .ref (Q 4)), (6, .ref (Q 5))] [] := by
  have hm0 := hR.m0
  have hm1 := hR.m1
  have hm2 := hR.m2
  have hm3 := hR.m3
  have hm4 := hR.m4
  have hn9 := hR.n9
  have hb0 := hI.b0
  have hb2 := hI.b2
  have hb15 := hI.b15
  have hb18 := hI.b18
  have ea := (hI.tx (3 * c + z % 3) (by omega)).2.1
  have ec1 := hR.c1 (k := c) (g := z % 3) (by omega) (by omega)
  have ec4 := hR.c4 (k := c) (g := z % 3) (by omega) (by omega)
  have et : (B 2 (7 * c + 1 + z % 3) = 0 ↔ A 12 (3 * c + z % 3) = 0) ∧ B 2 (7 * c + 1 + z % 3) ≤ 1 := by
    rw [ec1]; split
    · exact ⟨by simp [*], by omega⟩
    · exact ⟨by simp [*], by omega⟩
  have e4 : B 2 (7 * c + 1 + z % 3 + 3) = A 13 (3 * c + z % 3) := by rw [show 7 * c + 1 + z % 3 + 3 = 7 * c + 4 + z % 3 by omega]; exact ec4
  rcases (show A 12 (3 * c + z % 3) = 0 ∨ (A 12 (3 * c + z % 3) ≠ 0 ∧ A 13 (3 * c + z % 3) = 0) ∨ (A 12 (3 * c + z % 3) ≠ 0 ∧ A 13 (3 * c + z % 3) = 1) by omega) with h12 | ⟨h12, h13⟩ | ⟨h12, h13⟩
  · refine q_bipush (v := (nI 7)) dL_law_678 (by decide) ?_
    refine q_iload dL_law_680 1 rfl ?_
    refine nq_imul dL_law_682 ?_
    refine q_iconst (v := (nI 1)) dL_law_683 (by decide) ?_
    refine nq_iadd dL_law_684 ?_
    refine q_iload dL_law_685 0 rfl ?_
    refine q_iconst (v := (nI 3)) dL_law_687 (by decide) ?_
    refine nq_irem dL_law_688 (by omega) (by omega) (by omega) ?_
    refine nq_iadd dL_law_689 ?_
    refine q_istore [(14, .int (nI (((7 * c) + 1) + (z % 3)))), (13, .int (nI z)), (12, .int (nI c)), (11, .int (nI y)), (9, .int (nI x)), (8, .int (nI t)), (7, .int (nI 1)), (0, .ref X.1), (1, .ref (Q 0)), (2, .ref (Q 1)), (3, .ref (Q 2)), (4, .ref (Q 3)), (5, .ref (Q 4)), (6, .ref (Q 5))] dL_law_690 (by decide) rfl ?_
    refine q_aload_n dL_law_692 rfl 8 rfl ?_
    refine q_iconst (v := (nI 5)) dL_law_693 (by decide) ?_
    refine q_iload dL_law_694 2 rfl ?_
    refine q_iload dL_law_696 1 rfl ?_
    refine q_iconst (v := (nI 3)) dL_law_698 (by decide) ?_
    refine nq_irem dL_law_699 (by omega) (by omega) (by omega) ?_
    refine q_iconst (v := (nI 0)) dL_law_700 (by decide) ?_
    refine q_iconst (v := (nI 0)) dL_law_701 (by decide) ?_
    refine q_callSW (st := []) [.ref (Q 0), .int (nI 5), .int (nI c), .int (nI (z % 3)), .int (nI 0), .int (nI 0)] (bc + 680) (bs + 13600) dL_law_702 kL_act nL_act lRL_88 (R_approve_2 (d := 2) hL hI hc (by omega) (by omega)) rfl rfl (Nat.le_of_ble_eq_true rfl) (by omega) (by omega) ?_
    refine ql_det (st2 := [.int (-1663000)]) rfl ?_
    refine q_aload_n dL_law_705 rfl 10 rfl ?_
    refine q_iload dL_law_706 0 rfl ?_
    refine nq_iald dL_law_708 hL.r2 (by omega) (by decide) ?_
    refine nq_if_ne 717 dL_law_709 (by decide) (by omega) (fun c1 => absurd c1 (by omega)) (fun c1 => ?_)
    refine q_ldc dL_law_712 con_82 ?_
    refine q_goto 725 dL_law_714 (by decide) ?_
    refine q_icmp_ne 732 dL_law_725 (by decide) (fun c2 => absurd c2 (fun q => q rfl)) (fun c2 => ?_)
    refine q_iconst (v := (nI 1)) dL_law_728 (by decide) ?_
    refine q_goto 733 dL_law_729 (by decide) ?_
    refine q_istore [(7, .int (nI 1)), (14, .int (nI (((7 * c) + 1) + (z % 3)))), (13, .int (nI z)), (12, .int (nI c)), (11, .int (nI y)), (9, .int (nI x)), (8, .int (nI t)), (0, .ref X.1), (1, .ref (Q 0)), (2, .ref (Q 1)), (3, .ref (Q 2)), (4, .ref (Q 3)), (5, .ref (Q 4)), (6, .ref (Q 5))] dL_law_733 (by decide) rfl ?_
    refine q_aload_n dL_law_735 rfl 10 rfl ?_
    refine q_iload dL_law_736 1 rfl ?_
    refine q_iconst (v := (nI 3)) dL_law_738 (by decide) ?_
    refine nq_iadd dL_law_739 ?_
    refine q_aload_n dL_law_740 rfl 10 rfl ?_
    refine q_iload dL_law_741 1 rfl ?_
    refine nq_iald dL_law_743 hL.r2 (by omega) (by decide) ?_
    refine nq_if_ne 751 dL_law_744 (by decide) (by omega) (fun c3 => absurd c3 (by omega)) (fun c3 => ?_)
    refine q_iconst (v := (nI 0)) dL_law_747 (by decide) ?_
    refine q_goto 752 dL_law_748 (by decide) ?_
    refine nq_iast dL_law_752 hL.r2 (by omega) (by decide) ?_
    have hL4 := hL.w2 (j := (((7 * c) + 1) + (z % 3)) + 3) (v := 0) (by omega)
    have hb5 : (setA B 2 ((((7 * c) + 1) + (z % 3)) + 3) 0) 2 ((((7 * c) + 1) + (z % 3)) + 3) = 0 := setA_s
    refine q_goto 1445 dL_law_753 (by decide) ?_
    exact WL.loc [4, 5, 6, 0, 7, 8, 9, 10, 11, 12, 13] rfl (WL.bud (by omega) (by omega) (K _ _ _ hL4 (hI) (rl_ap0 hR hc (g := z % 3) (by omega) (hA (3 * c + z % 3) (by omega) h12) (by omega)) (hA)))
  · refine q_bipush (v := (nI 7)) dL_law_678 (by decide) ?_
    refine q_iload dL_law_680 1 rfl ?_
    refine nq_imul dL_law_682 ?_
    refine q_iconst (v := (nI 1)) dL_law_683 (by decide) ?_
    refine nq_iadd dL_law_684 ?_
    refine q_iload dL_law_685 0 rfl ?_
    refine q_iconst (v := (nI 3)) dL_law_687 (by decide) ?_
    refine nq_irem dL_law_688 (by omega) (by omega) (by omega) ?_
    refine nq_iadd dL_law_689 ?_
    refine q_istore [(14, .int (nI (((7 * c) + 1) + (z % 3)))), (13, .int (nI z)), (12, .int (nI c)), (11, .int (nI y)), (9, .int (nI x)), (8, .int (nI t)), (7, .int (nI 1)), (0, .ref X.1), (1, .ref (Q 0)), (2, .ref (Q 1)), (3, .ref (Q 2)), (4, .ref (Q 3)), (5, .ref (Q 4)), (6, .ref (Q 5))] dL_law_690 (by decide) rfl ?_
    refine q_aload_n dL_law_692 rfl 8 rfl ?_
    refine q_iconst (v := (nI 5)) dL_law_693 (by decide) ?_
    refine q_iload dL_law_694 2 rfl ?_
    refine q_iload dL_law_696 1 rfl ?_
    refine q_iconst (v := (nI 3)) dL_law_698 (by decide) ?_
    refine nq_irem dL_law_699 (by omega) (by omega) (by omega) ?_
    refine q_iconst (v := (nI 0)) dL_law_700 (by decide) ?_
    refine q_iconst (v := (nI 0)) dL_law_701 (by decide) ?_
    refine q_callSW (st := []) [.ref (Q 0), .int (nI 5), .int (nI c), .int (nI (z % 3)), .int (nI 0), .int (nI 0)] (bc + 680) (bs + 13600) dL_law_702 kL_act nL_act lRL_88 (L_approve0 (d := 2) hL hI hc (by omega) (by omega) h13) rfl rfl (Nat.le_of_ble_eq_true rfl) (by omega) (by omega) ?_
    intro r G6 hr
    obtain ⟨rfl, hL7⟩ := hr
    show WL X mL_law _ _ _ _ _ _ _ 705 [(14, .int (nI (((7 * c) + 1) + (z % 3)))), (13, .int (nI z)), (12, .int (nI c)), (11, .int (nI y)), (9, .int (nI x)), (8, .int (nI t)), (7, .int (nI 1)), (0, .ref X.1), (1, .ref (Q 0)), (2, .ref (Q 1)), (3, .ref (Q 2)), (4, .ref (Q 3)), (5, .ref (Q 4)), (6, .ref (Q 5))] [.int (b2i true)]
    refine q_aload_n dL_law_705 rfl 10 rfl ?_
    refine q_iload dL_law_706 0 rfl ?_
    refine nq_iald dL_law_708 hL7.r2 (by omega) (by decide) ?_
    refine nq_if_ne 717 dL_law_709 (by decide) (by omega) (fun c8 => ?_) (fun c8 => absurd c8 (by omega))
    refine q_iconst (v := (nI 1)) dL_law_717 (by decide) ?_
    refine q_aload_n dL_law_718 rfl 10 rfl ?_
    refine q_iload dL_law_719 0 rfl ?_
    refine q_iconst (v := (nI 3)) dL_law_721 (by decide) ?_
    refine nq_iadd dL_law_722 ?_
    refine nq_iald dL_law_723 hL7.r2 (by omega) (by decide) ?_
    refine nq_isub dL_law_724 (by omega) ?_
    refine q_icmp_ne 732 dL_law_725 (by decide) (fun c9 => absurd c9 (fun q => q (by rw [show 1 - B 2 (7 * c + 1 + z % 3 + 3) = 1 by omega]; rfl))) (fun c9 => ?_)
    refine q_iconst (v := (nI 1)) dL_law_728 (by decide) ?_
    refine q_goto 733 dL_law_729 (by decide) ?_
    refine q_istore [(7, .int (nI 1)), (14, .int (nI (((7 * c) + 1) + (z % 3)))), (13, .int (nI z)), (12, .int (nI c)), (11, .int (nI y)), (9, .int (nI x)), (8, .int (nI t)), (0, .ref X.1), (1, .ref (Q 0)), (2, .ref (Q 1)), (3, .ref (Q 2)), (4, .ref (Q 3)), (5, .ref (Q 4)), (6, .ref (Q 5))] dL_law_733 (by decide) rfl ?_
    refine q_aload_n dL_law_735 rfl 10 rfl ?_
    refine q_iload dL_law_736 1 rfl ?_
    refine q_iconst (v := (nI 3)) dL_law_738 (by decide) ?_
    refine nq_iadd dL_law_739 ?_
    refine q_aload_n dL_law_740 rfl 10 rfl ?_
    refine q_iload dL_law_741 1 rfl ?_
    refine nq_iald dL_law_743 hL7.r2 (by omega) (by decide) ?_
    refine nq_if_ne 751 dL_law_744 (by decide) (by omega) (fun c10 => ?_) (fun c10 => absurd c10 (by omega))
    refine q_iconst (v := (nI 1)) dL_law_751 (by decide) ?_
    refine nq_iast dL_law_752 hL7.r2 (by omega) (by decide) ?_
    have hL11 := hL7.w2 (j := (((7 * c) + 1) + (z % 3)) + 3) (v := 1) (by omega)
    have hb12 : (setA B 2 ((((7 * c) + 1) + (z % 3)) + 3) 1) 2 ((((7 * c) + 1) + (z % 3)) + 3) = 1 := setA_s
    refine q_goto 1445 dL_law_753 (by decide) ?_
    exact WL.loc [4, 5, 6, 0, 7, 8, 9, 10, 11, 12, 13] rfl (WL.bud (by omega) (by omega) (K _ _ _ hL11 (i_approve hI (t := (3 * c + z % 3)) (by omega)) (rl_ap hR hc (g := z % 3) (by omega) (by omega)) (ap_ap hA h12)))
  · refine q_bipush (v := (nI 7)) dL_law_678 (by decide) ?_
    refine q_iload dL_law_680 1 rfl ?_
    refine nq_imul dL_law_682 ?_
    refine q_iconst (v := (nI 1)) dL_law_683 (by decide) ?_
    refine nq_iadd dL_law_684 ?_
    refine q_iload dL_law_685 0 rfl ?_
    refine q_iconst (v := (nI 3)) dL_law_687 (by decide) ?_
    refine nq_irem dL_law_688 (by omega) (by omega) (by omega) ?_
    refine nq_iadd dL_law_689 ?_
    refine q_istore [(14, .int (nI (((7 * c) + 1) + (z % 3)))), (13, .int (nI z)), (12, .int (nI c)), (11, .int (nI y)), (9, .int (nI x)), (8, .int (nI t)), (7, .int (nI 1)), (0, .ref X.1), (1, .ref (Q 0)), (2, .ref (Q 1)), (3, .ref (Q 2)), (4, .ref (Q 3)), (5, .ref (Q 4)), (6, .ref (Q 5))] dL_law_690 (by decide) rfl ?_
    refine q_aload_n dL_law_692 rfl 8 rfl ?_
    refine q_iconst (v := (nI 5)) dL_law_693 (by decide) ?_
    refine q_iload dL_law_694 2 rfl ?_
    refine q_iload dL_law_696 1 rfl ?_
    refine q_iconst (v := (nI 3)) dL_law_698 (by decide) ?_
    refine nq_irem dL_law_699 (by omega) (by omega) (by omega) ?_
    refine q_iconst (v := (nI 0)) dL_law_700 (by decide) ?_
    refine q_iconst (v := (nI 0)) dL_law_701 (by decide) ?_
    refine q_callSW (st := []) [.ref (Q 0), .int (nI 5), .int (nI c), .int (nI (z % 3)), .int (nI 0), .int (nI 0)] (bc + 680) (bs + 13600) dL_law_702 kL_act nL_act lRL_88 (L_approve1 (d := 2) hL hI hc (by omega) (by omega) (by omega)) rfl rfl (Nat.le_of_ble_eq_true rfl) (by omega) (by omega) ?_
    intro r G13 hr
    obtain ⟨rfl, hL14⟩ := hr
    show WL X mL_law _ _ _ _ _ _ _ 705 [(14, .int (nI (((7 * c) + 1) + (z % 3)))), (13, .int (nI z)), (12, .int (nI c)), (11, .int (nI y)), (9, .int (nI x)), (8, .int (nI t)), (7, .int (nI 1)), (0, .ref X.1), (1, .ref (Q 0)), (2, .ref (Q 1)), (3, .ref (Q 2)), (4, .ref (Q 3)), (5, .ref (Q 4)), (6, .ref (Q 5))] [.int (b2i false)]
    refine q_aload_n dL_law_705 rfl 10 rfl ?_
    refine q_iload dL_law_706 0 rfl ?_
    refine nq_iald dL_law_708 hL14.r2 (by omega) (by decide) ?_
    refine nq_if_ne 717 dL_law_709 (by decide) (by omega) (fun c15 => ?_) (fun c15 => absurd c15 (by omega))
    refine q_iconst (v := (nI 1)) dL_law_717 (by decide) ?_
    refine q_aload_n dL_law_718 rfl 10 rfl ?_
    refine q_iload dL_law_719 0 rfl ?_
    refine q_iconst (v := (nI 3)) dL_law_721 (by decide) ?_
    refine nq_iadd dL_law_722 ?_
    refine nq_iald dL_law_723 hL14.r2 (by omega) (by decide) ?_
    refine nq_isub dL_law_724 (by omega) ?_
    refine q_icmp_ne 732 dL_law_725 (by decide) (fun c16 => absurd c16 (fun q => q (by rw [show 1 - B 2 (7 * c + 1 + z % 3 + 3) = 0 by omega]; rfl))) (fun c16 => ?_)
    refine q_iconst (v := (nI 1)) dL_law_728 (by decide) ?_
    refine q_goto 733 dL_law_729 (by decide) ?_
    refine q_istore [(7, .int (nI 1)), (14, .int (nI (((7 * c) + 1) + (z % 3)))), (13, .int (nI z)), (12, .int (nI c)), (11, .int (nI y)), (9, .int (nI x)), (8, .int (nI t)), (0, .ref X.1), (1, .ref (Q 0)), (2, .ref (Q 1)), (3, .ref (Q 2)), (4, .ref (Q 3)), (5, .ref (Q 4)), (6, .ref (Q 5))] dL_law_733 (by decide) rfl ?_
    refine q_aload_n dL_law_735 rfl 10 rfl ?_
    refine q_iload dL_law_736 1 rfl ?_
    refine q_iconst (v := (nI 3)) dL_law_738 (by decide) ?_
    refine nq_iadd dL_law_739 ?_
    refine q_aload_n dL_law_740 rfl 10 rfl ?_
    refine q_iload dL_law_741 1 rfl ?_
    refine nq_iald dL_law_743 hL14.r2 (by omega) (by decide) ?_
    refine nq_if_ne 751 dL_law_744 (by decide) (by omega) (fun c17 => ?_) (fun c17 => absurd c17 (by omega))
    refine q_iconst (v := (nI 1)) dL_law_751 (by decide) ?_
    refine nq_iast dL_law_752 hL14.r2 (by omega) (by decide) ?_
    have hL18 := hL14.w2 (j := (((7 * c) + 1) + (z % 3)) + 3) (v := 1) (by omega)
    have hb19 : (setA B 2 ((((7 * c) + 1) + (z % 3)) + 3) 1) 2 ((((7 * c) + 1) + (z % 3)) + 3) = 1 := setA_s
    refine q_goto 1445 dL_law_753 (by decide) ?_
    exact WL.loc [4, 5, 6, 0, 7, 8, 9, 10, 11, 12, 13] rfl (WL.bud (by omega) (by omega) (K _ _ _ hL18 (i_approve hI (t := (3 * c + z % 3)) (by omega)) (rl_ap hR hc (g := z % 3) (by omega) (by omega)) (ap_ap hA h12)))
set_option maxRecDepth 100000 in
set_option maxHeartbeats 4000000 in
theorem la_relate {X : SX} {b0 : Nat} {Q : Nat → Nat} {bc bs : Nat} {A B : ST} {G : GH} (hL : LW Q A B G) (hI : Inv A) (hR : Rl A B) (hA : Ap A) {t x y c z : Nat} (hx : x < 2 ^ 31) (hy : y < 2 ^ 31) (hz : z < 2 ^ 31) (hc : c < A 9 0) (h19 : 1 < A 9 0) (K : LK X b0 Q bc bs t x y) : WL X mL_law 12 b0 (fun r _ => r = some (.int 1)) NoX G (bc + 700) (bs + 14000) 777 [(13, .int (nI z)), (12, .int (nI c)), (11, .int (nI y)), (9, .int (nI x)), (8, .int (nI t)), (7, .int (nI 1)), (0, .ref X.1), (1, .ref (Q 0)), (2, .ref (Q 1)), (3, .ref (Q 2)), (4, .ref (Q 3)), (5, .ref (Q 4)), (6, .ref (Q 5))] [] := by
  have hm0 := hR.m0
  have hm1 := hR.m1
  have hm2 := hR.m2
  have hm3 := hR.m3
  have hm4 := hR.m4
  have hn9 := hR.n9
  have hb0 := hI.b0
  have hb2 := hI.b2
  have hb15 := hI.b15
  have hb18 := hI.b18
  refine q_iload dL_law_777 1 rfl ?_
  refine q_iconst (v := (nI 1)) dL_law_779 (by decide) ?_
  refine nq_iadd dL_law_780 ?_
  refine q_iload dL_law_781 0 rfl ?_
  refine q_aload_n dL_law_783 rfl 8 rfl ?_
  refine q_iconst (v := (nI 1)) dL_law_784 (by decide) ?_
  refine nq_iald dL_law_785 hL.r1 (by omega) (by decide) ?_
  refine q_iconst (v := (nI 1)) dL_law_786 (by decide) ?_
  refine nq_isub dL_law_787 (by omega) ?_
  refine nq_irem dL_law_788 (by omega) (by omega) (by omega) ?_
  have hzm : z % (B 1 1 - 1) < B 1 1 - 1 := Nat.mod_lt _ (by omega)
  refine nq_iadd dL_law_789 ?_
  refine q_aload_n dL_law_790 rfl 8 rfl ?_
  refine q_iconst (v := (nI 1)) dL_law_791 (by decide) ?_
  refine nq_iald dL_law_792 hL.r1 (by omega) (by decide) ?_
  refine nq_irem dL_law_793 (by omega) (by omega) (by omega) ?_
  obtain ⟨ho, hne⟩ := other_ok (c := c) (m := B 1 1) (r := z % (B 1 1 - 1)) (by omega) (Nat.mod_lt _ (by omega))
  revert ho hne
  generalize (c + 1 + z % (B 1 1 - 1)) % B 1 1 = o
  intro ho hne
  have hre := hI.re (100 * (z / 9 % 4) + 10 * c + o)
  have hsx : setA A 14 (100 * (z / 9 % 4) + 10 * c + o) (z / 36 % 3) 14 (100 * (z / 9 % 4) + 10 * c + o) = z / 36 % 3 := setA_s
  refine q_istore [(14, .int (nI o)), (13, .int (nI z)), (12, .int (nI c)), (11, .int (nI y)), (9, .int (nI x)), (8, .int (nI t)), (7, .int (nI 1)), (0, .ref X.1), (1, .ref (Q 0)), (2, .ref (Q 1)), (3, .ref (Q 2)), (4, .ref (Q 3)), (5, .ref (Q 4)), (6, .ref (Q 5))] dL_law_794 (by decide) rfl ?_
  refine q_aload_n dL_law_796 rfl 8 rfl ?_
  refine q_bipush (v := (nI 6)) dL_law_797 (by decide) ?_
  refine q_iload dL_law_799 2 rfl ?_
  refine q_iload dL_law_801 0 rfl ?_
  refine q_iload dL_law_803 1 rfl ?_
  refine q_bipush (v := (nI 9)) dL_law_805 (by decide) ?_
  refine nq_idiv dL_law_807 (by omega) (by omega) (by omega) ?_
  refine q_iconst (v := (nI 4)) dL_law_808 (by decide) ?_
  refine nq_irem dL_law_809 (by omega) (by omega) (by omega) ?_
  refine q_iload dL_law_810 1 rfl ?_
  refine q_bipush (v := (nI 36)) dL_law_812 (by decide) ?_
  refine nq_idiv dL_law_814 (by omega) (by omega) (by omega) ?_
  refine q_iconst (v := (nI 3)) dL_law_815 (by decide) ?_
  refine nq_irem dL_law_816 (by omega) (by omega) (by omega) ?_
  refine q_callSW (st := []) [.ref (Q 0), .int (nI 6), .int (nI c), .int (nI o), .int (nI ((z / 9) % 4)), .int (nI ((z / 36) % 3))] (bc + 680) (bs + 13600) dL_law_817 kL_act nL_act lRL_88 (L_relate (d := 2) hL hI hc (o := o) (by omega) hne (by omega) (by omega)) rfl rfl (Nat.le_of_ble_eq_true rfl) (by omega) (by omega) ?_
  intro r G1 hr
  obtain ⟨rfl, hL2⟩ := hr
  show WL X mL_law _ _ _ _ _ _ _ 820 [(14, .int (nI o)), (13, .int (nI z)), (12, .int (nI c)), (11, .int (nI y)), (9, .int (nI x)), (8, .int (nI t)), (7, .int (nI 1)), (0, .ref X.1), (1, .ref (Q 0)), (2, .ref (Q 1)), (3, .ref (Q 2)), (4, .ref (Q 3)), (5, .ref (Q 4)), (6, .ref (Q 5))] [.int (nI (A 14 (100 * (z / 9 % 4) + 10 * c + o)))]
  refine q_istore [(15, .int (nI (A 14 (100 * (z / 9 % 4) + 10 * c + o)))), (14, .int (nI o)), (13, .int (nI z)), (12, .int (nI c)), (11, .int (nI y)), (9, .int (nI x)), (8, .int (nI t)), (7, .int (nI 1)), (0, .ref X.1), (1, .ref (Q 0)), (2, .ref (Q 1)), (3, .ref (Q 2)), (4, .ref (Q 3)), (5, .ref (Q 4)), (6, .ref (Q 5))] dL_law_820 (by decide) rfl ?_
  refine q_iload dL_law_822 0 rfl ?_
  refine nq_if_lt 871 dL_law_824 (by decide) (by omega) (fun c3 => absurd c3 (by omega)) (fun c3 => ?_)
  refine q_iload dL_law_827 0 rfl ?_
  refine q_iconst (v := (nI 3)) dL_law_829 (by decide) ?_
  refine nq_icmp_ge 871 dL_law_830 (by decide) (by omega) (by omega) (fun c4 => absurd c4 (by omega)) (fun c4 => ?_)
  refine q_aload_n dL_law_833 rfl 9 rfl ?_
  refine q_bipush (v := (nI 6)) dL_law_834 (by decide) ?_
  refine q_iload dL_law_836 3 rfl ?_
  refine q_iload dL_law_838 1 rfl ?_
  refine q_iload dL_law_840 2 rfl ?_
  refine q_bipush (v := (nI 9)) dL_law_842 (by decide) ?_
  refine nq_idiv dL_law_844 (by omega) (by omega) (by omega) ?_
  refine q_iconst (v := (nI 4)) dL_law_845 (by decide) ?_
  refine nq_irem dL_law_846 (by omega) (by omega) (by omega) ?_
  refine q_iload dL_law_847 2 rfl ?_
  refine q_bipush (v := (nI 36)) dL_law_849 (by decide) ?_
  refine nq_idiv dL_law_851 (by omega) (by omega) (by omega) ?_
  refine q_iconst (v := (nI 3)) dL_law_852 (by decide) ?_
  refine nq_irem dL_law_853 (by omega) (by omega) (by omega) ?_
  refine q_callSW (st := []) [.ref (Q 0), .int (nI 6), .int (nI c), .int (nI o), .int (nI ((z / 9) % 4)), .int (nI ((z / 36) % 3))] (bc + 660) (bs + 13200) dL_law_854 kL_act nL_act lRL_88 (L_relate (d := 2) hL2 (i_relate hI hc (o := o) (by omega) (by omega) (by omega)) hc (o := o) (show o < A 9 0 by omega) hne (by omega) (by omega)) rfl rfl (Nat.le_of_ble_eq_true rfl) (by omega) (by omega) ?_
  intro r G5 hr
  obtain ⟨rfl, hL6⟩ := hr
  show WL X mL_law _ _ _ _ _ _ _ 857 [(15, .int (nI (A 14 (100 * (z / 9 % 4) + 10 * c + o)))), (14, .int (nI o)), (13, .int (nI z)), (12, .int (nI c)), (11, .int (nI y)), (9, .int (nI x)), (8, .int (nI t)), (7, .int (nI 1)), (0, .ref X.1), (1, .ref (Q 0)), (2, .ref (Q 1)), (3, .ref (Q 2)), (4, .ref (Q 3)), (5, .ref (Q 4)), (6, .ref (Q 5))] [.int (nI ((setA A 14 (100 * (z / 9 % 4) + 10 * c + o) (z / 36 % 3)) 14 (100 * (z / 9 % 4) + 10 * c + o)))]
  refine q_iload dL_law_857 2 rfl ?_
  refine q_bipush (v := (nI 36)) dL_law_859 (by decide) ?_
  refine nq_idiv dL_law_861 (by omega) (by omega) (by omega) ?_
  refine q_iconst (v := (nI 3)) dL_law_862 (by decide) ?_
  refine nq_irem dL_law_863 (by omega) (by omega) (by omega) ?_
  refine nq_icmp_ne 871 dL_law_864 (by decide) (by omega) (by omega) (fun c7 => absurd c7 (by omega)) (fun c7 => ?_)
  refine q_iconst (v := (nI 1)) dL_law_867 (by decide) ?_
  refine q_goto 872 dL_law_868 (by decide) ?_
  refine q_istore [(7, .int (nI 1)), (15, .int (nI (A 14 (100 * (z / 9 % 4) + 10 * c + o)))), (14, .int (nI o)), (13, .int (nI z)), (12, .int (nI c)), (11, .int (nI y)), (9, .int (nI x)), (8, .int (nI t)), (0, .ref X.1), (1, .ref (Q 0)), (2, .ref (Q 1)), (3, .ref (Q 2)), (4, .ref (Q 3)), (5, .ref (Q 4)), (6, .ref (Q 5))] dL_law_872 (by decide) rfl ?_
  refine q_goto 1445 dL_law_874 (by decide) ?_
  exact WL.loc [5, 6, 7, 0, 8, 9, 10, 11, 12, 13, 14] rfl (WL.bud (by omega) (by omega) (K _ _ _ hL6 (i_relate (i_relate hI hc (o := o) (by omega) (by omega) (by omega)) hc (o := o) (show o < A 9 0 by omega) (by omega) (by omega)) (hR) (hA)))
set_option maxRecDepth 100000 in
set_option maxHeartbeats 4000000 in
theorem la_clear {X : SX} {b0 : Nat} {Q : Nat → Nat} {bc bs : Nat} {A B : ST} {G : GH} (hL : LW Q A B G) (hI : Inv A) (hR : Rl A B) (hA : Ap A) {t x y c z : Nat} (hx : x < 2 ^ 31) (hy : y < 2 ^ 31) (hz : z < 2 ^ 31)  (K : LK X b0 Q bc bs t x y) : WL X mL_law 12 b0 (fun r _ => r = some (.int 1)) NoX G (bc + 700) (bs + 14000) 884 [(13, .int (nI z)), (12, .int (nI c)), (11, .int (nI y)), (9, .int (nI x)), (8, .int (nI t)), (7, .int (nI 1)), (0, .ref X.1), (1, .ref (Q 0)), (2, .ref (Q 1)), (3, .ref (Q 2)), (4, .ref (Q 3)), (5, .ref (Q 4)), (6, .ref (Q 5))] [] := by
  have hm0 := hR.m0
  have hm1 := hR.m1
  have hm2 := hR.m2
  have hm3 := hR.m3
  have hm4 := hR.m4
  have hn9 := hR.n9
  have hb0 := hI.b0
  have hb2 := hI.b2
  have hb15 := hI.b15
  have hb18 := hI.b18
  refine q_aload_n dL_law_884 rfl 7 rfl ?_
  obtain ⟨fshq1, hq1⟩ := hL.r0
  refine q_callV (st := []) [] (bc + 680) (bs + 13600) dL_law_885 kX8_clear nX8_clear lRL_112 hq1 rfl (L_clr (d := 3) hL hI) rfl rfl (Nat.le_of_ble_eq_true rfl) (by omega) (by omega) ?_
  intro r G2 hr
  obtain ⟨rfl, A2, hL2, hI2, hK2, h02⟩ := hr
  show WL X mL_law _ _ _ _ _ _ _ 888 [(13, .int (nI z)), (12, .int (nI c)), (11, .int (nI y)), (9, .int (nI x)), (8, .int (nI t)), (7, .int (nI 1)), (0, .ref X.1), (1, .ref (Q 0)), (2, .ref (Q 1)), (3, .ref (Q 2)), (4, .ref (Q 3)), (5, .ref (Q 4)), (6, .ref (Q 5))] [.int (nI (A 0 0))]
  refine q_aload_n dL_law_888 rfl 8 rfl ?_
  refine q_iconst (v := (nI 4)) dL_law_889 (by decide) ?_
  refine nq_iald dL_law_890 hL2.r1 (by omega) (by decide) ?_
  refine nq_icmp_ne 905 dL_law_891 (by decide) (by omega) (by omega) (fun c4 => absurd c4 (by omega)) (fun c4 => ?_)
  refine q_aload_n dL_law_894 rfl 7 rfl ?_
  obtain ⟨fshq5, hq5⟩ := hL2.r0
  refine q_callV (st := []) [] (bc + 660) (bs + 13200) dL_law_895 kX8_fault nX8_fault lRL_83 hq5 rfl (L_fault (d := 3) hL2 hI2) rfl rfl (Nat.le_of_ble_eq_true rfl) (by omega) (by omega) ?_
  intro r G6 hr
  obtain ⟨rfl, hL7⟩ := hr
  show WL X mL_law _ _ _ _ _ _ _ 898 [(13, .int (nI z)), (12, .int (nI c)), (11, .int (nI y)), (9, .int (nI x)), (8, .int (nI t)), (7, .int (nI 1)), (0, .ref X.1), (1, .ref (Q 0)), (2, .ref (Q 1)), (3, .ref (Q 2)), (4, .ref (Q 3)), (5, .ref (Q 4)), (6, .ref (Q 5))] [.int (ffS (rg A2 1 0 60) (A2 0 0))]
  refine q_top (nI 0) (by rw [h02, ffS_0]) ?_
  refine nq_if_ne 905 dL_law_898 (by decide) (by omega) (fun c8 => absurd c8 (by decide)) (fun c8 => ?_)
  refine q_iconst (v := (nI 1)) dL_law_901 (by decide) ?_
  refine q_goto 906 dL_law_902 (by decide) ?_
  refine q_istore [(7, .int (nI 1)), (13, .int (nI z)), (12, .int (nI c)), (11, .int (nI y)), (9, .int (nI x)), (8, .int (nI t)), (0, .ref X.1), (1, .ref (Q 0)), (2, .ref (Q 1)), (3, .ref (Q 2)), (4, .ref (Q 3)), (5, .ref (Q 4)), (6, .ref (Q 5))] dL_law_906 (by decide) rfl ?_
  refine q_aload_n dL_law_908 rfl 8 rfl ?_
  refine q_iconst (v := (nI 4)) dL_law_909 (by decide) ?_
  refine q_iconst (v := (nI 0)) dL_law_910 (by decide) ?_
  refine nq_iast dL_law_911 hL7.r1 (by omega) (by decide) ?_
  have hL9 := hL7.w1 (j := 4) (v := 0) (by omega)
  have hb10 : (setA B 1 4 0) 1 4 = 0 := setA_s
  refine q_goto 1445 dL_law_912 (by decide) ?_
  exact WL.loc [3, 4, 5, 0, 6, 7, 8, 9, 10, 11, 12] rfl (WL.bud (by omega) (by omega) (K _ _ _ hL9 (hI2) (hR.buf hK2 (by omega)) (hA.kp hK2)))
set_option maxRecDepth 100000 in
set_option maxHeartbeats 4000000 in
theorem la_letter {X : SX} {b0 : Nat} {Q : Nat → Nat} {bc bs : Nat} {A B : ST} {G : GH} (hL : LW Q A B G) (hI : Inv A) (hR : Rl A B) (hA : Ap A) {t x y c z : Nat} (hx : x < 2 ^ 31) (hy : y < 2 ^ 31) (hz : z < 2 ^ 31)  (K : LK X b0 Q bc bs t x y) : WL X mL_law 12 b0 (fun r _ => r = some (.int 1)) NoX G (bc + 700) (bs + 14000) 929 [(13, .int (nI z)), (12, .int (nI c)), (11, .int (nI y)), (9, .int (nI x)), (8, .int (nI t)), (7, .int (nI 1)), (0, .ref X.1), (1, .ref (Q 0)), (2, .ref (Q 1)), (3, .ref (Q 2)), (4, .ref (Q 3)), (5, .ref (Q 4)), (6, .ref (Q 5))] [] := by
  have hm0 := hR.m0
  have hm1 := hR.m1
  have hm2 := hR.m2
  have hm3 := hR.m3
  have hm4 := hR.m4
  have hn9 := hR.n9
  have hb0 := hI.b0
  have hb2 := hI.b2
  have hb15 := hI.b15
  have hb18 := hI.b18
  by_cases h15 : A 15 0 < 6
  · refine q_aload_n dL_law_929 rfl 7 rfl ?_
    refine q_bipush (v := (nI 8)) dL_law_930 (by decide) ?_
    refine q_iconst (v := (nI 0)) dL_law_932 (by decide) ?_
    refine q_iconst (v := (nI 0)) dL_law_933 (by decide) ?_
    refine q_iconst (v := (nI 0)) dL_law_934 (by decide) ?_
    refine q_iconst (v := (nI 0)) dL_law_935 (by decide) ?_
    refine q_callSW (st := []) [.ref (Q 0), .int (nI 8), .int (nI 0), .int (nI 0), .int (nI 0), .int (nI 0)] (bc + 680) (bs + 13600) dL_law_936 kL_act nL_act lRL_88 (L_letter (d := 2) hL hI h15) rfl rfl (Nat.le_of_ble_eq_true rfl) (by omega) (by omega) ?_
    intro r G1 hr
    obtain ⟨rfl, hL2⟩ := hr
    show WL X mL_law _ _ _ _ _ _ _ 939 [(13, .int (nI z)), (12, .int (nI c)), (11, .int (nI y)), (9, .int (nI x)), (8, .int (nI t)), (7, .int (nI 1)), (0, .ref X.1), (1, .ref (Q 0)), (2, .ref (Q 1)), (3, .ref (Q 2)), (4, .ref (Q 3)), (5, .ref (Q 4)), (6, .ref (Q 5))] [.int (nI (A 15 0))]
    refine q_istore [(14, .int (nI (A 15 0))), (13, .int (nI z)), (12, .int (nI c)), (11, .int (nI y)), (9, .int (nI x)), (8, .int (nI t)), (7, .int (nI 1)), (0, .ref X.1), (1, .ref (Q 0)), (2, .ref (Q 1)), (3, .ref (Q 2)), (4, .ref (Q 3)), (5, .ref (Q 4)), (6, .ref (Q 5))] dL_law_939 (by decide) rfl ?_
    refine q_iload dL_law_941 0 rfl ?_
    refine q_aload_n dL_law_943 rfl 9 rfl ?_
    refine q_iconst (v := (nI 2)) dL_law_944 (by decide) ?_
    refine nq_iald dL_law_945 hL2.r1 (by omega) (by decide) ?_
    refine q_bipush (v := (nI 6)) dL_law_946 (by decide) ?_
    refine nq_icmp_ne 956 dL_law_948 (by decide) (by omega) (by omega) (fun c3 => ?_) (fun c3 => absurd c3 (by omega))
    refine q_aload_n dL_law_956 rfl 9 rfl ?_
    refine q_iconst (v := (nI 2)) dL_law_957 (by decide) ?_
    refine nq_iald dL_law_958 hL2.r1 (by omega) (by decide) ?_
    refine nq_icmp_ne 966 dL_law_959 (by decide) (by omega) (by omega) (fun c4 => absurd c4 (by omega)) (fun c4 => ?_)
    refine q_iconst (v := (nI 1)) dL_law_962 (by decide) ?_
    refine q_goto 967 dL_law_963 (by decide) ?_
    refine q_istore [(7, .int (nI 1)), (14, .int (nI (A 15 0))), (13, .int (nI z)), (12, .int (nI c)), (11, .int (nI y)), (9, .int (nI x)), (8, .int (nI t)), (0, .ref X.1), (1, .ref (Q 0)), (2, .ref (Q 1)), (3, .ref (Q 2)), (4, .ref (Q 3)), (5, .ref (Q 4)), (6, .ref (Q 5))] dL_law_967 (by decide) rfl ?_
    refine q_aload_n dL_law_969 rfl 9 rfl ?_
    refine q_iconst (v := (nI 2)) dL_law_970 (by decide) ?_
    refine q_dup2 dL_law_971 rfl rfl ?_
    refine nq_iald dL_law_972 hL2.r1 (by omega) (by decide) ?_
    refine q_iload dL_law_973 1 rfl ?_
    refine nq_if_ge 982 dL_law_975 (by decide) (by omega) (fun c5 => ?_) (fun c5 => absurd c5 (by omega))
    refine q_iconst (v := (nI 1)) dL_law_982 (by decide) ?_
    refine nq_iadd dL_law_983 ?_
    refine nq_iast dL_law_984 hL2.r1 (by omega) (by decide) ?_
    have hL6 := hL2.w1 (j := 2) (v := (B 1 2) + 1) (by omega)
    have hb7 : (setA B 1 2 ((B 1 2) + 1)) 1 2 = (B 1 2) + 1 := setA_s
    refine q_goto 1445 dL_law_985 (by decide) ?_
    exact WL.loc [4, 5, 6, 0, 7, 8, 9, 10, 11, 12, 13] rfl (WL.bud (by omega) (by omega) (K _ _ _ hL6 (i_letter hI h15) (rl_letter hR (by omega)) (hA)))
  · refine q_aload_n dL_law_929 rfl 7 rfl ?_
    refine q_bipush (v := (nI 8)) dL_law_930 (by decide) ?_
    refine q_iconst (v := (nI 0)) dL_law_932 (by decide) ?_
    refine q_iconst (v := (nI 0)) dL_law_933 (by decide) ?_
    refine q_iconst (v := (nI 0)) dL_law_934 (by decide) ?_
    refine q_iconst (v := (nI 0)) dL_law_935 (by decide) ?_
    refine q_callSW (st := []) [.ref (Q 0), .int (nI 8), .int (nI 0), .int (nI 0), .int (nI 0), .int (nI 0)] (bc + 680) (bs + 13600) dL_law_936 kL_act nL_act lRL_88 (R_letter (d := 2) hL hI h15) rfl rfl (Nat.le_of_ble_eq_true rfl) (by omega) (by omega) ?_
    refine ql_det (st2 := [.int (-1663000)]) rfl ?_
    refine q_istore [(14, .int (-1663000)), (13, .int (nI z)), (12, .int (nI c)), (11, .int (nI y)), (9, .int (nI x)), (8, .int (nI t)), (7, .int (nI 1)), (0, .ref X.1), (1, .ref (Q 0)), (2, .ref (Q 1)), (3, .ref (Q 2)), (4, .ref (Q 3)), (5, .ref (Q 4)), (6, .ref (Q 5))] dL_law_939 (by decide) rfl ?_
    refine q_iload dL_law_941 0 rfl ?_
    refine q_aload_n dL_law_943 rfl 9 rfl ?_
    refine q_iconst (v := (nI 2)) dL_law_944 (by decide) ?_
    refine nq_iald dL_law_945 hL.r1 (by omega) (by decide) ?_
    refine q_bipush (v := (nI 6)) dL_law_946 (by decide) ?_
    refine nq_icmp_ne 956 dL_law_948 (by decide) (by omega) (by omega) (fun c8 => absurd c8 (by omega)) (fun c8 => ?_)
    refine q_ldc dL_law_951 con_82 ?_
    refine q_goto 959 dL_law_953 (by decide) ?_
    refine q_icmp_ne 966 dL_law_959 (by decide) (fun c9 => absurd c9 (fun q => q rfl)) (fun c9 => ?_)
    refine q_iconst (v := (nI 1)) dL_law_962 (by decide) ?_
    refine q_goto 967 dL_law_963 (by decide) ?_
    refine q_istore [(7, .int (nI 1)), (14, .int (-1663000)), (13, .int (nI z)), (12, .int (nI c)), (11, .int (nI y)), (9, .int (nI x)), (8, .int (nI t)), (0, .ref X.1), (1, .ref (Q 0)), (2, .ref (Q 1)), (3, .ref (Q 2)), (4, .ref (Q 3)), (5, .ref (Q 4)), (6, .ref (Q 5))] dL_law_967 (by decide) rfl ?_
    refine q_aload_n dL_law_969 rfl 9 rfl ?_
    refine q_iconst (v := (nI 2)) dL_law_970 (by decide) ?_
    refine q_dup2 dL_law_971 rfl rfl ?_
    refine nq_iald dL_law_972 hL.r1 (by omega) (by decide) ?_
    refine q_iload dL_law_973 1 rfl ?_
    refine q_if_ge 982 dL_law_975 (by decide) (fun c10 => absurd c10 (by decide)) (fun c10 => ?_)
    refine q_iconst (v := (nI 0)) dL_law_978 (by decide) ?_
    refine q_goto 983 dL_law_979 (by decide) ?_
    refine nq_iadd dL_law_983 ?_
    refine nq_iast dL_law_984 hL.r1 (by omega) (by decide) ?_
    have hL11 := hL.w1 (j := 2) (v := (B 1 2) + 0) (by omega)
    have hb12 : (setA B 1 2 ((B 1 2) + 0)) 1 2 = (B 1 2) + 0 := setA_s
    refine q_goto 1445 dL_law_985 (by decide) ?_
    exact WL.loc [4, 5, 6, 0, 7, 8, 9, 10, 11, 12, 13] rfl (WL.bud (by omega) (by omega) (K _ _ _ hL11 (hI) (rl_id hR (fun f k => by
        by_cases q : f = 1
        · by_cases r : k = 2
          · rw [q, r]; exact setA_s
          · rw [q]; exact setA_n r
        · exact setA_f q)) (hA)))
set_option maxRecDepth 100000 in
set_option maxHeartbeats 4000000 in
theorem la_data {X : SX} {b0 : Nat} {Q : Nat → Nat} {bc bs : Nat} {A B : ST} {G : GH} (hL : LW Q A B G) (hI : Inv A) (hR : Rl A B) (hA : Ap A) {t x y c z : Nat} (hx : x < 2 ^ 31) (hy : y < 2 ^ 31) (hz : z < 2 ^ 31) (h00 : 0 < A 2 0) (K : LK X b0 Q bc bs t x y) : WL X mL_law 12 b0 (fun r _ => r = some (.int 1)) NoX G (bc + 700) (bs + 14000) 1008 [(13, .int (nI z)), (12, .int (nI c)), (11, .int (nI y)), (9, .int (nI x)), (8, .int (nI t)), (7, .int (nI 1)), (0, .ref X.1), (1, .ref (Q 0)), (2, .ref (Q 1)), (3, .ref (Q 2)), (4, .ref (Q 3)), (5, .ref (Q 4)), (6, .ref (Q 5))] [] := by
  have hm0 := hR.m0
  have hm1 := hR.m1
  have hm2 := hR.m2
  have hm3 := hR.m3
  have hm4 := hR.m4
  have hn9 := hR.n9
  have hb0 := hI.b0
  have hb2 := hI.b2
  have hb15 := hI.b15
  have hb18 := hI.b18
  have hw : z % B 1 0 < A 2 0 := by rw [← hm0]; exact Nat.mod_lt _ (by omega)
  by_cases h18 : A 18 0 < 8
  · refine q_aload_n dL_law_1008 rfl 7 rfl ?_
    refine q_bipush (v := (nI 10)) dL_law_1009 (by decide) ?_
    refine q_iload dL_law_1011 0 rfl ?_
    refine q_aload_n dL_law_1013 rfl 8 rfl ?_
    refine q_iconst (v := (nI 0)) dL_law_1014 (by decide) ?_
    refine nq_iald dL_law_1015 hL.r1 (by omega) (by decide) ?_
    refine nq_irem dL_law_1016 (by omega) (by omega) (by omega) ?_
    refine q_iload dL_law_1017 0 rfl ?_
    refine q_bipush (v := (nI 12)) dL_law_1019 (by decide) ?_
    refine nq_idiv dL_law_1021 (by omega) (by omega) (by omega) ?_
    refine q_sipush (v := (nI 256)) dL_law_1022 (by decide) ?_
    refine nq_irem dL_law_1025 (by omega) (by omega) (by omega) ?_
    refine q_iconst (v := (nI 0)) dL_law_1026 (by decide) ?_
    refine q_iconst (v := (nI 0)) dL_law_1027 (by decide) ?_
    refine q_callSW (st := []) [.ref (Q 0), .int (nI 10), .int (nI (z % (B 1 0))), .int (nI ((z / 12) % 256)), .int (nI 0), .int (nI 0)] (bc + 680) (bs + 13600) dL_law_1028 kL_act nL_act lRL_88 (L_data (d := 2) hL hI hw (by omega) h18) rfl rfl (Nat.le_of_ble_eq_true rfl) (by omega) (by omega) ?_
    intro r G1 hr
    obtain ⟨rfl, hL2⟩ := hr
    show WL X mL_law _ _ _ _ _ _ _ 1031 [(13, .int (nI z)), (12, .int (nI c)), (11, .int (nI y)), (9, .int (nI x)), (8, .int (nI t)), (7, .int (nI 1)), (0, .ref X.1), (1, .ref (Q 0)), (2, .ref (Q 1)), (3, .ref (Q 2)), (4, .ref (Q 3)), (5, .ref (Q 4)), (6, .ref (Q 5))] [.int (nI (A 18 0))]
    refine q_istore [(14, .int (nI (A 18 0))), (13, .int (nI z)), (12, .int (nI c)), (11, .int (nI y)), (9, .int (nI x)), (8, .int (nI t)), (7, .int (nI 1)), (0, .ref X.1), (1, .ref (Q 0)), (2, .ref (Q 1)), (3, .ref (Q 2)), (4, .ref (Q 3)), (5, .ref (Q 4)), (6, .ref (Q 5))] dL_law_1031 (by decide) rfl ?_
    refine q_iload dL_law_1033 0 rfl ?_
    refine q_aload_n dL_law_1035 rfl 9 rfl ?_
    refine q_iconst (v := (nI 3)) dL_law_1036 (by decide) ?_
    refine nq_iald dL_law_1037 hL2.r1 (by omega) (by decide) ?_
    refine q_bipush (v := (nI 8)) dL_law_1038 (by decide) ?_
    refine nq_icmp_ne 1048 dL_law_1040 (by decide) (by omega) (by omega) (fun c3 => ?_) (fun c3 => absurd c3 (by omega))
    refine q_aload_n dL_law_1048 rfl 9 rfl ?_
    refine q_iconst (v := (nI 3)) dL_law_1049 (by decide) ?_
    refine nq_iald dL_law_1050 hL2.r1 (by omega) (by decide) ?_
    refine nq_icmp_ne 1058 dL_law_1051 (by decide) (by omega) (by omega) (fun c4 => absurd c4 (by omega)) (fun c4 => ?_)
    refine q_iconst (v := (nI 1)) dL_law_1054 (by decide) ?_
    refine q_goto 1059 dL_law_1055 (by decide) ?_
    refine q_istore [(7, .int (nI 1)), (14, .int (nI (A 18 0))), (13, .int (nI z)), (12, .int (nI c)), (11, .int (nI y)), (9, .int (nI x)), (8, .int (nI t)), (0, .ref X.1), (1, .ref (Q 0)), (2, .ref (Q 1)), (3, .ref (Q 2)), (4, .ref (Q 3)), (5, .ref (Q 4)), (6, .ref (Q 5))] dL_law_1059 (by decide) rfl ?_
    refine q_iload dL_law_1061 1 rfl ?_
    refine nq_if_lt 1087 dL_law_1063 (by decide) (by omega) (fun c5 => absurd c5 (by omega)) (fun c5 => ?_)
    refine q_aload dL_law_1066 12 rfl ?_
    refine q_iload dL_law_1068 1 rfl ?_
    refine q_iload dL_law_1070 2 rfl ?_
    refine q_bipush (v := (nI 12)) dL_law_1072 (by decide) ?_
    refine nq_idiv dL_law_1074 (by omega) (by omega) (by omega) ?_
    refine q_sipush (v := (nI 256)) dL_law_1075 (by decide) ?_
    refine nq_irem dL_law_1078 (by omega) (by omega) (by omega) ?_
    refine nq_iast dL_law_1079 hL2.r4 (by omega) (by decide) ?_
    have hL6 := hL2.w4 (j := A 18 0) (v := (z / 12) % 256) (by omega)
    have hb7 : (setA B 4 (A 18 0) ((z / 12) % 256)) 4 (A 18 0) = (z / 12) % 256 := setA_s
    have hb3x : (setA B 4 (A 18 0) ((z / 12) % 256)) 1 3 = B 1 3 := setA_f (by decide)
    refine q_aload_n dL_law_1080 rfl 9 rfl ?_
    refine q_iconst (v := (nI 3)) dL_law_1081 (by decide) ?_
    refine q_dup2 dL_law_1082 rfl rfl ?_
    refine nq_iald dL_law_1083 hL6.r1 (by omega) (by decide) ?_
    refine q_iconst (v := (nI 1)) dL_law_1084 (by decide) ?_
    refine nq_iadd dL_law_1085 ?_
    refine nq_iast dL_law_1086 hL6.r1 (by omega) (by decide) ?_
    have hL8 := hL6.w1 (j := 3) (v := ((setA B 4 (A 18 0) ((z / 12) % 256)) 1 3) + 1) (by omega)
    have hb9 : (setA (setA B 4 (A 18 0) ((z / 12) % 256)) 1 3 (((setA B 4 (A 18 0) ((z / 12) % 256)) 1 3) + 1)) 1 3 = ((setA B 4 (A 18 0) ((z / 12) % 256)) 1 3) + 1 := setA_s
    refine q_goto 1445 dL_law_1087 (by decide) ?_
    exact WL.loc [4, 5, 6, 0, 7, 8, 9, 10, 11, 12, 13] rfl (WL.bud (by omega) (by omega) (K _ _ _ hL8 (i_data hI hw (b := z / 12 % 256) (by omega) h18) (rl_data hR (w := z % B 1 0) (by omega)) (hA)))
  · refine q_aload_n dL_law_1008 rfl 7 rfl ?_
    refine q_bipush (v := (nI 10)) dL_law_1009 (by decide) ?_
    refine q_iload dL_law_1011 0 rfl ?_
    refine q_aload_n dL_law_1013 rfl 8 rfl ?_
    refine q_iconst (v := (nI 0)) dL_law_1014 (by decide) ?_
    refine nq_iald dL_law_1015 hL.r1 (by omega) (by decide) ?_
    refine nq_irem dL_law_1016 (by omega) (by omega) (by omega) ?_
    refine q_iload dL_law_1017 0 rfl ?_
    refine q_bipush (v := (nI 12)) dL_law_1019 (by decide) ?_
    refine nq_idiv dL_law_1021 (by omega) (by omega) (by omega) ?_
    refine q_sipush (v := (nI 256)) dL_law_1022 (by decide) ?_
    refine nq_irem dL_law_1025 (by omega) (by omega) (by omega) ?_
    refine q_iconst (v := (nI 0)) dL_law_1026 (by decide) ?_
    refine q_iconst (v := (nI 0)) dL_law_1027 (by decide) ?_
    refine q_callSW (st := []) [.ref (Q 0), .int (nI 10), .int (nI (z % (B 1 0))), .int (nI ((z / 12) % 256)), .int (nI 0), .int (nI 0)] (bc + 680) (bs + 13600) dL_law_1028 kL_act nL_act lRL_88 (R_data_3 (d := 2) hL hI hw (by omega) h18) rfl rfl (Nat.le_of_ble_eq_true rfl) (by omega) (by omega) ?_
    refine ql_det (st2 := [.int (-1663000)]) rfl ?_
    refine q_istore [(14, .int (-1663000)), (13, .int (nI z)), (12, .int (nI c)), (11, .int (nI y)), (9, .int (nI x)), (8, .int (nI t)), (7, .int (nI 1)), (0, .ref X.1), (1, .ref (Q 0)), (2, .ref (Q 1)), (3, .ref (Q 2)), (4, .ref (Q 3)), (5, .ref (Q 4)), (6, .ref (Q 5))] dL_law_1031 (by decide) rfl ?_
    refine q_iload dL_law_1033 0 rfl ?_
    refine q_aload_n dL_law_1035 rfl 9 rfl ?_
    refine q_iconst (v := (nI 3)) dL_law_1036 (by decide) ?_
    refine nq_iald dL_law_1037 hL.r1 (by omega) (by decide) ?_
    refine q_bipush (v := (nI 8)) dL_law_1038 (by decide) ?_
    refine nq_icmp_ne 1048 dL_law_1040 (by decide) (by omega) (by omega) (fun c10 => absurd c10 (by omega)) (fun c10 => ?_)
    refine q_ldc dL_law_1043 con_82 ?_
    refine q_goto 1051 dL_law_1045 (by decide) ?_
    refine q_icmp_ne 1058 dL_law_1051 (by decide) (fun c11 => absurd c11 (fun q => q rfl)) (fun c11 => ?_)
    refine q_iconst (v := (nI 1)) dL_law_1054 (by decide) ?_
    refine q_goto 1059 dL_law_1055 (by decide) ?_
    refine q_istore [(7, .int (nI 1)), (14, .int (-1663000)), (13, .int (nI z)), (12, .int (nI c)), (11, .int (nI y)), (9, .int (nI x)), (8, .int (nI t)), (0, .ref X.1), (1, .ref (Q 0)), (2, .ref (Q 1)), (3, .ref (Q 2)), (4, .ref (Q 3)), (5, .ref (Q 4)), (6, .ref (Q 5))] dL_law_1059 (by decide) rfl ?_
    refine q_iload dL_law_1061 1 rfl ?_
    refine q_if_lt 1087 dL_law_1063 (by decide) (fun c12 => ?_) (fun c12 => absurd c12 (fun q => q (by decide)))
    refine q_goto 1445 dL_law_1087 (by decide) ?_
    exact WL.loc [4, 5, 6, 0, 7, 8, 9, 10, 11, 12, 13] rfl (WL.bud (by omega) (by omega) (K _ _ _ hL (hI) (hR) (hA)))
set_option maxRecDepth 100000 in
set_option maxHeartbeats 4000000 in
theorem la_fill {X : SX} {b0 : Nat} {Q : Nat → Nat} {bc bs : Nat} {A B : ST} {G : GH} (hL : LW Q A B G) (hI : Inv A) (hR : Rl A B) (hA : Ap A) {t x y c z : Nat} (hx : x < 2 ^ 31) (hy : y < 2 ^ 31) (hz : z < 2 ^ 31) (h18 : 0 < A 18 0) (K : LK X b0 Q bc bs t x y) : WL X mL_law 12 b0 (fun r _ => r = some (.int 1)) NoX G (bc + 700) (bs + 14000) 1103 [(13, .int (nI z)), (12, .int (nI c)), (11, .int (nI y)), (9, .int (nI x)), (8, .int (nI t)), (7, .int (nI 1)), (0, .ref X.1), (1, .ref (Q 0)), (2, .ref (Q 1)), (3, .ref (Q 2)), (4, .ref (Q 3)), (5, .ref (Q 4)), (6, .ref (Q 5))] [] := by
  have hm0 := hR.m0
  have hm1 := hR.m1
  have hm2 := hR.m2
  have hm3 := hR.m3
  have hm4 := hR.m4
  have hn9 := hR.n9
  have hb0 := hI.b0
  have hb2 := hI.b2
  have hb15 := hI.b15
  have hb18 := hI.b18
  have ht : z % B 1 3 < A 18 0 := by rw [← hm3]; exact Nat.mod_lt _ (by omega)
  have h20 : 0 < A 2 0 := Nat.lt_of_le_of_lt (Nat.zero_le _) ((hI.da 0 (by omega)).2 0 (by decide))
  have hq : z / 40 % B 1 0 < A 2 0 := by rw [← hm0]; exact Nat.mod_lt _ (by omega)
  have hda := (hI.da (z % B 1 3) ht).2 (z / 8 % 5) (by omega)
  refine q_aload_n dL_law_1103 rfl 7 rfl ?_
  refine q_bipush (v := (nI 11)) dL_law_1104 (by decide) ?_
  refine q_iload dL_law_1106 0 rfl ?_
  refine q_aload_n dL_law_1108 rfl 8 rfl ?_
  refine q_iconst (v := (nI 3)) dL_law_1109 (by decide) ?_
  refine nq_iald dL_law_1110 hL.r1 (by omega) (by decide) ?_
  refine nq_irem dL_law_1111 (by omega) (by omega) (by omega) ?_
  refine q_iload dL_law_1112 0 rfl ?_
  refine q_bipush (v := (nI 8)) dL_law_1114 (by decide) ?_
  refine nq_idiv dL_law_1116 (by omega) (by omega) (by omega) ?_
  refine q_iconst (v := (nI 5)) dL_law_1117 (by decide) ?_
  refine nq_irem dL_law_1118 (by omega) (by omega) (by omega) ?_
  refine q_iload dL_law_1119 0 rfl ?_
  refine q_bipush (v := (nI 40)) dL_law_1121 (by decide) ?_
  refine nq_idiv dL_law_1123 (by omega) (by omega) (by omega) ?_
  refine q_aload_n dL_law_1124 rfl 8 rfl ?_
  refine q_iconst (v := (nI 0)) dL_law_1125 (by decide) ?_
  refine nq_iald dL_law_1126 hL.r1 (by omega) (by decide) ?_
  refine nq_irem dL_law_1127 (by omega) (by omega) (by omega) ?_
  refine q_iconst (v := (nI 0)) dL_law_1128 (by decide) ?_
  refine q_callSW (st := []) [.ref (Q 0), .int (nI 11), .int (nI (z % (B 1 3))), .int (nI ((z / 8) % 5)), .int (nI ((z / 40) % (B 1 0))), .int (nI 0)] (bc + 680) (bs + 13600) dL_law_1129 kL_act nL_act lRL_88 (L_fill (d := 2) hL hI ht (s := z / 8 % 5) (by omega) hq) rfl rfl (Nat.le_of_ble_eq_true rfl) (by omega) (by omega) ?_
  intro r G1 hr
  obtain ⟨rfl, hL2⟩ := hr
  show WL X mL_law _ _ _ _ _ _ _ 1132 [(13, .int (nI z)), (12, .int (nI c)), (11, .int (nI y)), (9, .int (nI x)), (8, .int (nI t)), (7, .int (nI 1)), (0, .ref X.1), (1, .ref (Q 0)), (2, .ref (Q 1)), (3, .ref (Q 2)), (4, .ref (Q 3)), (5, .ref (Q 4)), (6, .ref (Q 5))] [.int (rg A 19 (5 * (z % B 1 3)) 5 (z / 8 % 5))]
  refine q_top (nI (A 19 (5 * (z % B 1 3) + z / 8 % 5))) (by dsimp only [rg]; rw [if_pos (by omega)]) ?_
  refine q_istore [(14, .int (nI (A 19 (5 * (z % B 1 3) + z / 8 % 5)))), (13, .int (nI z)), (12, .int (nI c)), (11, .int (nI y)), (9, .int (nI x)), (8, .int (nI t)), (7, .int (nI 1)), (0, .ref X.1), (1, .ref (Q 0)), (2, .ref (Q 1)), (3, .ref (Q 2)), (4, .ref (Q 3)), (5, .ref (Q 4)), (6, .ref (Q 5))] dL_law_1132 (by decide) rfl ?_
  refine q_iload dL_law_1134 0 rfl ?_
  refine nq_if_lt 1192 dL_law_1136 (by decide) (by omega) (fun c3 => absurd c3 (by omega)) (fun c3 => ?_)
  refine q_iload dL_law_1139 0 rfl ?_
  refine q_aload_n dL_law_1141 rfl 9 rfl ?_
  refine q_iconst (v := (nI 0)) dL_law_1142 (by decide) ?_
  refine nq_iald dL_law_1143 hL2.r1 (by omega) (by decide) ?_
  refine nq_icmp_ge 1192 dL_law_1144 (by decide) (by omega) (by omega) (fun c4 => absurd c4 (by omega)) (fun c4 => ?_)
  refine q_aload_n dL_law_1147 rfl 8 rfl ?_
  refine q_bipush (v := (nI 11)) dL_law_1148 (by decide) ?_
  refine q_iload dL_law_1150 1 rfl ?_
  refine q_aload_n dL_law_1152 rfl 9 rfl ?_
  refine q_iconst (v := (nI 3)) dL_law_1153 (by decide) ?_
  refine nq_iald dL_law_1154 hL2.r1 (by omega) (by decide) ?_
  refine nq_irem dL_law_1155 (by omega) (by omega) (by omega) ?_
  refine q_iload dL_law_1156 1 rfl ?_
  refine q_bipush (v := (nI 8)) dL_law_1158 (by decide) ?_
  refine nq_idiv dL_law_1160 (by omega) (by omega) (by omega) ?_
  refine q_iconst (v := (nI 5)) dL_law_1161 (by decide) ?_
  refine nq_irem dL_law_1162 (by omega) (by omega) (by omega) ?_
  refine q_iload dL_law_1163 1 rfl ?_
  refine q_bipush (v := (nI 40)) dL_law_1165 (by decide) ?_
  refine nq_idiv dL_law_1167 (by omega) (by omega) (by omega) ?_
  refine q_aload_n dL_law_1168 rfl 9 rfl ?_
  refine q_iconst (v := (nI 0)) dL_law_1169 (by decide) ?_
  refine nq_iald dL_law_1170 hL2.r1 (by omega) (by decide) ?_
  refine nq_irem dL_law_1171 (by omega) (by omega) (by omega) ?_
  refine q_iconst (v := (nI 0)) dL_law_1172 (by decide) ?_
  refine q_callSW (st := []) [.ref (Q 0), .int (nI 11), .int (nI (z % (B 1 3))), .int (nI ((z / 8) % 5)), .int (nI ((z / 40) % (B 1 0))), .int (nI 0)] (bc + 660) (bs + 13200) dL_law_1173 kL_act nL_act lRL_88 (L_fill (d := 2) hL2 (i_fill hI (t := z % B 1 3) (s := z / 8 % 5) (q := z / 40 % B 1 0) (by omega) hq) ht (s := z / 8 % 5) (by omega) hq) rfl rfl (Nat.le_of_ble_eq_true rfl) (by omega) (by omega) ?_
  intro r G5 hr
  obtain ⟨rfl, hL6⟩ := hr
  show WL X mL_law _ _ _ _ _ _ _ 1176 [(14, .int (nI (A 19 (5 * (z % B 1 3) + z / 8 % 5)))), (13, .int (nI z)), (12, .int (nI c)), (11, .int (nI y)), (9, .int (nI x)), (8, .int (nI t)), (7, .int (nI 1)), (0, .ref X.1), (1, .ref (Q 0)), (2, .ref (Q 1)), (3, .ref (Q 2)), (4, .ref (Q 3)), (5, .ref (Q 4)), (6, .ref (Q 5))] [.int (rg (setA A 19 (5 * (z % B 1 3) + z / 8 % 5) (z / 40 % B 1 0)) 19 (5 * (z % B 1 3)) 5 (z / 8 % 5))]
  refine q_top (nI (z / 40 % B 1 0)) (by show rg (setA A 19 (5 * (z % B 1 3) + z / 8 % 5) (z / 40 % B 1 0)) 19 (5 * (z % B 1 3)) 5 (z / 8 % 5) = _; dsimp only [rg]; rw [if_pos (by omega), setA_s]) ?_
  refine q_iload dL_law_1176 1 rfl ?_
  refine q_bipush (v := (nI 40)) dL_law_1178 (by decide) ?_
  refine nq_idiv dL_law_1180 (by omega) (by omega) (by omega) ?_
  refine q_aload_n dL_law_1181 rfl 9 rfl ?_
  refine q_iconst (v := (nI 0)) dL_law_1182 (by decide) ?_
  refine nq_iald dL_law_1183 hL6.r1 (by omega) (by decide) ?_
  refine nq_irem dL_law_1184 (by omega) (by omega) (by omega) ?_
  refine nq_icmp_ne 1192 dL_law_1185 (by decide) (by omega) (by omega) (fun c7 => absurd c7 (by omega)) (fun c7 => ?_)
  refine q_iconst (v := (nI 1)) dL_law_1188 (by decide) ?_
  refine q_goto 1193 dL_law_1189 (by decide) ?_
  refine q_istore [(7, .int (nI 1)), (14, .int (nI (A 19 (5 * (z % B 1 3) + z / 8 % 5)))), (13, .int (nI z)), (12, .int (nI c)), (11, .int (nI y)), (9, .int (nI x)), (8, .int (nI t)), (0, .ref X.1), (1, .ref (Q 0)), (2, .ref (Q 1)), (3, .ref (Q 2)), (4, .ref (Q 3)), (5, .ref (Q 4)), (6, .ref (Q 5))] dL_law_1193 (by decide) rfl ?_
  refine q_goto 1445 dL_law_1195 (by decide) ?_
  exact WL.loc [4, 5, 6, 0, 7, 8, 9, 10, 11, 12, 13] rfl (WL.bud (by omega) (by omega) (K _ _ _ hL6 (i_fill (i_fill hI (t := z % B 1 3) (s := z / 8 % 5) (q := z / 40 % B 1 0) (by omega) hq) (t := z % B 1 3) (s := z / 8 % 5) (q := z / 40 % B 1 0) (by omega) hq) (hR) (hA)))
set_option maxRecDepth 100000 in
set_option maxHeartbeats 4000000 in
theorem la_price {X : SX} {b0 : Nat} {Q : Nat → Nat} {bc bs : Nat} {A B : ST} {G : GH} (hL : LW Q A B G) (hI : Inv A) (hR : Rl A B) (hA : Ap A) {t x y c z : Nat} (hx : x < 2 ^ 31) (hy : y < 2 ^ 31) (hz : z < 2 ^ 31)  (K : LK X b0 Q bc bs t x y) : WL X mL_law 12 b0 (fun r _ => r = some (.int 1)) NoX G (bc + 700) (bs + 14000) 1205 [(13, .int (nI z)), (12, .int (nI c)), (11, .int (nI y)), (9, .int (nI x)), (8, .int (nI t)), (7, .int (nI 1)), (0, .ref X.1), (1, .ref (Q 0)), (2, .ref (Q 1)), (3, .ref (Q 2)), (4, .ref (Q 3)), (5, .ref (Q 4)), (6, .ref (Q 5))] [] := by
  have hm0 := hR.m0
  have hm1 := hR.m1
  have hm2 := hR.m2
  have hm3 := hR.m3
  have hm4 := hR.m4
  have hn9 := hR.n9
  have hb0 := hI.b0
  have hb2 := hI.b2
  have hb15 := hI.b15
  have hb18 := hI.b18
  have hp5 := hR.p0 (g := z % 3) (by omega)
  have hpr := hI.pr (z % 3) (by omega)
  refine q_aload_n dL_law_1205 rfl 7 rfl ?_
  refine q_bipush (v := (nI 12)) dL_law_1206 (by decide) ?_
  refine q_iload dL_law_1208 0 rfl ?_
  refine q_iconst (v := (nI 3)) dL_law_1210 (by decide) ?_
  refine nq_irem dL_law_1211 (by omega) (by omega) (by omega) ?_
  refine q_iload dL_law_1212 0 rfl ?_
  refine q_iconst (v := (nI 3)) dL_law_1214 (by decide) ?_
  refine nq_idiv dL_law_1215 (by omega) (by omega) (by omega) ?_
  refine q_sipush (v := (nI 1001)) dL_law_1216 (by decide) ?_
  refine nq_irem dL_law_1219 (by omega) (by omega) (by omega) ?_
  refine q_iconst (v := (nI 0)) dL_law_1220 (by decide) ?_
  refine q_iconst (v := (nI 0)) dL_law_1221 (by decide) ?_
  refine q_callSW (st := []) [.ref (Q 0), .int (nI 12), .int (nI (z % 3)), .int (nI ((z / 3) % 1001)), .int (nI 0), .int (nI 0)] (bc + 680) (bs + 13600) dL_law_1222 kL_act nL_act lRL_88 (L_price (d := 2) hL hI (l := z % 3) (v := z / 3 % 1001) (by omega) (by omega)) rfl rfl (Nat.le_of_ble_eq_true rfl) (by omega) (by omega) ?_
  intro r G1 hr
  obtain ⟨rfl, hL2⟩ := hr
  show WL X mL_law _ _ _ _ _ _ _ 1225 [(13, .int (nI z)), (12, .int (nI c)), (11, .int (nI y)), (9, .int (nI x)), (8, .int (nI t)), (7, .int (nI 1)), (0, .ref X.1), (1, .ref (Q 0)), (2, .ref (Q 1)), (3, .ref (Q 2)), (4, .ref (Q 3)), (5, .ref (Q 4)), (6, .ref (Q 5))] [.int (nI (A 21 (z % 3)))]
  refine q_aload dL_law_1225 12 rfl ?_
  refine q_iload dL_law_1227 0 rfl ?_
  refine q_iconst (v := (nI 3)) dL_law_1229 (by decide) ?_
  refine nq_irem dL_law_1230 (by omega) (by omega) (by omega) ?_
  refine nq_iald dL_law_1231 hL2.r5 (by omega) (by decide) ?_
  refine nq_icmp_ne 1239 dL_law_1232 (by decide) (by omega) (by omega) (fun c3 => absurd c3 (by omega)) (fun c3 => ?_)
  refine q_iconst (v := (nI 1)) dL_law_1235 (by decide) ?_
  refine q_goto 1240 dL_law_1236 (by decide) ?_
  refine q_istore [(7, .int (nI 1)), (13, .int (nI z)), (12, .int (nI c)), (11, .int (nI y)), (9, .int (nI x)), (8, .int (nI t)), (0, .ref X.1), (1, .ref (Q 0)), (2, .ref (Q 1)), (3, .ref (Q 2)), (4, .ref (Q 3)), (5, .ref (Q 4)), (6, .ref (Q 5))] dL_law_1240 (by decide) rfl ?_
  refine q_aload dL_law_1242 12 rfl ?_
  refine q_iload dL_law_1244 1 rfl ?_
  refine q_iconst (v := (nI 3)) dL_law_1246 (by decide) ?_
  refine nq_irem dL_law_1247 (by omega) (by omega) (by omega) ?_
  refine q_iload dL_law_1248 1 rfl ?_
  refine q_iconst (v := (nI 3)) dL_law_1250 (by decide) ?_
  refine nq_idiv dL_law_1251 (by omega) (by omega) (by omega) ?_
  refine q_sipush (v := (nI 1001)) dL_law_1252 (by decide) ?_
  refine nq_irem dL_law_1255 (by omega) (by omega) (by omega) ?_
  refine nq_iast dL_law_1256 hL2.r5 (by omega) (by decide) ?_
  have hL4 := hL2.w5 (j := z % 3) (v := (z / 3) % 1001) (by omega)
  have hb5 : (setA B 5 (z % 3) ((z / 3) % 1001)) 5 (z % 3) = (z / 3) % 1001 := setA_s
  refine q_goto 1445 dL_law_1257 (by decide) ?_
  exact WL.loc [3, 4, 5, 0, 6, 7, 8, 9, 10, 11, 12] rfl (WL.bud (by omega) (by omega) (K _ _ _ hL4 (i_price hI (l := z % 3) (v := z / 3 % 1001) (by omega)) (rl_price hR (by omega)) (hA)))
set_option maxRecDepth 100000 in
set_option maxHeartbeats 4000000 in
theorem la_put2 {X : SX} {b0 : Nat} {Q : Nat → Nat} {bc bs : Nat} {A B : ST} {G : GH} (hL : LW Q A B G) (hI : Inv A) (hR : Rl A B) (hA : Ap A) {t x y c z : Nat} (hx : x < 2 ^ 31) (hy : y < 2 ^ 31) (hz : z < 2 ^ 31) {i : Nat} (hc : c < A 9 0) (hi : i < A 15 0) (K : LK X b0 Q bc bs t x y) : WL X mL_law 12 b0 (fun r _ => r = some (.int 1)) NoX G (bc + 700) (bs + 14000) 1342 [(15, .int (b2i (hpA A i c (A 17 i)))), (14, .int (nI i)), (13, .int (nI z)), (12, .int (nI c)), (11, .int (nI y)), (9, .int (nI x)), (8, .int (nI t)), (7, .int (nI 1)), (0, .ref X.1), (1, .ref (Q 0)), (2, .ref (Q 1)), (3, .ref (Q 2)), (4, .ref (Q 3)), (5, .ref (Q 4)), (6, .ref (Q 5))] [] := by
  have hm0 := hR.m0
  have hm1 := hR.m1
  have hm2 := hR.m2
  have hm3 := hR.m3
  have hm4 := hR.m4
  have hn9 := hR.n9
  have hb0 := hI.b0
  have hb2 := hI.b2
  have hb15 := hI.b15
  have hb18 := hI.b18
  have hq0 := hR.l0 (show i < 6 by omega)
  have hq2 := (hI.ro i (by omega)).1
  have hcl : ∀ k, k < A 17 i → cla A i k < 2 ^ 31 := fun k hk => Nat.lt_of_lt_of_le ((hI.ro i (by omega)).2 k hk).1 (by omega)
  have hhs : hsB (rg A 16 (6 * i) 6) (A 17 i) (nI c) = hpA A i c (A 17 i) := hpA_hs hcl (by omega) (A 17 i) (Nat.le_refl _) hq2
  rcases (show hpA A i c (A 17 i) = true ∨ (hpA A i c (A 17 i) = false ∧ A 17 i < 6) ∨ (hpA A i c (A 17 i) = false ∧ ¬ A 17 i < 6) by
    cases hpA A i c (A 17 i)
    · by_cases h9 : A 17 i < 6
      · exact Or.inr (Or.inl ⟨rfl, h9⟩)
      · exact Or.inr (Or.inr ⟨rfl, h9⟩)
    · exact Or.inl rfl) with hh | ⟨hh, h17⟩ | ⟨hh, h17⟩
  · refine q_iload dL_law_1342 0 rfl ?_
    refine nq_bif_ne 1364 dL_law_1344 (by decide) (fun c1 => ?_) (fun c1 => absurd c1 (by rw [hh]; decide))
    refine q_iconst (v := (nI 0)) dL_law_1364 (by decide) ?_
    refine q_istore [(16, .int (nI 0)), (15, .int (b2i (hpA A i c (A 17 i)))), (14, .int (nI i)), (13, .int (nI z)), (12, .int (nI c)), (11, .int (nI y)), (9, .int (nI x)), (8, .int (nI t)), (7, .int (nI 1)), (0, .ref X.1), (1, .ref (Q 0)), (2, .ref (Q 1)), (3, .ref (Q 2)), (4, .ref (Q 3)), (5, .ref (Q 4)), (6, .ref (Q 5))] dL_law_1365 (by decide) rfl ?_
    refine q_aload_n dL_law_1367 rfl 10 rfl ?_
    refine q_bipush (v := (nI 9)) dL_law_1368 (by decide) ?_
    refine q_iload dL_law_1370 2 rfl ?_
    refine q_iload dL_law_1372 4 rfl ?_
    refine q_iconst (v := (nI 0)) dL_law_1374 (by decide) ?_
    refine q_iconst (v := (nI 0)) dL_law_1375 (by decide) ?_
    refine q_callSW (st := []) [.ref (Q 0), .int (nI 9), .int (nI i), .int (nI c), .int (nI 0), .int (nI 0)] (bc + 680) (bs + 13600) dL_law_1376 kL_act nL_act lRL_88 (R_put_2a (d := 2) hL hI hi hc (by rw [hhs]; exact hh)) rfl rfl (Nat.le_of_ble_eq_true rfl) (by omega) (by omega) ?_
    refine ql_det (st2 := [.int (-1663000)]) rfl ?_
    refine q_iload dL_law_1379 0 rfl ?_
    refine nq_if_eq 1397 dL_law_1381 (by decide) (by omega) (fun c2 => ?_) (fun c2 => absurd c2 (by decide))
    refine q_ldc dL_law_1397 con_82 ?_
    refine q_icmp_ne 1406 dL_law_1399 (by decide) (fun c3 => absurd c3 (fun q => q rfl)) (fun c3 => ?_)
    refine q_iconst (v := (nI 1)) dL_law_1402 (by decide) ?_
    refine q_goto 1407 dL_law_1403 (by decide) ?_
    refine q_istore [(7, .int (nI 1)), (16, .int (nI 0)), (15, .int (b2i (hpA A i c (A 17 i)))), (14, .int (nI i)), (13, .int (nI z)), (12, .int (nI c)), (11, .int (nI y)), (9, .int (nI x)), (8, .int (nI t)), (0, .ref X.1), (1, .ref (Q 0)), (2, .ref (Q 1)), (3, .ref (Q 2)), (4, .ref (Q 3)), (5, .ref (Q 4)), (6, .ref (Q 5))] dL_law_1407 (by decide) rfl ?_
    refine q_iload dL_law_1409 1 rfl ?_
    refine nq_if_eq 1445 dL_law_1411 (by decide) (by omega) (fun c4 => ?_) (fun c4 => absurd c4 (by decide))
    exact WL.loc [6, 7, 8, 0, 9, 10, 11, 12, 13, 14, 15] rfl (WL.bud (by omega) (by omega) (K _ _ _ hL (hI) (hR) (hA)))
  · refine q_iload dL_law_1342 0 rfl ?_
    refine nq_bif_ne 1364 dL_law_1344 (by decide) (fun c5 => absurd c5 (by rw [hh]; decide)) (fun c5 => ?_)
    refine q_aload dL_law_1347 12 rfl ?_
    refine q_bipush (v := (nI 7)) dL_law_1349 (by decide) ?_
    refine q_iload dL_law_1351 1 rfl ?_
    refine nq_imul dL_law_1353 ?_
    refine nq_iald dL_law_1354 hL.r3 (by omega) (by decide) ?_
    refine q_bipush (v := (nI 6)) dL_law_1355 (by decide) ?_
    refine nq_icmp_ge 1364 dL_law_1357 (by decide) (by omega) (by omega) (fun c6 => absurd c6 (by omega)) (fun c6 => ?_)
    refine q_iconst (v := (nI 1)) dL_law_1360 (by decide) ?_
    refine q_goto 1365 dL_law_1361 (by decide) ?_
    refine q_istore [(16, .int (nI 1)), (15, .int (b2i (hpA A i c (A 17 i)))), (14, .int (nI i)), (13, .int (nI z)), (12, .int (nI c)), (11, .int (nI y)), (9, .int (nI x)), (8, .int (nI t)), (7, .int (nI 1)), (0, .ref X.1), (1, .ref (Q 0)), (2, .ref (Q 1)), (3, .ref (Q 2)), (4, .ref (Q 3)), (5, .ref (Q 4)), (6, .ref (Q 5))] dL_law_1365 (by decide) rfl ?_
    refine q_aload_n dL_law_1367 rfl 10 rfl ?_
    refine q_bipush (v := (nI 9)) dL_law_1368 (by decide) ?_
    refine q_iload dL_law_1370 2 rfl ?_
    refine q_iload dL_law_1372 4 rfl ?_
    refine q_iconst (v := (nI 0)) dL_law_1374 (by decide) ?_
    refine q_iconst (v := (nI 0)) dL_law_1375 (by decide) ?_
    refine q_callSW (st := []) [.ref (Q 0), .int (nI 9), .int (nI i), .int (nI c), .int (nI 0), .int (nI 0)] (bc + 680) (bs + 13600) dL_law_1376 kL_act nL_act lRL_88 (L_put (d := 2) hL hI hi hc (by rw [hhs]; exact hh) h17) rfl rfl (Nat.le_of_ble_eq_true rfl) (by omega) (by omega) ?_
    intro r G7 hr
    obtain ⟨rfl, hL8⟩ := hr
    show WL X mL_law _ _ _ _ _ _ _ 1379 [(16, .int (nI 1)), (15, .int (b2i (hpA A i c (A 17 i)))), (14, .int (nI i)), (13, .int (nI z)), (12, .int (nI c)), (11, .int (nI y)), (9, .int (nI x)), (8, .int (nI t)), (7, .int (nI 1)), (0, .ref X.1), (1, .ref (Q 0)), (2, .ref (Q 1)), (3, .ref (Q 2)), (4, .ref (Q 3)), (5, .ref (Q 4)), (6, .ref (Q 5))] [.int (nI (A 17 i + 1))]
    refine q_iload dL_law_1379 0 rfl ?_
    refine nq_if_eq 1397 dL_law_1381 (by decide) (by omega) (fun c9 => absurd c9 (by decide)) (fun c9 => ?_)
    refine q_aload dL_law_1384 13 rfl ?_
    refine q_bipush (v := (nI 7)) dL_law_1386 (by decide) ?_
    refine q_iload dL_law_1388 2 rfl ?_
    refine nq_imul dL_law_1390 ?_
    refine nq_iald dL_law_1391 hL8.r3 (by omega) (by decide) ?_
    refine q_iconst (v := (nI 1)) dL_law_1392 (by decide) ?_
    refine nq_iadd dL_law_1393 ?_
    refine q_goto 1399 dL_law_1394 (by decide) ?_
    refine nq_icmp_ne 1406 dL_law_1399 (by decide) (by omega) (by omega) (fun c10 => absurd c10 (by omega)) (fun c10 => ?_)
    refine q_iconst (v := (nI 1)) dL_law_1402 (by decide) ?_
    refine q_goto 1407 dL_law_1403 (by decide) ?_
    refine q_istore [(7, .int (nI 1)), (16, .int (nI 1)), (15, .int (b2i (hpA A i c (A 17 i)))), (14, .int (nI i)), (13, .int (nI z)), (12, .int (nI c)), (11, .int (nI y)), (9, .int (nI x)), (8, .int (nI t)), (0, .ref X.1), (1, .ref (Q 0)), (2, .ref (Q 1)), (3, .ref (Q 2)), (4, .ref (Q 3)), (5, .ref (Q 4)), (6, .ref (Q 5))] dL_law_1407 (by decide) rfl ?_
    refine q_iload dL_law_1409 1 rfl ?_
    refine nq_if_eq 1445 dL_law_1411 (by decide) (by omega) (fun c11 => absurd c11 (by decide)) (fun c11 => ?_)
    refine q_aload dL_law_1414 13 rfl ?_
    refine q_bipush (v := (nI 7)) dL_law_1416 (by decide) ?_
    refine q_iload dL_law_1418 3 rfl ?_
    refine nq_imul dL_law_1420 ?_
    refine q_dup2 dL_law_1421 rfl rfl ?_
    refine nq_iald dL_law_1422 hL8.r3 (by omega) (by decide) ?_
    refine q_iconst (v := (nI 1)) dL_law_1423 (by decide) ?_
    refine nq_iadd dL_law_1424 ?_
    refine nq_iast dL_law_1425 hL8.r3 (by omega) (by decide) ?_
    have hL12 := hL8.w3 (j := 7 * i) (v := (B 3 (7 * i)) + 1) (by omega)
    have hb13 : (setA B 3 (7 * i) ((B 3 (7 * i)) + 1)) 3 (7 * i) = (B 3 (7 * i)) + 1 := setA_s
    refine q_aload dL_law_1426 13 rfl ?_
    refine q_bipush (v := (nI 7)) dL_law_1428 (by decide) ?_
    refine q_iload dL_law_1430 3 rfl ?_
    refine nq_imul dL_law_1432 ?_
    refine q_aload dL_law_1433 13 rfl ?_
    refine q_bipush (v := (nI 7)) dL_law_1435 (by decide) ?_
    refine q_iload dL_law_1437 3 rfl ?_
    refine nq_imul dL_law_1439 ?_
    refine nq_iald dL_law_1440 hL12.r3 (by omega) (by decide) ?_
    refine nq_iadd dL_law_1441 ?_
    refine q_iload dL_law_1442 5 rfl ?_
    refine nq_iast dL_law_1444 hL12.r3 (by omega) (by decide) ?_
    have hL14 := hL12.w3 (j := (7 * i) + ((setA B 3 (7 * i) ((B 3 (7 * i)) + 1)) 3 (7 * i))) (v := c) (by omega)
    have hb15 : (setA (setA B 3 (7 * i) ((B 3 (7 * i)) + 1)) 3 ((7 * i) + ((setA B 3 (7 * i) ((B 3 (7 * i)) + 1)) 3 (7 * i))) c) 3 ((7 * i) + ((setA B 3 (7 * i) ((B 3 (7 * i)) + 1)) 3 (7 * i))) = c := setA_s
    exact WL.loc [6, 7, 8, 0, 9, 10, 11, 12, 13, 14, 15] rfl (WL.bud (by omega) (by omega) (K _ _ _ hL14 (i_put hI hi hc (by rw [show hlB A i c = hsB (rg A 16 (6 * i) 6) (A 17 i) (nI c) from rfl, hhs]; exact hh) h17) (rl_put hR (fun i hi => (hI.ro i hi).1) (by omega) h17 (by omega) (by omega)) (hA)))
  · refine q_iload dL_law_1342 0 rfl ?_
    refine nq_bif_ne 1364 dL_law_1344 (by decide) (fun c16 => absurd c16 (by rw [hh]; decide)) (fun c16 => ?_)
    refine q_aload dL_law_1347 12 rfl ?_
    refine q_bipush (v := (nI 7)) dL_law_1349 (by decide) ?_
    refine q_iload dL_law_1351 1 rfl ?_
    refine nq_imul dL_law_1353 ?_
    refine nq_iald dL_law_1354 hL.r3 (by omega) (by decide) ?_
    refine q_bipush (v := (nI 6)) dL_law_1355 (by decide) ?_
    refine nq_icmp_ge 1364 dL_law_1357 (by decide) (by omega) (by omega) (fun c17 => ?_) (fun c17 => absurd c17 (by omega))
    refine q_iconst (v := (nI 0)) dL_law_1364 (by decide) ?_
    refine q_istore [(16, .int (nI 0)), (15, .int (b2i (hpA A i c (A 17 i)))), (14, .int (nI i)), (13, .int (nI z)), (12, .int (nI c)), (11, .int (nI y)), (9, .int (nI x)), (8, .int (nI t)), (7, .int (nI 1)), (0, .ref X.1), (1, .ref (Q 0)), (2, .ref (Q 1)), (3, .ref (Q 2)), (4, .ref (Q 3)), (5, .ref (Q 4)), (6, .ref (Q 5))] dL_law_1365 (by decide) rfl ?_
    refine q_aload_n dL_law_1367 rfl 10 rfl ?_
    refine q_bipush (v := (nI 9)) dL_law_1368 (by decide) ?_
    refine q_iload dL_law_1370 2 rfl ?_
    refine q_iload dL_law_1372 4 rfl ?_
    refine q_iconst (v := (nI 0)) dL_law_1374 (by decide) ?_
    refine q_iconst (v := (nI 0)) dL_law_1375 (by decide) ?_
    refine q_callSW (st := []) [.ref (Q 0), .int (nI 9), .int (nI i), .int (nI c), .int (nI 0), .int (nI 0)] (bc + 680) (bs + 13600) dL_law_1376 kL_act nL_act lRL_88 (R_put_2b (d := 2) hL hI hi hc (by rw [hhs]; exact hh) h17) rfl rfl (Nat.le_of_ble_eq_true rfl) (by omega) (by omega) ?_
    refine ql_det (st2 := [.int (-1663000)]) rfl ?_
    refine q_iload dL_law_1379 0 rfl ?_
    refine nq_if_eq 1397 dL_law_1381 (by decide) (by omega) (fun c18 => ?_) (fun c18 => absurd c18 (by decide))
    refine q_ldc dL_law_1397 con_82 ?_
    refine q_icmp_ne 1406 dL_law_1399 (by decide) (fun c19 => absurd c19 (fun q => q rfl)) (fun c19 => ?_)
    refine q_iconst (v := (nI 1)) dL_law_1402 (by decide) ?_
    refine q_goto 1407 dL_law_1403 (by decide) ?_
    refine q_istore [(7, .int (nI 1)), (16, .int (nI 0)), (15, .int (b2i (hpA A i c (A 17 i)))), (14, .int (nI i)), (13, .int (nI z)), (12, .int (nI c)), (11, .int (nI y)), (9, .int (nI x)), (8, .int (nI t)), (0, .ref X.1), (1, .ref (Q 0)), (2, .ref (Q 1)), (3, .ref (Q 2)), (4, .ref (Q 3)), (5, .ref (Q 4)), (6, .ref (Q 5))] dL_law_1407 (by decide) rfl ?_
    refine q_iload dL_law_1409 1 rfl ?_
    refine nq_if_eq 1445 dL_law_1411 (by decide) (by omega) (fun c20 => ?_) (fun c20 => absurd c20 (by decide))
    exact WL.loc [6, 7, 8, 0, 9, 10, 11, 12, 13, 14, 15] rfl (WL.bud (by omega) (by omega) (K _ _ _ hL (hI) (hR) (hA)))
set_option maxRecDepth 100000 in
set_option maxHeartbeats 4000000 in
theorem la_putl {X : SX} {b0 : Nat} {Q : Nat → Nat} {bc bs : Nat} {A B : ST} {G : GH} (hL : LW Q A B G) (hI : Inv A) (hR : Rl A B) (hA : Ap A) {t x y c z : Nat} (hx : x < 2 ^ 31) (hy : y < 2 ^ 31) (hz : z < 2 ^ 31) {i : Nat} (hc : c < A 9 0) (hi : i < A 15 0) (K : LK X b0 Q bc bs t x y) : ∀ (fu : Nat) (k : Nat), k ≤ A 17 i → A 17 i - k < fu → WL X mL_law 12 b0 (fun r _ => r = some (.int 1)) NoX G (bc + 700) (bs + 14000) 1293 [(16, .int (nI k)), (15, .int (b2i (hpA A i c k))), (14, .int (nI i)), (13, .int (nI z)), (12, .int (nI c)), (11, .int (nI y)), (9, .int (nI x)), (8, .int (nI t)), (7, .int (nI 1)), (0, .ref X.1), (1, .ref (Q 0)), (2, .ref (Q 1)), (3, .ref (Q 2)), (4, .ref (Q 3)), (5, .ref (Q 4)), (6, .ref (Q 5))] [] := by
  intro fu
  induction fu with
  | zero => intro k hinv hn; exact absurd hn (Nat.not_lt_zero _)
  | succ fu ih =>
    intro k hinv hn
    have hm0 := hR.m0
    have hm1 := hR.m1
    have hm2 := hR.m2
    have hm3 := hR.m3
    have hm4 := hR.m4
    have hn9 := hR.n9
    have hb0 := hI.b0
    have hb2 := hI.b2
    have hb15 := hI.b15
    have hb18 := hI.b18
    have hq0 := hR.l0 (show i < 6 by omega)
    have hq2 := (hI.ro i (by omega)).1
    refine q_iload dL_law_1293 0 rfl ?_
    refine q_aload dL_law_1295 13 rfl ?_
    refine q_bipush (v := (nI 7)) dL_law_1297 (by decide) ?_
    refine q_iload dL_law_1299 2 rfl ?_
    refine nq_imul dL_law_1301 ?_
    refine nq_iald dL_law_1302 hL.r3 (by omega) (by decide) ?_
    refine nq_icmp_ge 1342 dL_law_1303 (by decide) (by omega) (by omega) (fun ce => ?_) (fun ce => ?_)
    · have hk9 : k = A 17 i := by omega
      rw [hk9]
      exact WL.loc [1, 2, 3, 4, 5, 6, 7, 8, 9, 10, 11, 12, 13, 14, 15] rfl (la_put2 hL hI hR hA hx hy hz hc hi K)
    · have e1 : B 3 (7 * i + 1 + k) = cla A i k := hR.l1 (by omega) (by omega)
      have e2 : cla A i k < A 9 0 := ((hI.ro i (by omega)).2 k (by omega)).1
      refine q_iload dL_law_1306 1 rfl ?_
      refine nq_bif_ne 1329 dL_law_1308 (by decide) (fun c1308 => ?_) (fun c1308 => ?_)
      · refine q_iconst (v := (nI 1)) dL_law_1329 (by decide) ?_
        refine q_goto 1334 dL_law_1330 (by decide) ?_
        refine q_top (b2i (hpA A i c (k + 1))) (by
          show _ = b2i (hpA A i c k || decide (cla A i k = c))
          rw [c1308]; rfl) ?_
        refine q_istore [(15, .int (b2i (hpA A i c (k + 1)))), (16, .int (nI k)), (14, .int (nI i)), (13, .int (nI z)), (12, .int (nI c)), (11, .int (nI y)), (9, .int (nI x)), (8, .int (nI t)), (7, .int (nI 1)), (0, .ref X.1), (1, .ref (Q 0)), (2, .ref (Q 1)), (3, .ref (Q 2)), (4, .ref (Q 3)), (5, .ref (Q 4)), (6, .ref (Q 5))] dL_law_1334 (by decide) rfl ?_
        refine q_iinc (nI (k + 1)) [(16, .int (nI (k + 1))), (15, .int (b2i (hpA A i c (k + 1)))), (14, .int (nI i)), (13, .int (nI z)), (12, .int (nI c)), (11, .int (nI y)), (9, .int (nI x)), (8, .int (nI t)), (7, .int (nI 1)), (0, .ref X.1), (1, .ref (Q 0)), (2, .ref (Q 1)), (3, .ref (Q 2)), (4, .ref (Q 3)), (5, .ref (Q 4)), (6, .ref (Q 5))] dL_law_1336 1 rfl (nI_add k 1) (by decide) rfl ?_
        refine q_goto 1293 dL_law_1339 (by decide) ?_
        exact WL.loc [0, 1, 2, 3, 4, 5, 6, 7, 8, 9, 10, 11, 12, 13, 14, 15] rfl (ih (k + 1) (by omega) (by omega))
      · refine q_aload dL_law_1311 13 rfl ?_
        refine q_bipush (v := (nI 7)) dL_law_1313 (by decide) ?_
        refine q_iload dL_law_1315 2 rfl ?_
        refine nq_imul dL_law_1317 ?_
        refine q_iconst (v := (nI 1)) dL_law_1318 (by decide) ?_
        refine nq_iadd dL_law_1319 ?_
        refine q_iload dL_law_1320 0 rfl ?_
        refine nq_iadd dL_law_1322 ?_
        refine nq_iald dL_law_1323 hL.r3 (by omega) (by decide) ?_
        refine q_top (nI (cla A i k)) (by rw [e1]) ?_
        refine q_iload dL_law_1324 4 rfl ?_
        refine nq_icmp_ne 1333 dL_law_1326 (by decide) (by omega) (by omega) (fun c1326 => ?_) (fun c1326 => ?_)
        · refine q_iconst (v := (nI 0)) dL_law_1333 (by decide) ?_
          refine q_top (b2i (hpA A i c (k + 1))) (by
            show _ = b2i (hpA A i c k || decide (cla A i k = c))
            rw [c1308, decide_eq_false c1326]; rfl) ?_
          refine q_istore [(15, .int (b2i (hpA A i c (k + 1)))), (16, .int (nI k)), (14, .int (nI i)), (13, .int (nI z)), (12, .int (nI c)), (11, .int (nI y)), (9, .int (nI x)), (8, .int (nI t)), (7, .int (nI 1)), (0, .ref X.1), (1, .ref (Q 0)), (2, .ref (Q 1)), (3, .ref (Q 2)), (4, .ref (Q 3)), (5, .ref (Q 4)), (6, .ref (Q 5))] dL_law_1334 (by decide) rfl ?_
          refine q_iinc (nI (k + 1)) [(16, .int (nI (k + 1))), (15, .int (b2i (hpA A i c (k + 1)))), (14, .int (nI i)), (13, .int (nI z)), (12, .int (nI c)), (11, .int (nI y)), (9, .int (nI x)), (8, .int (nI t)), (7, .int (nI 1)), (0, .ref X.1), (1, .ref (Q 0)), (2, .ref (Q 1)), (3, .ref (Q 2)), (4, .ref (Q 3)), (5, .ref (Q 4)), (6, .ref (Q 5))] dL_law_1336 1 rfl (nI_add k 1) (by decide) rfl ?_
          refine q_goto 1293 dL_law_1339 (by decide) ?_
          exact WL.loc [0, 1, 2, 3, 4, 5, 6, 7, 8, 9, 10, 11, 12, 13, 14, 15] rfl (ih (k + 1) (by omega) (by omega))
        · refine q_iconst (v := (nI 1)) dL_law_1329 (by decide) ?_
          refine q_goto 1334 dL_law_1330 (by decide) ?_
          refine q_top (b2i (hpA A i c (k + 1))) (by
            show _ = b2i (hpA A i c k || decide (cla A i k = c))
            rw [c1308, decide_eq_true c1326]; rfl) ?_
          refine q_istore [(15, .int (b2i (hpA A i c (k + 1)))), (16, .int (nI k)), (14, .int (nI i)), (13, .int (nI z)), (12, .int (nI c)), (11, .int (nI y)), (9, .int (nI x)), (8, .int (nI t)), (7, .int (nI 1)), (0, .ref X.1), (1, .ref (Q 0)), (2, .ref (Q 1)), (3, .ref (Q 2)), (4, .ref (Q 3)), (5, .ref (Q 4)), (6, .ref (Q 5))] dL_law_1334 (by decide) rfl ?_
          refine q_iinc (nI (k + 1)) [(16, .int (nI (k + 1))), (15, .int (b2i (hpA A i c (k + 1)))), (14, .int (nI i)), (13, .int (nI z)), (12, .int (nI c)), (11, .int (nI y)), (9, .int (nI x)), (8, .int (nI t)), (7, .int (nI 1)), (0, .ref X.1), (1, .ref (Q 0)), (2, .ref (Q 1)), (3, .ref (Q 2)), (4, .ref (Q 3)), (5, .ref (Q 4)), (6, .ref (Q 5))] dL_law_1336 1 rfl (nI_add k 1) (by decide) rfl ?_
          refine q_goto 1293 dL_law_1339 (by decide) ?_
          exact WL.loc [0, 1, 2, 3, 4, 5, 6, 7, 8, 9, 10, 11, 12, 13, 14, 15] rfl (ih (k + 1) (by omega) (by omega))
set_option maxRecDepth 100000 in
set_option maxHeartbeats 4000000 in
theorem la_put {X : SX} {b0 : Nat} {Q : Nat → Nat} {bc bs : Nat} {A B : ST} {G : GH} (hL : LW Q A B G) (hI : Inv A) (hR : Rl A B) (hA : Ap A) {t x y c z : Nat} (hx : x < 2 ^ 31) (hy : y < 2 ^ 31) (hz : z < 2 ^ 31) (hc : c < A 9 0) (h15 : 0 < A 15 0) (K : LK X b0 Q bc bs t x y) : WL X mL_law 12 b0 (fun r _ => r = some (.int 1)) NoX G (bc + 700) (bs + 14000) 1279 [(13, .int (nI z)), (12, .int (nI c)), (11, .int (nI y)), (9, .int (nI x)), (8, .int (nI t)), (7, .int (nI 1)), (0, .ref X.1), (1, .ref (Q 0)), (2, .ref (Q 1)), (3, .ref (Q 2)), (4, .ref (Q 3)), (5, .ref (Q 4)), (6, .ref (Q 5))] [] := by
  have hm0 := hR.m0
  have hm1 := hR.m1
  have hm2 := hR.m2
  have hm3 := hR.m3
  have hm4 := hR.m4
  have hn9 := hR.n9
  have hb0 := hI.b0
  have hb2 := hI.b2
  have hb15 := hI.b15
  have hb18 := hI.b18
  refine q_iload dL_law_1279 0 rfl ?_
  refine q_aload_n dL_law_1281 rfl 8 rfl ?_
  refine q_iconst (v := (nI 2)) dL_law_1282 (by decide) ?_
  refine nq_iald dL_law_1283 hL.r1 (by omega) (by decide) ?_
  refine nq_irem dL_law_1284 (by omega) (by omega) (by omega) ?_
  have hi : z % B 1 2 < A 15 0 := by rw [← hm2]; exact Nat.mod_lt _ (by omega)
  revert hi
  generalize z % B 1 2 = i
  intro hi
  refine q_istore [(14, .int (nI i)), (13, .int (nI z)), (12, .int (nI c)), (11, .int (nI y)), (9, .int (nI x)), (8, .int (nI t)), (7, .int (nI 1)), (0, .ref X.1), (1, .ref (Q 0)), (2, .ref (Q 1)), (3, .ref (Q 2)), (4, .ref (Q 3)), (5, .ref (Q 4)), (6, .ref (Q 5))] dL_law_1285 (by decide) rfl ?_
  refine q_iconst (v := (nI 0)) dL_law_1287 (by decide) ?_
  refine q_istore [(15, .int (nI 0)), (14, .int (nI i)), (13, .int (nI z)), (12, .int (nI c)), (11, .int (nI y)), (9, .int (nI x)), (8, .int (nI t)), (7, .int (nI 1)), (0, .ref X.1), (1, .ref (Q 0)), (2, .ref (Q 1)), (3, .ref (Q 2)), (4, .ref (Q 3)), (5, .ref (Q 4)), (6, .ref (Q 5))] dL_law_1288 (by decide) rfl ?_
  refine q_iconst (v := (nI 0)) dL_law_1290 (by decide) ?_
  refine q_istore [(16, .int (nI 0)), (15, .int (nI 0)), (14, .int (nI i)), (13, .int (nI z)), (12, .int (nI c)), (11, .int (nI y)), (9, .int (nI x)), (8, .int (nI t)), (7, .int (nI 1)), (0, .ref X.1), (1, .ref (Q 0)), (2, .ref (Q 1)), (3, .ref (Q 2)), (4, .ref (Q 3)), (5, .ref (Q 4)), (6, .ref (Q 5))] dL_law_1291 (by decide) rfl ?_
  exact WL.loc [0, 1, 2, 3, 4, 5, 6, 7, 8, 9, 10, 11, 12, 13, 14, 15] rfl (la_putl hL hI hR hA hx hy hz hc hi K (A 17 i + 1) 0 (Nat.zero_le _) (by omega))
