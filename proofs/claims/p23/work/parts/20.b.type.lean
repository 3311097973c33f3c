/-- one sign more in the buffer -/
def Ty (A A2 : ST) (c : Nat) : Prop := Inv A2 ∧ Kp A A2 ∧ A2 0 0 = A 0 0 + 1 ∧ A2 1 (A 0 0) = c ∧ ∀ k, k ≠ A 0 0 → A2 1 k = A 1 k
theorem L_typ {d b0 : Nat} {Q : Nat → Nat} {A B : ST} {G : GH} (h : LW Q A B G) (hI : Inv A) {y0 y1 y2 : Int32} {c : Nat} (hc : c < 65536) (hlt : A 0 0 < 60) : CT mL_act (d + 9) b0 G [.ref (Q 0), .int (nI 0), .int (nI c), .int y0, .int y1, .int y2] 20 400 (fun r G' => r = some (.int (nI (A 0 0 + 1))) ∧ ∃ A2, LW Q A2 B G' ∧ Ty A A2 c) NoX :=
  (L_type h hI hc hlt).mono (fun r G' hr => ⟨hr.1, _, hr.2, i_type hI hc hlt, fun f h1 h2 h3 => by
    funext k
    rw [setA_f h2, setA_f h3], setA_s, by rw [setA_f (by decide), setA_s], fun k hk => by rw [setA_f (by decide), setA_n hk]⟩) (fun _ _ h => h)
theorem L_clr {d b0 : Nat} {Q : Nat → Nat} {A B : ST} {G : GH} (h : LW Q A B G) (hI : Inv A) : CT mX8_clear (d + 8) b0 G [.ref (Q 0)] 20 400 (fun r G' => r = some (.int (nI (A 0 0))) ∧ ∃ A2, LW Q A2 B G' ∧ Inv A2 ∧ Kp A A2 ∧ A2 0 0 = 0) NoX :=
  (L_clear h hI).mono (fun r G' hr => ⟨hr.1, _, hr.2, i_clear hI, fun f h1 h2 h3 => by
    funext k
    rw [setA_f h2], setA_s⟩) (fun _ _ h => h)
set_option maxRecDepth 100000 in
set_option maxHeartbeats 4000000 in
theorem l_types1 {d b0 : Nat} {Q : Nat → Nat} {A0 : ST} {x : Nat} (hx : x < 2 ^ 31) : ∀ (fu : Nat) (k : Nat) (A B : ST) (G : GH), (LW Q A B G ∧ Inv A ∧ Rl A B ∧ Kp A0 A ∧ k ≤ 6) → 6 - k < fu → WP mL_types (d + 10) b0 (fun r G' => r = some (.int (nI 1)) ∧ ∃ A2 B2, LW Q A2 B2 G' ∧ Inv A2 ∧ Rl A2 B2 ∧ Kp A0 A2) NoX G (100 * (6 - k)) (2000 * (6 - k)) 5 [(4, .int (nI k)), (3, .int (nI 1)), (0, .ref (Q 0)), (1, .ref (Q 1)), (2, .int (nI x))] [] := by
  intro fu
  induction fu with
  | zero => intro k A B G hinv hn; exact absurd hn (Nat.not_lt_zero _)
  | succ fu ih =>
    intro k A B G hinv hn
    obtain ⟨hL, hI, hR, hK, hk⟩ := hinv
    have hm0 := hR.m0
    have hm1 := hR.m1
    have hm2 := hR.m2
    have hm3 := hR.m3
    have hm4 := hR.m4
    have hn9 := hR.n9
    have hb0 := hI.b0
    have hb2 := hI.b2
    have hb15 := hI.b15
    have hb18 := hI.b18
    refine r_iload dL_types_5 0 rfl ?_
    refine r_iconst (v := (nI 1)) dL_types_7 (by decide) ?_
    refine r_iload_n dL_types_8 rfl 4 rfl ?_
    refine r_bipush (v := (nI 6)) dL_types_9 (by decide) ?_
    refine n_irem dL_types_11 (by omega) (by omega) (by omega) ?_
    refine n_iadd dL_types_12 ?_
    refine n_icmp_ge 306 dL_types_13 (by decide) (by omega) (by omega) (fun ce => ?_) (fun ce => ?_)
    · refine r_iload_n dL_types_306 rfl 1 rfl ?_
      refine r_ret .boolean dL_types_307 rfl rfl ?_
      exact ⟨rfl, _, _, hL, hI, hR, hK⟩
    · refine WP.bud (bc' := 100 * (6 - (k + 1)) + 100) (bs' := 2000 * (6 - (k + 1)) + 2000) (by omega) (by omega) ?_
      refine r_iload_n dL_types_16 rfl 1 rfl ?_
      refine n_if_eq 306 dL_types_17 (by decide) (by omega) (fun c2 => absurd c2 (by decide)) (fun c2 => ?_)
      refine r_iload_n dL_types_20 rfl 4 rfl ?_
      refine r_bipush (v := (nI 6)) dL_types_21 (by decide) ?_
      refine r_bipush (v := (nI 7)) dL_types_23 (by decide) ?_
      refine r_iload dL_types_25 0 rfl ?_
      refine n_imul dL_types_27 ?_
      refine n_iadd dL_types_28 ?_
      refine n_idiv dL_types_29 (by omega) (by omega) (by omega) ?_
      have hy9 : x / (6 + 7 * k) < 2 ^ 31 := Nat.lt_of_le_of_lt (Nat.div_le_self _ _) hx
      revert hy9
      generalize x / (6 + 7 * k) = y
      intro hy9
      refine r_istore [(5, .int (nI y)), (4, .int (nI k)), (3, .int (nI 1)), (0, .ref (Q 0)), (1, .ref (Q 1)), (2, .int (nI x))] dL_types_30 (by decide) rfl ?_
      refine r_iload dL_types_32 0 rfl ?_
      refine r_iconst (v := (nI 4)) dL_types_34 (by decide) ?_
      refine n_irem dL_types_35 (by omega) (by omega) (by omega) ?_
      refine n_if_ne 222 dL_types_36 (by decide) (by omega) (fun c36 => ?_) (fun c36 => ?_)
      · refine r_aload_n dL_types_222 rfl 4 rfl ?_
        refine r_iconst (v := (nI 4)) dL_types_223 (by decide) ?_
        refine n_iald dL_types_224 hL.r1 (by omega) (by decide) ?_
        refine r_bipush (v := (nI 60)) dL_types_225 (by decide) ?_
        refine n_icmp_ge 300 dL_types_227 (by decide) (by omega) (by omega) (fun c227 => ?_) (fun c227 => ?_)
        · refine r_iinc (nI (k + 1)) [(4, .int (nI (k + 1))), (5, .int (nI y)), (3, .int (nI 1)), (0, .ref (Q 0)), (1, .ref (Q 1)), (2, .int (nI x))] dL_types_300 1 rfl (nI_add k 1) (by decide) rfl ?_
          refine r_goto 5 dL_types_303 (by decide) ?_
          exact WP.loc [0, 2, 3, 4, 5] rfl (WP.bud (by omega) (by omega) (ih (k + 1) _ _ _ ⟨hL, hI, hR, hK, by omega⟩ (by omega)))
        · refine r_aload_n dL_types_230 rfl 4 rfl ?_
          refine r_iconst (v := (nI 4)) dL_types_231 (by decide) ?_
          refine r_dup2 dL_types_232 rfl rfl ?_
          refine n_iald dL_types_233 hL.r1 (by omega) (by decide) ?_
          refine r_iconst (v := (nI 1)) dL_types_234 (by decide) ?_
          refine n_iadd dL_types_235 ?_
          refine n_iast dL_types_236 hL.r1 (by omega) (by decide) ?_
          have hL5 := hL.w1 (j := 4) (v := (B 1 4) + 1) (by omega)
          have hb6 : (setA B 1 4 ((B 1 4) + 1)) 1 4 = (B 1 4) + 1 := setA_s
          refine r_aload_n dL_types_237 rfl 3 rfl ?_
          refine r_iconst (v := (nI 0)) dL_types_238 (by decide) ?_
          refine r_iload dL_types_239 0 rfl ?_
          refine r_iconst (v := (nI 4)) dL_types_241 (by decide) ?_
          refine n_irem dL_types_242 (by omega) (by omega) (by omega) ?_
          refine r_iconst (v := (nI 1)) dL_types_243 (by decide) ?_
          refine n_icmp_ne 252 dL_types_244 (by decide) (by omega) (by omega) (fun c244 => ?_) (fun c244 => ?_)
          · refine r_iload dL_types_252 0 rfl ?_
            refine r_iconst (v := (nI 4)) dL_types_254 (by decide) ?_
            refine n_irem dL_types_255 (by omega) (by omega) (by omega) ?_
            refine r_iconst (v := (nI 2)) dL_types_256 (by decide) ?_
            refine n_icmp_ne 272 dL_types_257 (by decide) (by omega) (by omega) (fun c257 => ?_) (fun c257 => ?_)
            · refine r_bipush (v := (nI 97)) dL_types_272 (by decide) ?_
              refine r_iload dL_types_274 0 rfl ?_
              refine r_iconst (v := (nI 4)) dL_types_276 (by decide) ?_
              refine n_idiv dL_types_277 (by omega) (by omega) (by omega) ?_
              refine r_bipush (v := (nI 26)) dL_types_278 (by decide) ?_
              refine n_irem dL_types_280 (by omega) (by omega) (by omega) ?_
              refine n_iadd dL_types_281 ?_
              refine r_iconst (v := (nI 0)) dL_types_282 (by decide) ?_
              refine r_iconst (v := (nI 0)) dL_types_283 (by decide) ?_
              refine r_iconst (v := (nI 0)) dL_types_284 (by decide) ?_
              refine r_callSW (st := []) [.ref (Q 0), .int (nI 0), .int (nI (97 + ((y / 4) % 26))), .int (nI 0), .int (nI 0), .int (nI 0)] (100 * (6 - (k + 1)) + 80) (2000 * (6 - (k + 1)) + 1600) dL_types_285 kL_act nL_act lRL_88 (L_typ hL5 hI (by omega) (by omega)) rfl rfl (Nat.le_of_ble_eq_true rfl) (by omega) (by omega) (fun _ _ h => h.elim) ?_
              intro r G10 hr
              obtain ⟨rfl, A9, hL9, hIA9, hKA9, hnA9, hsA9, hoA9⟩ := hr
              show WP mL_types _ _ _ _ _ _ _ 288 [(5, .int (nI y)), (4, .int (nI k)), (3, .int (nI 1)), (0, .ref (Q 0)), (1, .ref (Q 1)), (2, .int (nI x))] [.int (nI (A 0 0 + 1))]
              refine r_aload_n dL_types_288 rfl 4 rfl ?_
              refine r_iconst (v := (nI 4)) dL_types_289 (by decide) ?_
              refine n_iald dL_types_290 hL9.r1 (by omega) (by decide) ?_
              refine n_icmp_ne 298 dL_types_291 (by decide) (by omega) (by omega) (fun c12 => absurd c12 (by omega)) (fun c12 => ?_)
              refine r_iconst (v := (nI 1)) dL_types_294 (by decide) ?_
              refine r_goto 299 dL_types_295 (by decide) ?_
              refine r_istore_n [(3, .int (nI 1)), (5, .int (nI y)), (4, .int (nI k)), (0, .ref (Q 0)), (1, .ref (Q 1)), (2, .int (nI x))] dL_types_299 rfl (by decide) rfl ?_
              refine r_iinc (nI (k + 1)) [(4, .int (nI (k + 1))), (3, .int (nI 1)), (5, .int (nI y)), (0, .ref (Q 0)), (1, .ref (Q 1)), (2, .int (nI x))] dL_types_300 2 rfl (nI_add k 1) (by decide) rfl ?_
              refine r_goto 5 dL_types_303 (by decide) ?_
              exact WP.loc [0, 1, 3, 4, 5] rfl (WP.bud (by omega) (by omega) (ih (k + 1) _ _ _ ⟨hL9, hIA9, (hR.buf hKA9 (v := (B 1 4) + 1) (by omega)), hK.tr hKA9, by omega⟩ (by omega)))
            · refine r_iload dL_types_260 0 rfl ?_
              refine r_iconst (v := (nI 3)) dL_types_262 (by decide) ?_
              refine n_irem dL_types_263 (by omega) (by omega) (by omega) ?_
              refine n_if_ne 272 dL_types_264 (by decide) (by omega) (fun c264 => ?_) (fun c264 => ?_)
              · refine r_bipush (v := (nI 97)) dL_types_272 (by decide) ?_
                refine r_iload dL_types_274 0 rfl ?_
                refine r_iconst (v := (nI 4)) dL_types_276 (by decide) ?_
                refine n_idiv dL_types_277 (by omega) (by omega) (by omega) ?_
                refine r_bipush (v := (nI 26)) dL_types_278 (by decide) ?_
                refine n_irem dL_types_280 (by omega) (by omega) (by omega) ?_
                refine n_iadd dL_types_281 ?_
                refine r_iconst (v := (nI 0)) dL_types_282 (by decide) ?_
                refine r_iconst (v := (nI 0)) dL_types_283 (by decide) ?_
                refine r_iconst (v := (nI 0)) dL_types_284 (by decide) ?_
                refine r_callSW (st := []) [.ref (Q 0), .int (nI 0), .int (nI (97 + ((y / 4) % 26))), .int (nI 0), .int (nI 0), .int (nI 0)] (100 * (6 - (k + 1)) + 80) (2000 * (6 - (k + 1)) + 1600) dL_types_285 kL_act nL_act lRL_88 (L_typ hL5 hI (by omega) (by omega)) rfl rfl (Nat.le_of_ble_eq_true rfl) (by omega) (by omega) (fun _ _ h => h.elim) ?_
                intro r G15 hr
                obtain ⟨rfl, A14, hL14, hIA14, hKA14, hnA14, hsA14, hoA14⟩ := hr
                show WP mL_types _ _ _ _ _ _ _ 288 [(5, .int (nI y)), (4, .int (nI k)), (3, .int (nI 1)), (0, .ref (Q 0)), (1, .ref (Q 1)), (2, .int (nI x))] [.int (nI (A 0 0 + 1))]
                refine r_aload_n dL_types_288 rfl 4 rfl ?_
                refine r_iconst (v := (nI 4)) dL_types_289 (by decide) ?_
                refine n_iald dL_types_290 hL14.r1 (by omega) (by decide) ?_
                refine n_icmp_ne 298 dL_types_291 (by decide) (by omega) (by omega) (fun c17 => absurd c17 (by omega)) (fun c17 => ?_)
                refine r_iconst (v := (nI 1)) dL_types_294 (by decide) ?_
                refine r_goto 299 dL_types_295 (by decide) ?_
                refine r_istore_n [(3, .int (nI 1)), (5, .int (nI y)), (4, .int (nI k)), (0, .ref (Q 0)), (1, .ref (Q 1)), (2, .int (nI x))] dL_types_299 rfl (by decide) rfl ?_
                refine r_iinc (nI (k + 1)) [(4, .int (nI (k + 1))), (3, .int (nI 1)), (5, .int (nI y)), (0, .ref (Q 0)), (1, .ref (Q 1)), (2, .int (nI x))] dL_types_300 2 rfl (nI_add k 1) (by decide) rfl ?_
                refine r_goto 5 dL_types_303 (by decide) ?_
                exact WP.loc [0, 1, 3, 4, 5] rfl (WP.bud (by omega) (by omega) (ih (k + 1) _ _ _ ⟨hL14, hIA14, (hR.buf hKA14 (v := (B 1 4) + 1) (by omega)), hK.tr hKA14, by omega⟩ (by omega)))
              · refine r_bipush (v := (nI 46)) dL_types_267 (by decide) ?_
                refine r_goto 282 dL_types_269 (by decide) ?_
                refine r_iconst (v := (nI 0)) dL_types_282 (by decide) ?_
                refine r_iconst (v := (nI 0)) dL_types_283 (by decide) ?_
                refine r_iconst (v := (nI 0)) dL_types_284 (by decide) ?_
                refine r_callSW (st := []) [.ref (Q 0), .int (nI 0), .int (nI 46), .int (nI 0), .int (nI 0), .int (nI 0)] (100 * (6 - (k + 1)) + 80) (2000 * (6 - (k + 1)) + 1600) dL_types_285 kL_act nL_act lRL_88 (L_typ hL5 hI (by omega) (by omega)) rfl rfl (Nat.le_of_ble_eq_true rfl) (by omega) (by omega) (fun _ _ h => h.elim) ?_
                intro r G19 hr
                obtain ⟨rfl, A18, hL18, hIA18, hKA18, hnA18, hsA18, hoA18⟩ := hr
                show WP mL_types _ _ _ _ _ _ _ 288 [(5, .int (nI y)), (4, .int (nI k)), (3, .int (nI 1)), (0, .ref (Q 0)), (1, .ref (Q 1)), (2, .int (nI x))] [.int (nI (A 0 0 + 1))]
                refine r_aload_n dL_types_288 rfl 4 rfl ?_
                refine r_iconst (v := (nI 4)) dL_types_289 (by decide) ?_
                refine n_iald dL_types_290 hL18.r1 (by omega) (by decide) ?_
                refine n_icmp_ne 298 dL_types_291 (by decide) (by omega) (by omega) (fun c21 => absurd c21 (by omega)) (fun c21 => ?_)
                refine r_iconst (v := (nI 1)) dL_types_294 (by decide) ?_
                refine r_goto 299 dL_types_295 (by decide) ?_
                refine r_istore_n [(3, .int (nI 1)), (5, .int (nI y)), (4, .int (nI k)), (0, .ref (Q 0)), (1, .ref (Q 1)), (2, .int (nI x))] dL_types_299 rfl (by decide) rfl ?_
                refine r_iinc (nI (k + 1)) [(4, .int (nI (k + 1))), (3, .int (nI 1)), (5, .int (nI y)), (0, .ref (Q 0)), (1, .ref (Q 1)), (2, .int (nI x))] dL_types_300 2 rfl (nI_add k 1) (by decide) rfl ?_
                refine r_goto 5 dL_types_303 (by decide) ?_
                exact WP.loc [0, 1, 3, 4, 5] rfl (WP.bud (by omega) (by omega) (ih (k + 1) _ _ _ ⟨hL18, hIA18, (hR.buf hKA18 (v := (B 1 4) + 1) (by omega)), hK.tr hKA18, by omega⟩ (by omega)))
          · refine r_bipush (v := (nI 32)) dL_types_247 (by decide) ?_
            refine r_goto 282 dL_types_249 (by decide) ?_
            refine r_iconst (v := (nI 0)) dL_types_282 (by decide) ?_
            refine r_iconst (v := (nI 0)) dL_types_283 (by decide) ?_
            refine r_iconst (v := (nI 0)) dL_types_284 (by decide) ?_
            refine r_callSW (st := []) [.ref (Q 0), .int (nI 0), .int (nI 32), .int (nI 0), .int (nI 0), .int (nI 0)] (100 * (6 - (k + 1)) + 80) (2000 * (6 - (k + 1)) + 1600) dL_types_285 kL_act nL_act lRL_88 (L_typ hL5 hI (by omega) (by omega)) rfl rfl (Nat.le_of_ble_eq_true rfl) (by omega) (by omega) (fun _ _ h => h.elim) ?_
            intro r G23 hr
            obtain ⟨rfl, A22, hL22, hIA22, hKA22, hnA22, hsA22, hoA22⟩ := hr
            show WP mL_types _ _ _ _ _ _ _ 288 [(5, .int (nI y)), (4, .int (nI k)), (3, .int (nI 1)), (0, .ref (Q 0)), (1, .ref (Q 1)), (2, .int (nI x))] [.int (nI (A 0 0 + 1))]
            refine r_aload_n dL_types_288 rfl 4 rfl ?_
            refine r_iconst (v := (nI 4)) dL_types_289 (by decide) ?_
            refine n_iald dL_types_290 hL22.r1 (by omega) (by decide) ?_
            refine n_icmp_ne 298 dL_types_291 (by decide) (by omega) (by omega) (fun c25 => absurd c25 (by omega)) (fun c25 => ?_)
            refine r_iconst (v := (nI 1)) dL_types_294 (by decide) ?_
            refine r_goto 299 dL_types_295 (by decide) ?_
            refine r_istore_n [(3, .int (nI 1)), (5, .int (nI y)), (4, .int (nI k)), (0, .ref (Q 0)), (1, .ref (Q 1)), (2, .int (nI x))] dL_types_299 rfl (by decide) rfl ?_
            refine r_iinc (nI (k + 1)) [(4, .int (nI (k + 1))), (3, .int (nI 1)), (5, .int (nI y)), (0, .ref (Q 0)), (1, .ref (Q 1)), (2, .int (nI x))] dL_types_300 2 rfl (nI_add k 1) (by decide) rfl ?_
            refine r_goto 5 dL_types_303 (by decide) ?_
            exact WP.loc [0, 1, 3, 4, 5] rfl (WP.bud (by omega) (by omega) (ih (k + 1) _ _ _ ⟨hL22, hIA22, (hR.buf hKA22 (v := (B 1 4) + 1) (by omega)), hK.tr hKA22, by omega⟩ (by omega)))
      · refine r_aload_n dL_types_39 rfl 4 rfl ?_
        refine r_iconst (v := (nI 4)) dL_types_40 (by decide) ?_
        refine n_iald dL_types_41 hL.r1 (by omega) (by decide) ?_
        refine r_bipush (v := (nI 55)) dL_types_42 (by decide) ?_
        refine n_icmp_ge 222 dL_types_44 (by decide) (by omega) (by omega) (fun c44 => ?_) (fun c44 => ?_)
        · refine r_aload_n dL_types_222 rfl 4 rfl ?_
          refine r_iconst (v := (nI 4)) dL_types_223 (by decide) ?_
          refine n_iald dL_types_224 hL.r1 (by omega) (by decide) ?_
          refine r_bipush (v := (nI 60)) dL_types_225 (by decide) ?_
          refine n_icmp_ge 300 dL_types_227 (by decide) (by omega) (by omega) (fun c227 => ?_) (fun c227 => ?_)
          · refine r_iinc (nI (k + 1)) [(4, .int (nI (k + 1))), (5, .int (nI y)), (3, .int (nI 1)), (0, .ref (Q 0)), (1, .ref (Q 1)), (2, .int (nI x))] dL_types_300 1 rfl (nI_add k 1) (by decide) rfl ?_
            refine r_goto 5 dL_types_303 (by decide) ?_
            exact WP.loc [0, 2, 3, 4, 5] rfl (WP.bud (by omega) (by omega) (ih (k + 1) _ _ _ ⟨hL, hI, hR, hK, by omega⟩ (by omega)))
          · refine r_aload_n dL_types_230 rfl 4 rfl ?_
            refine r_iconst (v := (nI 4)) dL_types_231 (by decide) ?_
            refine r_dup2 dL_types_232 rfl rfl ?_
            refine n_iald dL_types_233 hL.r1 (by omega) (by decide) ?_
            refine r_iconst (v := (nI 1)) dL_types_234 (by decide) ?_
            refine n_iadd dL_types_235 ?_
            refine n_iast dL_types_236 hL.r1 (by omega) (by decide) ?_
            have hL28 := hL.w1 (j := 4) (v := (B 1 4) + 1) (by omega)
            have hb29 : (setA B 1 4 ((B 1 4) + 1)) 1 4 = (B 1 4) + 1 := setA_s
            refine r_aload_n dL_types_237 rfl 3 rfl ?_
            refine r_iconst (v := (nI 0)) dL_types_238 (by decide) ?_
            refine r_iload dL_types_239 0 rfl ?_
            refine r_iconst (v := (nI 4)) dL_types_241 (by decide) ?_
            refine n_irem dL_types_242 (by omega) (by omega) (by omega) ?_
            refine r_iconst (v := (nI 1)) dL_types_243 (by decide) ?_
            refine n_icmp_ne 252 dL_types_244 (by decide) (by omega) (by omega) (fun c244 => ?_) (fun c244 => ?_)
            · refine r_iload dL_types_252 0 rfl ?_
              refine r_iconst (v := (nI 4)) dL_types_254 (by decide) ?_
              refine n_irem dL_types_255 (by omega) (by omega) (by omega) ?_
              refine r_iconst (v := (nI 2)) dL_types_256 (by decide) ?_
              refine n_icmp_ne 272 dL_types_257 (by decide) (by omega) (by omega) (fun c257 => ?_) (fun c257 => ?_)
              · refine r_bipush (v := (nI 97)) dL_types_272 (by decide) ?_
                refine r_iload dL_types_274 0 rfl ?_
                refine r_iconst (v := (nI 4)) dL_types_276 (by decide) ?_
                refine n_idiv dL_types_277 (by omega) (by omega) (by omega) ?_
                refine r_bipush (v := (nI 26)) dL_types_278 (by decide) ?_
                refine n_irem dL_types_280 (by omega) (by omega) (by omega) ?_
                refine n_iadd dL_types_281 ?_
                refine r_iconst (v := (nI 0)) dL_types_282 (by decide) ?_
                refine r_iconst (v := (nI 0)) dL_types_283 (by decide) ?_
                refine r_iconst (v := (nI 0)) dL_types_284 (by decide) ?_
                refine r_callSW (st := []) [.ref (Q 0), .int (nI 0), .int (nI (97 + ((y / 4) % 26))), .int (nI 0), .int (nI 0), .int (nI 0)] (100 * (6 - (k + 1)) + 80) (2000 * (6 - (k + 1)) + 1600) dL_types_285 kL_act nL_act lRL_88 (L_typ hL28 hI (by omega) (by omega)) rfl rfl (Nat.le_of_ble_eq_true rfl) (by omega) (by omega) (fun _ _ h => h.elim) ?_
                intro r G33 hr
                obtain ⟨rfl, A32, hL32, hIA32, hKA32, hnA32, hsA32, hoA32⟩ := hr
                show WP mL_types _ _ _ _ _ _ _ 288 [(5, .int (nI y)), (4, .int (nI k)), (3, .int (nI 1)), (0, .ref (Q 0)), (1, .ref (Q 1)), (2, .int (nI x))] [.int (nI (A 0 0 + 1))]
                refine r_aload_n dL_types_288 rfl 4 rfl ?_
                refine r_iconst (v := (nI 4)) dL_types_289 (by decide) ?_
                refine n_iald dL_types_290 hL32.r1 (by omega) (by decide) ?_
                refine n_icmp_ne 298 dL_types_291 (by decide) (by omega) (by omega) (fun c35 => absurd c35 (by omega)) (fun c35 => ?_)
                refine r_iconst (v := (nI 1)) dL_types_294 (by decide) ?_
                refine r_goto 299 dL_types_295 (by decide) ?_
                refine r_istore_n [(3, .int (nI 1)), (5, .int (nI y)), (4, .int (nI k)), (0, .ref (Q 0)), (1, .ref (Q 1)), (2, .int (nI x))] dL_types_299 rfl (by decide) rfl ?_
                refine r_iinc (nI (k + 1)) [(4, .int (nI (k + 1))), (3, .int (nI 1)), (5, .int (nI y)), (0, .ref (Q 0)), (1, .ref (Q 1)), (2, .int (nI x))] dL_types_300 2 rfl (nI_add k 1) (by decide) rfl ?_
                refine r_goto 5 dL_types_303 (by decide) ?_
                exact WP.loc [0, 1, 3, 4, 5] rfl (WP.bud (by omega) (by omega) (ih (k + 1) _ _ _ ⟨hL32, hIA32, (hR.buf hKA32 (v := (B 1 4) + 1) (by omega)), hK.tr hKA32, by omega⟩ (by omega)))
              · refine r_iload dL_types_260 0 rfl ?_
                refine r_iconst (v := (nI 3)) dL_types_262 (by decide) ?_
                refine n_irem dL_types_263 (by omega) (by omega) (by omega) ?_
                refine n_if_ne 272 dL_types_264 (by decide) (by omega) (fun c264 => ?_) (fun c264 => ?_)
                · refine r_bipush (v := (nI 97)) dL_types_272 (by decide) ?_
                  refine r_iload dL_types_274 0 rfl ?_
                  refine r_iconst (v := (nI 4)) dL_types_276 (by decide) ?_
                  refine n_idiv dL_types_277 (by omega) (by omega) (by omega) ?_
                  refine r_bipush (v := (nI 26)) dL_types_278 (by decide) ?_
                  refine n_irem dL_types_280 (by omega) (by omega) (by omega) ?_
                  refine n_iadd dL_types_281 ?_
                  refine r_iconst (v := (nI 0)) dL_types_282 (by decide) ?_
                  refine r_iconst (v := (nI 0)) dL_types_283 (by decide) ?_
                  refine r_iconst (v := (nI 0)) dL_types_284 (by decide) ?_
                  refine r_callSW (st := []) [.ref (Q 0), .int (nI 0), .int (nI (97 + ((y / 4) % 26))), .int (nI 0), .int (nI 0), .int (nI 0)] (100 * (6 - (k + 1)) + 80) (2000 * (6 - (k + 1)) + 1600) dL_types_285 kL_act nL_act lRL_88 (L_typ hL28 hI (by omega) (by omega)) rfl rfl (Nat.le_of_ble_eq_true rfl) (by omega) (by omega) (fun _ _ h => h.elim) ?_
                  intro r G38 hr
                  obtain ⟨rfl, A37, hL37, hIA37, hKA37, hnA37, hsA37, hoA37⟩ := hr
                  show WP mL_types _ _ _ _ _ _ _ 288 [(5, .int (nI y)), (4, .int (nI k)), (3, .int (nI 1)), (0, .ref (Q 0)), (1, .ref (Q 1)), (2, .int (nI x))] [.int (nI (A 0 0 + 1))]
                  refine r_aload_n dL_types_288 rfl 4 rfl ?_
                  refine r_iconst (v := (nI 4)) dL_types_289 (by decide) ?_
                  refine n_iald dL_types_290 hL37.r1 (by omega) (by decide) ?_
                  refine n_icmp_ne 298 dL_types_291 (by decide) (by omega) (by omega) (fun c40 => absurd c40 (by omega)) (fun c40 => ?_)
                  refine r_iconst (v := (nI 1)) dL_types_294 (by decide) ?_
                  refine r_goto 299 dL_types_295 (by decide) ?_
                  refine r_istore_n [(3, .int (nI 1)), (5, .int (nI y)), (4, .int (nI k)), (0, .ref (Q 0)), (1, .ref (Q 1)), (2, .int (nI x))] dL_types_299 rfl (by decide) rfl ?_
                  refine r_iinc (nI (k + 1)) [(4, .int (nI (k + 1))), (3, .int (nI 1)), (5, .int (nI y)), (0, .ref (Q 0)), (1, .ref (Q 1)), (2, .int (nI x))] dL_types_300 2 rfl (nI_add k 1) (by decide) rfl ?_
                  refine r_goto 5 dL_types_303 (by decide) ?_
                  exact WP.loc [0, 1, 3, 4, 5] rfl (WP.bud (by omega) (by omega) (ih (k + 1) _ _ _ ⟨hL37, hIA37, (hR.buf hKA37 (v := (B 1 4) + 1) (by omega)), hK.tr hKA37, by omega⟩ (by omega)))
                · refine r_bipush (v := (nI 46)) dL_types_267 (by decide) ?_
                  refine r_goto 282 dL_types_269 (by decide) ?_
                  refine r_iconst (v := (nI 0)) dL_types_282 (by decide) ?_
                  refine r_iconst (v := (nI 0)) dL_types_283 (by decide) ?_
                  refine r_iconst (v := (nI 0)) dL_types_284 (by decide) ?_
                  refine r_callSW (st := []) [.ref (Q 0), .int (nI 0), .int (nI 46), .int (nI 0), .int (nI 0), .int (nI 0)] (100 * (6 - (k + 1)) + 80) (2000 * (6 - (k + 1)) + 1600) dL_types_285 kL_act nL_act lRL_88 (L_typ hL28 hI (by omega) (by omega)) rfl rfl (Nat.le_of_ble_eq_true rfl) (by omega) (by omega) (fun _ _ h => h.elim) ?_
                  intro r G42 hr
                  obtain ⟨rfl, A41, hL41, hIA41, hKA41, hnA41, hsA41, hoA41⟩ := hr
                  show WP mL_types _ _ _ _ _ _ _ 288 [(5, .int (nI y)), (4, .int (nI k)), (3, .int (nI 1)), (0, .ref (Q 0)), (1, .ref (Q 1)), (2, .int (nI x))] [.int (nI (A 0 0 + 1))]
                  refine r_aload_n dL_types_288 rfl 4 rfl ?_
                  refine r_iconst (v := (nI 4)) dL_types_289 (by decide) ?_
                  refine n_iald dL_types_290 hL41.r1 (by omega) (by decide) ?_
                  refine n_icmp_ne 298 dL_types_291 (by decide) (by omega) (by omega) (fun c44 => absurd c44 (by omega)) (fun c44 => ?_)
                  refine r_iconst (v := (nI 1)) dL_types_294 (by decide) ?_
                  refine r_goto 299 dL_types_295 (by decide) ?_
                  refine r_istore_n [(3, .int (nI 1)), (5, .int (nI y)), (4, .int (nI k)), (0, .ref (Q 0)), (1, .ref (Q 1)), (2, .int (nI x))] dL_types_299 rfl (by decide) rfl ?_
                  refine r_iinc (nI (k + 1)) [(4, .int (nI (k + 1))), (3, .int (nI 1)), (5, .int (nI y)), (0, .ref (Q 0)), (1, .ref (Q 1)), (2, .int (nI x))] dL_types_300 2 rfl (nI_add k 1) (by decide) rfl ?_
                  refine r_goto 5 dL_types_303 (by decide) ?_
                  exact WP.loc [0, 1, 3, 4, 5] rfl (WP.bud (by omega) (by omega) (ih (k + 1) _ _ _ ⟨hL41, hIA41, (hR.buf hKA41 (v := (B 1 4) + 1) (by omega)), hK.tr hKA41, by omega⟩ (by omega)))
            · refine r_bipush (v := (nI 32)) dL_types_247 (by decide) ?_
              refine r_goto 282 dL_types_249 (by decide) ?_
              refine r_iconst (v := (nI 0)) dL_types_282 (by decide) ?_
              refine r_iconst (v := (nI 0)) dL_types_283 (by decide) ?_
              refine r_iconst (v := (nI 0)) dL_types_284 (by decide) ?_
              refine r_callSW (st := []) [.ref (Q 0), .int (nI 0), .int (nI 32), .int (nI 0), .int (nI 0), .int (nI 0)] (100 * (6 - (k + 1)) + 80) (2000 * (6 - (k + 1)) + 1600) dL_types_285 kL_act nL_act lRL_88 (L_typ hL28 hI (by omega) (by omega)) rfl rfl (Nat.le_of_ble_eq_true rfl) (by omega) (by omega) (fun _ _ h => h.elim) ?_
              intro r G46 hr
              obtain ⟨rfl, A45, hL45, hIA45, hKA45, hnA45, hsA45, hoA45⟩ := hr
              show WP mL_types _ _ _ _ _ _ _ 288 [(5, .int (nI y)), (4, .int (nI k)), (3, .int (nI 1)), (0, .ref (Q 0)), (1, .ref (Q 1)), (2, .int (nI x))] [.int (nI (A 0 0 + 1))]
              refine r_aload_n dL_types_288 rfl 4 rfl ?_
              refine r_iconst (v := (nI 4)) dL_types_289 (by decide) ?_
              refine n_iald dL_types_290 hL45.r1 (by omega) (by decide) ?_
              refine n_icmp_ne 298 dL_types_291 (by decide) (by omega) (by omega) (fun c48 => absurd c48 (by omega)) (fun c48 => ?_)
              refine r_iconst (v := (nI 1)) dL_types_294 (by decide) ?_
              refine r_goto 299 dL_types_295 (by decide) ?_
              refine r_istore_n [(3, .int (nI 1)), (5, .int (nI y)), (4, .int (nI k)), (0, .ref (Q 0)), (1, .ref (Q 1)), (2, .int (nI x))] dL_types_299 rfl (by decide) rfl ?_
              refine r_iinc (nI (k + 1)) [(4, .int (nI (k + 1))), (3, .int (nI 1)), (5, .int (nI y)), (0, .ref (Q 0)), (1, .ref (Q 1)), (2, .int (nI x))] dL_types_300 2 rfl (nI_add k 1) (by decide) rfl ?_
              refine r_goto 5 dL_types_303 (by decide) ?_
              exact WP.loc [0, 1, 3, 4, 5] rfl (WP.bud (by omega) (by omega) (ih (k + 1) _ _ _ ⟨hL45, hIA45, (hR.buf hKA45 (v := (B 1 4) + 1) (by omega)), hK.tr hKA45, by omega⟩ (by omega)))
        · refine r_aload_n dL_types_47 rfl 3 rfl ?_
          refine r_iconst (v := (nI 0)) dL_types_48 (by decide) ?_
          refine r_bipush (v := (nI 91)) dL_types_49 (by decide) ?_
          refine r_iconst (v := (nI 0)) dL_types_51 (by decide) ?_
          refine r_iconst (v := (nI 0)) dL_types_52 (by decide) ?_
          refine r_iconst (v := (nI 0)) dL_types_53 (by decide) ?_
          refine r_callSW (st := []) [.ref (Q 0), .int (nI 0), .int (nI 91), .int (nI 0), .int (nI 0), .int (nI 0)] (100 * (6 - (k + 1)) + 80) (2000 * (6 - (k + 1)) + 1600) dL_types_54 kL_act nL_act lRL_88 (L_typ hL hI (by omega) (by omega)) rfl rfl (Nat.le_of_ble_eq_true rfl) (by omega) (by omega) (fun _ _ h => h.elim) ?_
          intro r G50 hr
          obtain ⟨rfl, A49, hL49, hIA49, hKA49, hnA49, hsA49, hoA49⟩ := hr
          show WP mL_types _ _ _ _ _ _ _ 57 [(5, .int (nI y)), (4, .int (nI k)), (3, .int (nI 1)), (0, .ref (Q 0)), (1, .ref (Q 1)), (2, .int (nI x))] [.int (nI (A 0 0 + 1))]
          refine r_aload_n dL_types_57 rfl 4 rfl ?_
          refine r_iconst (v := (nI 4)) dL_types_58 (by decide) ?_
          refine n_iald dL_types_59 hL49.r1 (by omega) (by decide) ?_
          refine r_iconst (v := (nI 1)) dL_types_60 (by decide) ?_
          refine n_iadd dL_types_61 ?_
          refine n_icmp_ne 210 dL_types_62 (by decide) (by omega) (by omega) (fun c52 => absurd c52 (by omega)) (fun c52 => ?_)
          refine r_aload_n dL_types_65 rfl 3 rfl ?_
          refine r_iconst (v := (nI 0)) dL_types_66 (by decide) ?_
          refine r_bipush (v := (nI 48)) dL_types_67 (by decide) ?_
          refine r_iload dL_types_69 0 rfl ?_
          refine r_iconst (v := (nI 4)) dL_types_71 (by decide) ?_
          refine n_idiv dL_types_72 (by omega) (by omega) (by omega) ?_
          refine r_iconst (v := (nI 5)) dL_types_73 (by decide) ?_
          refine n_irem dL_types_74 (by omega) (by omega) (by omega) ?_
          refine n_iadd dL_types_75 ?_
          refine r_iconst (v := (nI 0)) dL_types_76 (by decide) ?_
          refine r_iconst (v := (nI 0)) dL_types_77 (by decide) ?_
          refine r_iconst (v := (nI 0)) dL_types_78 (by decide) ?_
          refine r_callSW (st := []) [.ref (Q 0), .int (nI 0), .int (nI (48 + ((y / 4) % 5))), .int (nI 0), .int (nI 0), .int (nI 0)] (100 * (6 - (k + 1)) + 60) (2000 * (6 - (k + 1)) + 1200) dL_types_79 kL_act nL_act lRL_88 (L_typ hL49 hIA49 (by omega) (by omega)) rfl rfl (Nat.le_of_ble_eq_true rfl) (by omega) (by omega) (fun _ _ h => h.elim) ?_
          intro r G54 hr
          obtain ⟨rfl, A53, hL53, hIA53, hKA53, hnA53, hsA53, hoA53⟩ := hr
          show WP mL_types _ _ _ _ _ _ _ 82 [(5, .int (nI y)), (4, .int (nI k)), (3, .int (nI 1)), (0, .ref (Q 0)), (1, .ref (Q 1)), (2, .int (nI x))] [.int (nI (A49 0 0 + 1))]
          refine r_aload_n dL_types_82 rfl 4 rfl ?_
          refine r_iconst (v := (nI 4)) dL_types_83 (by decide) ?_
          refine n_iald dL_types_84 hL53.r1 (by omega) (by decide) ?_
          refine r_iconst (v := (nI 2)) dL_types_85 (by decide) ?_
          refine n_iadd dL_types_86 ?_
          refine n_icmp_ne 210 dL_types_87 (by decide) (by omega) (by omega) (fun c56 => absurd c56 (by omega)) (fun c56 => ?_)
          refine r_aload_n dL_types_90 rfl 3 rfl ?_
          refine r_iconst (v := (nI 0)) dL_types_91 (by decide) ?_
          refine r_iload dL_types_92 0 rfl ?_
          refine r_bipush (v := (nI 20)) dL_types_94 (by decide) ?_
          refine n_idiv dL_types_96 (by omega) (by omega) (by omega) ?_
          refine r_iconst (v := (nI 4)) dL_types_97 (by decide) ?_
          refine n_irem dL_types_98 (by omega) (by omega) (by omega) ?_
          refine n_if_ne 107 dL_types_99 (by decide) (by omega) (fun c99 => ?_) (fun c99 => ?_)
          · refine r_iload dL_types_107 0 rfl ?_
            refine r_bipush (v := (nI 20)) dL_types_109 (by decide) ?_
            refine n_idiv dL_types_111 (by omega) (by omega) (by omega) ?_
            refine r_iconst (v := (nI 4)) dL_types_112 (by decide) ?_
            refine n_irem dL_types_113 (by omega) (by omega) (by omega) ?_
            refine r_iconst (v := (nI 1)) dL_types_114 (by decide) ?_
            refine n_icmp_ne 123 dL_types_115 (by decide) (by omega) (by omega) (fun c115 => ?_) (fun c115 => ?_)
            · refine r_iload dL_types_123 0 rfl ?_
              refine r_bipush (v := (nI 20)) dL_types_125 (by decide) ?_
              refine n_idiv dL_types_127 (by omega) (by omega) (by omega) ?_
              refine r_iconst (v := (nI 4)) dL_types_128 (by decide) ?_
              refine n_irem dL_types_129 (by omega) (by omega) (by omega) ?_
              refine r_iconst (v := (nI 2)) dL_types_130 (by decide) ?_
              refine n_icmp_ne 139 dL_types_131 (by decide) (by omega) (by omega) (fun c131 => ?_) (fun c131 => ?_)
              · refine r_bipush (v := (nI 97)) dL_types_139 (by decide) ?_
                refine r_iconst (v := (nI 0)) dL_types_141 (by decide) ?_
                refine r_iconst (v := (nI 0)) dL_types_142 (by decide) ?_
                refine r_iconst (v := (nI 0)) dL_types_143 (by decide) ?_
                refine r_callSW (st := []) [.ref (Q 0), .int (nI 0), .int (nI 97), .int (nI 0), .int (nI 0), .int (nI 0)] (100 * (6 - (k + 1)) + 40) (2000 * (6 - (k + 1)) + 800) dL_types_144 kL_act nL_act lRL_88 (L_typ hL53 hIA53 (by omega) (by omega)) rfl rfl (Nat.le_of_ble_eq_true rfl) (by omega) (by omega) (fun _ _ h => h.elim) ?_
                intro r G61 hr
                obtain ⟨rfl, A60, hL60, hIA60, hKA60, hnA60, hsA60, hoA60⟩ := hr
                show WP mL_types _ _ _ _ _ _ _ 147 [(5, .int (nI y)), (4, .int (nI k)), (3, .int (nI 1)), (0, .ref (Q 0)), (1, .ref (Q 1)), (2, .int (nI x))] [.int (nI (A53 0 0 + 1))]
                refine r_aload_n dL_types_147 rfl 4 rfl ?_
                refine r_iconst (v := (nI 4)) dL_types_148 (by decide) ?_
                refine n_iald dL_types_149 hL60.r1 (by omega) (by decide) ?_
                refine r_iconst (v := (nI 3)) dL_types_150 (by decide) ?_
                refine n_iadd dL_types_151 ?_
                refine n_icmp_ne 210 dL_types_152 (by decide) (by omega) (by omega) (fun c63 => absurd c63 (by omega)) (fun c63 => ?_)
                refine r_aload_n dL_types_155 rfl 3 rfl ?_
                refine r_iconst (v := (nI 0)) dL_types_156 (by decide) ?_
                refine r_iload dL_types_157 0 rfl ?_
                refine r_bipush (v := (nI 80)) dL_types_159 (by decide) ?_
                refine n_idiv dL_types_161 (by omega) (by omega) (by omega) ?_
                refine r_iconst (v := (nI 2)) dL_types_162 (by decide) ?_
                refine n_irem dL_types_163 (by omega) (by omega) (by omega) ?_
                refine n_if_ne 172 dL_types_164 (by decide) (by omega) (fun c164 => ?_) (fun c164 => ?_)
                · refine r_bipush (v := (nI 112)) dL_types_172 (by decide) ?_
                  refine r_iconst (v := (nI 0)) dL_types_174 (by decide) ?_
                  refine r_iconst (v := (nI 0)) dL_types_175 (by decide) ?_
                  refine r_iconst (v := (nI 0)) dL_types_176 (by decide) ?_
                  refine r_callSW (st := []) [.ref (Q 0), .int (nI 0), .int (nI 112), .int (nI 0), .int (nI 0), .int (nI 0)] (100 * (6 - (k + 1)) + 20) (2000 * (6 - (k + 1)) + 400) dL_types_177 kL_act nL_act lRL_88 (L_typ hL60 hIA60 (by omega) (by omega)) rfl rfl (Nat.le_of_ble_eq_true rfl) (by omega) (by omega) (fun _ _ h => h.elim) ?_
                  intro r G66 hr
                  obtain ⟨rfl, A65, hL65, hIA65, hKA65, hnA65, hsA65, hoA65⟩ := hr
                  show WP mL_types _ _ _ _ _ _ _ 180 [(5, .int (nI y)), (4, .int (nI k)), (3, .int (nI 1)), (0, .ref (Q 0)), (1, .ref (Q 1)), (2, .int (nI x))] [.int (nI (A60 0 0 + 1))]
                  refine r_aload_n dL_types_180 rfl 4 rfl ?_
                  refine r_iconst (v := (nI 4)) dL_types_181 (by decide) ?_
                  refine n_iald dL_types_182 hL65.r1 (by omega) (by decide) ?_
                  refine r_iconst (v := (nI 4)) dL_types_183 (by decide) ?_
                  refine n_iadd dL_types_184 ?_
                  refine n_icmp_ne 210 dL_types_185 (by decide) (by omega) (by omega) (fun c68 => absurd c68 (by omega)) (fun c68 => ?_)
                  refine r_aload_n dL_types_188 rfl 3 rfl ?_
                  refine r_iconst (v := (nI 0)) dL_types_189 (by decide) ?_
                  refine r_bipush (v := (nI 93)) dL_types_190 (by decide) ?_
                  refine r_iconst (v := (nI 0)) dL_types_192 (by decide) ?_
                  refine r_iconst (v := (nI 0)) dL_types_193 (by decide) ?_
                  refine r_iconst (v := (nI 0)) dL_types_194 (by decide) ?_
                  refine r_callSW (st := []) [.ref (Q 0), .int (nI 0), .int (nI 93), .int (nI 0), .int (nI 0), .int (nI 0)] (100 * (6 - (k + 1)) + 0) (2000 * (6 - (k + 1)) + 0) dL_types_195 kL_act nL_act lRL_88 (L_typ hL65 hIA65 (by omega) (by omega)) rfl rfl (Nat.le_of_ble_eq_true rfl) (by omega) (by omega) (fun _ _ h => h.elim) ?_
                  intro r G70 hr
                  obtain ⟨rfl, A69, hL69, hIA69, hKA69, hnA69, hsA69, hoA69⟩ := hr
                  show WP mL_types _ _ _ _ _ _ _ 198 [(5, .int (nI y)), (4, .int (nI k)), (3, .int (nI 1)), (0, .ref (Q 0)), (1, .ref (Q 1)), (2, .int (nI x))] [.int (nI (A65 0 0 + 1))]
                  refine r_aload_n dL_types_198 rfl 4 rfl ?_
                  refine r_iconst (v := (nI 4)) dL_types_199 (by decide) ?_
                  refine n_iald dL_types_200 hL69.r1 (by omega) (by decide) ?_
                  refine r_iconst (v := (nI 5)) dL_types_201 (by decide) ?_
                  refine n_iadd dL_types_202 ?_
                  refine n_icmp_ne 210 dL_types_203 (by decide) (by omega) (by omega) (fun c72 => absurd c72 (by omega)) (fun c72 => ?_)
                  refine r_iconst (v := (nI 1)) dL_types_206 (by decide) ?_
                  refine r_goto 211 dL_types_207 (by decide) ?_
                  refine r_istore_n [(3, .int (nI 1)), (5, .int (nI y)), (4, .int (nI k)), (0, .ref (Q 0)), (1, .ref (Q 1)), (2, .int (nI x))] dL_types_211 rfl (by decide) rfl ?_
                  refine r_aload_n dL_types_212 rfl 4 rfl ?_
                  refine r_iconst (v := (nI 4)) dL_types_213 (by decide) ?_
                  refine r_dup2 dL_types_214 rfl rfl ?_
                  refine n_iald dL_types_215 hL69.r1 (by omega) (by decide) ?_
                  refine r_iconst (v := (nI 5)) dL_types_216 (by decide) ?_
                  refine n_iadd dL_types_217 ?_
                  refine n_iast dL_types_218 hL69.r1 (by omega) (by decide) ?_
                  have hL73 := hL69.w1 (j := 4) (v := (B 1 4) + 5) (by omega)
                  have hb74 : (setA B 1 4 ((B 1 4) + 5)) 1 4 = (B 1 4) + 5 := setA_s
                  refine r_goto 300 dL_types_219 (by decide) ?_
                  refine r_iinc (nI (k + 1)) [(4, .int (nI (k + 1))), (3, .int (nI 1)), (5, .int (nI y)), (0, .ref (Q 0)), (1, .ref (Q 1)), (2, .int (nI x))] dL_types_300 2 rfl (nI_add k 1) (by decide) rfl ?_
                  refine r_goto 5 dL_types_303 (by decide) ?_
                  exact WP.loc [0, 1, 3, 4, 5] rfl (WP.bud (by omega) (by omega) (ih (k + 1) _ _ _ ⟨hL73, hIA69, (hR.buf ((((hKA49.tr hKA53).tr hKA60).tr hKA65).tr hKA69) (v := (B 1 4) + 5) (by omega)), hK.tr ((((hKA49.tr hKA53).tr hKA60).tr hKA65).tr hKA69), by omega⟩ (by omega)))
                · refine r_bipush (v := (nI 115)) dL_types_167 (by decide) ?_
                  refine r_goto 174 dL_types_169 (by decide) ?_
                  refine r_iconst (v := (nI 0)) dL_types_174 (by decide) ?_
                  refine r_iconst (v := (nI 0)) dL_types_175 (by decide) ?_
                  refine r_iconst (v := (nI 0)) dL_types_176 (by decide) ?_
                  refine r_callSW (st := []) [.ref (Q 0), .int (nI 0), .int (nI 115), .int (nI 0), .int (nI 0), .int (nI 0)] (100 * (6 - (k + 1)) + 20) (2000 * (6 - (k + 1)) + 400) dL_types_177 kL_act nL_act lRL_88 (L_typ hL60 hIA60 (by omega) (by omega)) rfl rfl (Nat.le_of_ble_eq_true rfl) (by omega) (by omega) (fun _ _ h => h.elim) ?_
                  intro r G76 hr
                  obtain ⟨rfl, A75, hL75, hIA75, hKA75, hnA75, hsA75, hoA75⟩ := hr
                  show WP mL_types _ _ _ _ _ _ _ 180 [(5, .int (nI y)), (4, .int (nI k)), (3, .int (nI 1)), (0, .ref (Q 0)), (1, .ref (Q 1)), (2, .int (nI x))] [.int (nI (A60 0 0 + 1))]
                  refine r_aload_n dL_types_180 rfl 4 rfl ?_
                  refine r_iconst (v := (nI 4)) dL_types_181 (by decide) ?_
                  refine n_iald dL_types_182 hL75.r1 (by omega) (by decide) ?_
                  refine r_iconst (v := (nI 4)) dL_types_183 (by decide) ?_
                  refine n_iadd dL_types_184 ?_
                  refine n_icmp_ne 210 dL_types_185 (by decide) (by omega) (by omega) (fun c78 => absurd c78 (by omega)) (fun c78 => ?_)
                  refine r_aload_n dL_types_188 rfl 3 rfl ?_
                  refine r_iconst (v := (nI 0)) dL_types_189 (by decide) ?_
                  refine r_bipush (v := (nI 93)) dL_types_190 (by decide) ?_
                  refine r_iconst (v := (nI 0)) dL_types_192 (by decide) ?_
                  refine r_iconst (v := (nI 0)) dL_types_193 (by decide) ?_
                  refine r_iconst (v := (nI 0)) dL_types_194 (by decide) ?_
                  refine r_callSW (st := []) [.ref (Q 0), .int (nI 0), .int (nI 93), .int (nI 0), .int (nI 0), .int (nI 0)] (100 * (6 - (k + 1)) + 0) (2000 * (6 - (k + 1)) + 0) dL_types_195 kL_act nL_act lRL_88 (L_typ hL75 hIA75 (by omega) (by omega)) rfl rfl (Nat.le_of_ble_eq_true rfl) (by omega) (by omega) (fun _ _ h => h.elim) ?_
                  intro r G80 hr
                  obtain ⟨rfl, A79, hL79, hIA79, hKA79, hnA79, hsA79, hoA79⟩ := hr
                  show WP mL_types _ _ _ _ _ _ _ 198 [(5, .int (nI y)), (4, .int (nI k)), (3, .int (nI 1)), (0, .ref (Q 0)), (1, .ref (Q 1)), (2, .int (nI x))] [.int (nI (A75 0 0 + 1))]
                  refine r_aload_n dL_types_198 rfl 4 rfl ?_
                  refine r_iconst (v := (nI 4)) dL_types_199 (by decide) ?_
                  refine n_iald dL_types_200 hL79.r1 (by omega) (by decide) ?_
                  refine r_iconst (v := (nI 5)) dL_types_201 (by decide) ?_
                  refine n_iadd dL_types_202 ?_
                  refine n_icmp_ne 210 dL_types_203 (by decide) (by omega) (by omega) (fun c82 => absurd c82 (by omega)) (fun c82 => ?_)
                  refine r_iconst (v := (nI 1)) dL_types_206 (by decide) ?_
                  refine r_goto 211 dL_types_207 (by decide) ?_
                  refine r_istore_n [(3, .int (nI 1)), (5, .int (nI y)), (4, .int (nI k)), (0, .ref (Q 0)), (1, .ref (Q 1)), (2, .int (nI x))] dL_types_211 rfl (by decide) rfl ?_
                  refine r_aload_n dL_types_212 rfl 4 rfl ?_
                  refine r_iconst (v := (nI 4)) dL_types_213 (by decide) ?_
                  refine r_dup2 dL_types_214 rfl rfl ?_
                  refine n_iald dL_types_215 hL79.r1 (by omega) (by decide) ?_
                  refine r_iconst (v := (nI 5)) dL_types_216 (by decide) ?_
                  refine n_iadd dL_types_217 ?_
                  refine n_iast dL_types_218 hL79.r1 (by omega) (by decide) ?_
                  have hL83 := hL79.w1 (j := 4) (v := (B 1 4) + 5) (by omega)
                  have hb84 : (setA B 1 4 ((B 1 4) + 5)) 1 4 = (B 1 4) + 5 := setA_s
                  refine r_goto 300 dL_types_219 (by decide) ?_
                  refine r_iinc (nI (k + 1)) [(4, .int (nI (k + 1))), (3, .int (nI 1)), (5, .int (nI y)), (0, .ref (Q 0)), (1, .ref (Q 1)), (2, .int (nI x))] dL_types_300 2 rfl (nI_add k 1) (by decide) rfl ?_
                  refine r_goto 5 dL_types_303 (by decide) ?_
                  exact WP.loc [0, 1, 3, 4, 5] rfl (WP.bud (by omega) (by omega) (ih (k + 1) _ _ _ ⟨hL83, hIA79, (hR.buf ((((hKA49.tr hKA53).tr hKA60).tr hKA75).tr hKA79) (v := (B 1 4) + 5) (by omega)), hK.tr ((((hKA49.tr hKA53).tr hKA60).tr hKA75).tr hKA79), by omega⟩ (by omega)))
              · refine r_bipush (v := (nI 100)) dL_types_134 (by decide) ?_
                refine r_goto 141 dL_types_136 (by decide) ?_
                refine r_iconst (v := (nI 0)) dL_types_141 (by decide) ?_
                refine r_iconst (v := (nI 0)) dL_types_142 (by decide) ?_
                refine r_iconst (v := (nI 0)) dL_types_143 (by decide) ?_
                refine r_callSW (st := []) [.ref (Q 0), .int (nI 0), .int (nI 100), .int (nI 0), .int (nI 0), .int (nI 0)] (100 * (6 - (k + 1)) + 40) (2000 * (6 - (k + 1)) + 800) dL_types_144 kL_act nL_act lRL_88 (L_typ hL53 hIA53 (by omega) (by omega)) rfl rfl (Nat.le_of_ble_eq_true rfl) (by omega) (by omega) (fun _ _ h => h.elim) ?_
                intro r G86 hr
                obtain ⟨rfl, A85, hL85, hIA85, hKA85, hnA85, hsA85, hoA85⟩ := hr
                show WP mL_types _ _ _ _ _ _ _ 147 [(5, .int (nI y)), (4, .int (nI k)), (3, .int (nI 1)), (0, .ref (Q 0)), (1, .ref (Q 1)), (2, .int (nI x))] [.int (nI (A53 0 0 + 1))]
                refine r_aload_n dL_types_147 rfl 4 rfl ?_
                refine r_iconst (v := (nI 4)) dL_types_148 (by decide) ?_
                refine n_iald dL_types_149 hL85.r1 (by omega) (by decide) ?_
                refine r_iconst (v := (nI 3)) dL_types_150 (by decide) ?_
                refine n_iadd dL_types_151 ?_
                refine n_icmp_ne 210 dL_types_152 (by decide) (by omega) (by omega) (fun c88 => absurd c88 (by omega)) (fun c88 => ?_)
                refine r_aload_n dL_types_155 rfl 3 rfl ?_
                refine r_iconst (v := (nI 0)) dL_types_156 (by decide) ?_
                refine r_iload dL_types_157 0 rfl ?_
                refine r_bipush (v := (nI 80)) dL_types_159 (by decide) ?_
                refine n_idiv dL_types_161 (by omega) (by omega) (by omega) ?_
                refine r_iconst (v := (nI 2)) dL_types_162 (by decide) ?_
                refine n_irem dL_types_163 (by omega) (by omega) (by omega) ?_
                refine n_if_ne 172 dL_types_164 (by decide) (by omega) (fun c164 => ?_) (fun c164 => ?_)
                · refine r_bipush (v := (nI 112)) dL_types_172 (by decide) ?_
                  refine r_iconst (v := (nI 0)) dL_types_174 (by decide) ?_
                  refine r_iconst (v := (nI 0)) dL_types_175 (by decide) ?_
                  refine r_iconst (v := (nI 0)) dL_types_176 (by decide) ?_
                  refine r_callSW (st := []) [.ref (Q 0), .int (nI 0), .int (nI 112), .int (nI 0), .int (nI 0), .int (nI 0)] (100 * (6 - (k + 1)) + 20) (2000 * (6 - (k + 1)) + 400) dL_types_177 kL_act nL_act lRL_88 (L_typ hL85 hIA85 (by omega) (by omega)) rfl rfl (Nat.le_of_ble_eq_true rfl) (by omega) (by omega) (fun _ _ h => h.elim) ?_
                  intro r G91 hr
                  obtain ⟨rfl, A90, hL90, hIA90, hKA90, hnA90, hsA90, hoA90⟩ := hr
                  show WP mL_types _ _ _ _ _ _ _ 180 [(5, .int (nI y)), (4, .int (nI k)), (3, .int (nI 1)), (0, .ref (Q 0)), (1, .ref (Q 1)), (2, .int (nI x))] [.int (nI (A85 0 0 + 1))]
                  refine r_aload_n dL_types_180 rfl 4 rfl ?_
                  refine r_iconst (v := (nI 4)) dL_types_181 (by decide) ?_
                  refine n_iald dL_types_182 hL90.r1 (by omega) (by decide) ?_
                  refine r_iconst (v := (nI 4)) dL_types_183 (by decide) ?_
                  refine n_iadd dL_types_184 ?_
                  refine n_icmp_ne 210 dL_types_185 (by decide) (by omega) (by omega) (fun c93 => absurd c93 (by omega)) (fun c93 => ?_)
                  refine r_aload_n dL_types_188 rfl 3 rfl ?_
                  refine r_iconst (v := (nI 0)) dL_types_189 (by decide) ?_
                  refine r_bipush (v := (nI 93)) dL_types_190 (by decide) ?_
                  refine r_iconst (v := (nI 0)) dL_types_192 (by decide) ?_
                  refine r_iconst (v := (nI 0)) dL_types_193 (by decide) ?_
                  refine r_iconst (v := (nI 0)) dL_types_194 (by decide) ?_
                  refine r_callSW (st := []) [.ref (Q 0), .int (nI 0), .int (nI 93), .int (nI 0), .int (nI 0), .int (nI 0)] (100 * (6 - (k + 1)) + 0) (2000 * (6 - (k + 1)) + 0) dL_types_195 kL_act nL_act lRL_88 (L_typ hL90 hIA90 (by omega) (by omega)) rfl rfl (Nat.le_of_ble_eq_true rfl) (by omega) (by omega) (fun _ _ h => h.elim) ?_
                  intro r G95 hr
                  obtain ⟨rfl, A94, hL94, hIA94, hKA94, hnA94, hsA94, hoA94⟩ := hr
                  show WP mL_types _ _ _ _ _ _ _ 198 [(5, .int (nI y)), (4, .int (nI k)), (3, .int (nI 1)), (0, .ref (Q 0)), (1, .ref (Q 1)), (2, .int (nI x))] [.int (nI (A90 0 0 + 1))]
                  refine r_aload_n dL_types_198 rfl 4 rfl ?_
                  refine r_iconst (v := (nI 4)) dL_types_199 (by decide) ?_
                  refine n_iald dL_types_200 hL94.r1 (by omega) (by decide) ?_
                  refine r_iconst (v := (nI 5)) dL_types_201 (by decide) ?_
                  refine n_iadd dL_types_202 ?_
                  refine n_icmp_ne 210 dL_types_203 (by decide) (by omega) (by omega) (fun c97 => absurd c97 (by omega)) (fun c97 => ?_)
                  refine r_iconst (v := (nI 1)) dL_types_206 (by decide) ?_
                  refine r_goto 211 dL_types_207 (by decide) ?_
                  refine r_istore_n [(3, .int (nI 1)), (5, .int (nI y)), (4, .int (nI k)), (0, .ref (Q 0)), (1, .ref (Q 1)), (2, .int (nI x))] dL_types_211 rfl (by decide) rfl ?_
                  refine r_aload_n dL_types_212 rfl 4 rfl ?_
                  refine r_iconst (v := (nI 4)) dL_types_213 (by decide) ?_
                  refine r_dup2 dL_types_214 rfl rfl ?_
                  refine n_iald dL_types_215 hL94.r1 (by omega) (by decide) ?_
                  refine r_iconst (v := (nI 5)) dL_types_216 (by decide) ?_
                  refine n_iadd dL_types_217 ?_
                  refine n_iast dL_types_218 hL94.r1 (by omega) (by decide) ?_
                  have hL98 := hL94.w1 (j := 4) (v := (B 1 4) + 5) (by omega)
                  have hb99 : (setA B 1 4 ((B 1 4) + 5)) 1 4 = (B 1 4) + 5 := setA_s
                  refine r_goto 300 dL_types_219 (by decide) ?_
                  refine r_iinc (nI (k + 1)) [(4, .int (nI (k + 1))), (3, .int (nI 1)), (5, .int (nI y)), (0, .ref (Q 0)), (1, .ref (Q 1)), (2, .int (nI x))] dL_types_300 2 rfl (nI_add k 1) (by decide) rfl ?_
                  refine r_goto 5 dL_types_303 (by decide) ?_
                  exact WP.loc [0, 1, 3, 4, 5] rfl (WP.bud (by omega) (by omega) (ih (k + 1) _ _ _ ⟨hL98, hIA94, (hR.buf ((((hKA49.tr hKA53).tr hKA85).tr hKA90).tr hKA94) (v := (B 1 4) + 5) (by omega)), hK.tr ((((hKA49.tr hKA53).tr hKA85).tr hKA90).tr hKA94), by omega⟩ (by omega)))
                · refine r_bipush (v := (nI 115)) dL_types_167 (by decide) ?_
                  refine r_goto 174 dL_types_169 (by decide) ?_
                  refine r_iconst (v := (nI 0)) dL_types_174 (by decide) ?_
                  refine r_iconst (v := (nI 0)) dL_types_175 (by decide) ?_
                  refine r_iconst (v := (nI 0)) dL_types_176 (by decide) ?_
                  refine r_callSW (st := []) [.ref (Q 0), .int (nI 0), .int (nI 115), .int (nI 0), .int (nI 0), .int (nI 0)] (100 * (6 - (k + 1)) + 20) (2000 * (6 - (k + 1)) + 400) dL_types_177 kL_act nL_act lRL_88 (L_typ hL85 hIA85 (by omega) (by omega)) rfl rfl (Nat.le_of_ble_eq_true rfl) (by omega) (by omega) (fun _ _ h => h.elim) ?_
                  intro r G101 hr
                  obtain ⟨rfl, A100, hL100, hIA100, hKA100, hnA100, hsA100, hoA100⟩ := hr
                  show WP mL_types _ _ _ _ _ _ _ 180 [(5, .int (nI y)), (4, .int (nI k)), (3, .int (nI 1)), (0, .ref (Q 0)), (1, .ref (Q 1)), (2, .int (nI x))] [.int (nI (A85 0 0 + 1))]
                  refine r_aload_n dL_types_180 rfl 4 rfl ?_
                  refine r_iconst (v := (nI 4)) dL_types_181 (by decide) ?_
                  refine n_iald dL_types_182 hL100.r1 (by omega) (by decide) ?_
                  refine r_iconst (v := (nI 4)) dL_types_183 (by decide) ?_
                  refine n_iadd dL_types_184 ?_
                  refine n_icmp_ne 210 dL_types_185 (by decide) (by omega) (by omega) (fun c103 => absurd c103 (by omega)) (fun c103 => ?_)
                  refine r_aload_n dL_types_188 rfl 3 rfl ?_
                  refine r_iconst (v := (nI 0)) dL_types_189 (by decide) ?_
                  refine r_bipush (v := (nI 93)) dL_types_190 (by decide) ?_
                  refine r_iconst (v := (nI 0)) dL_types_192 (by decide) ?_
                  refine r_iconst (v := (nI 0)) dL_types_193 (by decide) ?_
                  refine r_iconst (v := (nI 0)) dL_types_194 (by decide) ?_
                  refine r_callSW (st := []) [.ref (Q 0), .int (nI 0), .int (nI 93), .int (nI 0), .int (nI 0), .int (nI 0)] (100 * (6 - (k + 1)) + 0) (2000 * (6 - (k + 1)) + 0) dL_types_195 kL_act nL_act lRL_88 (L_typ hL100 hIA100 (by omega) (by omega)) rfl rfl (Nat.le_of_ble_eq_true rfl) (by omega) (by omega) (fun _ _ h => h.elim) ?_
                  intro r G105 hr
                  obtain ⟨rfl, A104, hL104, hIA104, hKA104, hnA104, hsA104, hoA104⟩ := hr
                  show WP mL_types _ _ _ _ _ _ _ 198 [(5, .int (nI y)), (4, .int (nI k)), (3, .int (nI 1)), (0, .ref (Q 0)), (1, .ref (Q 1)), (2, .int (nI x))] [.int (nI (A100 0 0 + 1))]
                  refine r_aload_n dL_types_198 rfl 4 rfl ?_
                  refine r_iconst (v := (nI 4)) dL_types_199 (by decide) ?_
                  refine n_iald dL_types_200 hL104.r1 (by omega) (by decide) ?_
                  refine r_iconst (v := (nI 5)) dL_types_201 (by decide) ?_
                  refine n_iadd dL_types_202 ?_
                  refine n_icmp_ne 210 dL_types_203 (by decide) (by omega) (by omega) (fun c107 => absurd c107 (by omega)) (fun c107 => ?_)
                  refine r_iconst (v := (nI 1)) dL_types_206 (by decide) ?_
                  refine r_goto 211 dL_types_207 (by decide) ?_
                  refine r_istore_n [(3, .int (nI 1)), (5, .int (nI y)), (4, .int (nI k)), (0, .ref (Q 0)), (1, .ref (Q 1)), (2, .int (nI x))] dL_types_211 rfl (by decide) rfl ?_
                  refine r_aload_n dL_types_212 rfl 4 rfl ?_
                  refine r_iconst (v := (nI 4)) dL_types_213 (by decide) ?_
                  refine r_dup2 dL_types_214 rfl rfl ?_
                  refine n_iald dL_types_215 hL104.r1 (by omega) (by decide) ?_
                  refine r_iconst (v := (nI 5)) dL_types_216 (by decide) ?_
                  refine n_iadd dL_types_217 ?_
                  refine n_iast dL_types_218 hL104.r1 (by omega) (by decide) ?_
                  have hL108 := hL104.w1 (j := 4) (v := (B 1 4) + 5) (by omega)
                  have hb109 : (setA B 1 4 ((B 1 4) + 5)) 1 4 = (B 1 4) + 5 := setA_s
                  refine r_goto 300 dL_types_219 (by decide) ?_
                  refine r_iinc (nI (k + 1)) [(4, .int (nI (k + 1))), (3, .int (nI 1)), (5, .int (nI y)), (0, .ref (Q 0)), (1, .ref (Q 1)), (2, .int (nI x))] dL_types_300 2 rfl (nI_add k 1) (by decide) rfl ?_
                  refine r_goto 5 dL_types_303 (by decide) ?_
                  exact WP.loc [0, 1, 3, 4, 5] rfl (WP.bud (by omega) (by omega) (ih (k + 1) _ _ _ ⟨hL108, hIA104, (hR.buf ((((hKA49.tr hKA53).tr hKA85).tr hKA100).tr hKA104) (v := (B 1 4) + 5) (by omega)), hK.tr ((((hKA49.tr hKA53).tr hKA85).tr hKA100).tr hKA104), by omega⟩ (by omega)))
            · refine r_bipush (v := (nI 103)) dL_types_118 (by decide) ?_
              refine r_goto 141 dL_types_120 (by decide) ?_
              refine r_iconst (v := (nI 0)) dL_types_141 (by decide) ?_
              refine r_iconst (v := (nI 0)) dL_types_142 (by decide) ?_
              refine r_iconst (v := (nI 0)) dL_types_143 (by decide) ?_
              refine r_callSW (st := []) [.ref (Q 0), .int (nI 0), .int (nI 103), .int (nI 0), .int (nI 0), .int (nI 0)] (100 * (6 - (k + 1)) + 40) (2000 * (6 - (k + 1)) + 800) dL_types_144 kL_act nL_act lRL_88 (L_typ hL53 hIA53 (by omega) (by omega)) rfl rfl (Nat.le_of_ble_eq_true rfl) (by omega) (by omega) (fun _ _ h => h.elim) ?_
              intro r G111 hr
              obtain ⟨rfl, A110, hL110, hIA110, hKA110, hnA110, hsA110, hoA110⟩ := hr
              show WP mL_types _ _ _ _ _ _ _ 147 [(5, .int (nI y)), (4, .int (nI k)), (3, .int (nI 1)), (0, .ref (Q 0)), (1, .ref (Q 1)), (2, .int (nI x))] [.int (nI (A53 0 0 + 1))]
              refine r_aload_n dL_types_147 rfl 4 rfl ?_
              refine r_iconst (v := (nI 4)) dL_types_148 (by decide) ?_
              refine n_iald dL_types_149 hL110.r1 (by omega) (by decide) ?_
              refine r_iconst (v := (nI 3)) dL_types_150 (by decide) ?_
              refine n_iadd dL_types_151 ?_
              refine n_icmp_ne 210 dL_types_152 (by decide) (by omega) (by omega) (fun c113 => absurd c113 (by omega)) (fun c113 => ?_)
              refine r_aload_n dL_types_155 rfl 3 rfl ?_
              refine r_iconst (v := (nI 0)) dL_types_156 (by decide) ?_
              refine r_iload dL_types_157 0 rfl ?_
              refine r_bipush (v := (nI 80)) dL_types_159 (by decide) ?_
              refine n_idiv dL_types_161 (by omega) (by omega) (by omega) ?_
              refine r_iconst (v := (nI 2)) dL_types_162 (by decide) ?_
              refine n_irem dL_types_163 (by omega) (by omega) (by omega) ?_
              refine n_if_ne 172 dL_types_164 (by decide) (by omega) (fun c164 => ?_) (fun c164 => ?_)
              · refine r_bipush (v := (nI 112)) dL_types_172 (by decide) ?_
                refine r_iconst (v := (nI 0)) dL_types_174 (by decide) ?_
                refine r_iconst (v := (nI 0)) dL_types_175 (by decide) ?_
                refine r_iconst (v := (nI 0)) dL_types_176 (by decide) ?_
                refine r_callSW (st := []) [.ref (Q 0), .int (nI 0), .int (nI 112), .int (nI 0), .int (nI 0), .int (nI 0)] (100 * (6 - (k + 1)) + 20) (2000 * (6 - (k + 1)) + 400) dL_types_177 kL_act nL_act lRL_88 (L_typ hL110 hIA110 (by omega) (by omega)) rfl rfl (Nat.le_of_ble_eq_true rfl) (by omega) (by omega) (fun _ _ h => h.elim) ?_
                intro r G116 hr
                obtain ⟨rfl, A115, hL115, hIA115, hKA115, hnA115, hsA115, hoA115⟩ := hr
                show WP mL_types _ _ _ _ _ _ _ 180 [(5, .int (nI y)), (4, .int (nI k)), (3, .int (nI 1)), (0, .ref (Q 0)), (1, .ref (Q 1)), (2, .int (nI x))] [.int (nI (A110 0 0 + 1))]
                refine r_aload_n dL_types_180 rfl 4 rfl ?_
                refine r_iconst (v := (nI 4)) dL_types_181 (by decide) ?_
                refine n_iald dL_types_182 hL115.r1 (by omega) (by decide) ?_
                refine r_iconst (v := (nI 4)) dL_types_183 (by decide) ?_
                refine n_iadd dL_types_184 ?_
                refine n_icmp_ne 210 dL_types_185 (by decide) (by omega) (by omega) (fun c118 => absurd c118 (by omega)) (fun c118 => ?_)
                refine r_aload_n dL_types_188 rfl 3 rfl ?_
                refine r_iconst (v := (nI 0)) dL_types_189 (by decide) ?_
                refine r_bipush (v := (nI 93)) dL_types_190 (by decide) ?_
                refine r_iconst (v := (nI 0)) dL_types_192 (by decide) ?_
                refine r_iconst (v := (nI 0)) dL_types_193 (by decide) ?_
                refine r_iconst (v := (nI 0)) dL_types_194 (by decide) ?_
                refine r_callSW (st := []) [.ref (Q 0), .int (nI 0), .int (nI 93), .int (nI 0), .int (nI 0), .int (nI 0)] (100 * (6 - (k + 1)) + 0) (2000 * (6 - (k + 1)) + 0) dL_types_195 kL_act nL_act lRL_88 (L_typ hL115 hIA115 (by omega) (by omega)) rfl rfl (Nat.le_of_ble_eq_true rfl) (by omega) (by omega) (fun _ _ h => h.elim) ?_
                intro r G120 hr
                obtain ⟨rfl, A119, hL119, hIA119, hKA119, hnA119, hsA119, hoA119⟩ := hr
                show WP mL_types _ _ _ _ _ _ _ 198 [(5, .int (nI y)), (4, .int (nI k)), (3, .int (nI 1)), (0, .ref (Q 0)), (1, .ref (Q 1)), (2, .int (nI x))] [.int (nI (A115 0 0 + 1))]
                refine r_aload_n dL_types_198 rfl 4 rfl ?_
                refine r_iconst (v := (nI 4)) dL_types_199 (by decide) ?_
                refine n_iald dL_types_200 hL119.r1 (by omega) (by decide) ?_
                refine r_iconst (v := (nI 5)) dL_types_201 (by decide) ?_
                refine n_iadd dL_types_202 ?_
                refine n_icmp_ne 210 dL_types_203 (by decide) (by omega) (by omega) (fun c122 => absurd c122 (by omega)) (fun c122 => ?_)
                refine r_iconst (v := (nI 1)) dL_types_206 (by decide) ?_
                refine r_goto 211 dL_types_207 (by decide) ?_
                refine r_istore_n [(3, .int (nI 1)), (5, .int (nI y)), (4, .int (nI k)), (0, .ref (Q 0)), (1, .ref (Q 1)), (2, .int (nI x))] dL_types_211 rfl (by decide) rfl ?_
                refine r_aload_n dL_types_212 rfl 4 rfl ?_
                refine r_iconst (v := (nI 4)) dL_types_213 (by decide) ?_
                refine r_dup2 dL_types_214 rfl rfl ?_
                refine n_iald dL_types_215 hL119.r1 (by omega) (by decide) ?_
                refine r_iconst (v := (nI 5)) dL_types_216 (by decide) ?_
                refine n_iadd dL_types_217 ?_
                refine n_iast dL_types_218 hL119.r1 (by omega) (by decide) ?_
                have hL123 := hL119.w1 (j := 4) (v := (B 1 4) + 5) (by omega)
                have hb124 : (setA B 1 4 ((B 1 4) + 5)) 1 4 = (B 1 4) + 5 := setA_s
                refine r_goto 300 dL_types_219 (by decide) ?_
                refine r_iinc (nI (k + 1)) [(4, .int (nI (k + 1))), (3, .int (nI 1)), (5, .int (nI y)), (0, .ref (Q 0)), (1, .ref (Q 1)), (2, .int (nI x))] dL_types_300 2 rfl (nI_add k 1) (by decide) rfl ?_
                refine r_goto 5 dL_types_303 (by decide) ?_
                exact WP.loc [0, 1, 3, 4, 5] rfl (WP.bud (by omega) (by omega) (ih (k + 1) _ _ _ ⟨hL123, hIA119, (hR.buf ((((hKA49.tr hKA53).tr hKA110).tr hKA115).tr hKA119) (v := (B 1 4) + 5) (by omega)), hK.tr ((((hKA49.tr hKA53).tr hKA110).tr hKA115).tr hKA119), by omega⟩ (by omega)))
              · refine r_bipush (v := (nI 115)) dL_types_167 (by decide) ?_
                refine r_goto 174 dL_types_169 (by decide) ?_
                refine r_iconst (v := (nI 0)) dL_types_174 (by decide) ?_
                refine r_iconst (v := (nI 0)) dL_types_175 (by decide) ?_
                refine r_iconst (v := (nI 0)) dL_types_176 (by decide) ?_
                refine r_callSW (st := []) [.ref (Q 0), .int (nI 0), .int (nI 115), .int (nI 0), .int (nI 0), .int (nI 0)] (100 * (6 - (k + 1)) + 20) (2000 * (6 - (k + 1)) + 400) dL_types_177 kL_act nL_act lRL_88 (L_typ hL110 hIA110 (by omega) (by omega)) rfl rfl (Nat.le_of_ble_eq_true rfl) (by omega) (by omega) (fun _ _ h => h.elim) ?_
                intro r G126 hr
                obtain ⟨rfl, A125, hL125, hIA125, hKA125, hnA125, hsA125, hoA125⟩ := hr
                show WP mL_types _ _ _ _ _ _ _ 180 [(5, .int (nI y)), (4, .int (nI k)), (3, .int (nI 1)), (0, .ref (Q 0)), (1, .ref (Q 1)), (2, .int (nI x))] [.int (nI (A110 0 0 + 1))]
                refine r_aload_n dL_types_180 rfl 4 rfl ?_
                refine r_iconst (v := (nI 4)) dL_types_181 (by decide) ?_
                refine n_iald dL_types_182 hL125.r1 (by omega) (by decide) ?_
                refine r_iconst (v := (nI 4)) dL_types_183 (by decide) ?_
                refine n_iadd dL_types_184 ?_
                refine n_icmp_ne 210 dL_types_185 (by decide) (by omega) (by omega) (fun c128 => absurd c128 (by omega)) (fun c128 => ?_)
                refine r_aload_n dL_types_188 rfl 3 rfl ?_
                refine r_iconst (v := (nI 0)) dL_types_189 (by decide) ?_
                refine r_bipush (v := (nI 93)) dL_types_190 (by decide) ?_
                refine r_iconst (v := (nI 0)) dL_types_192 (by decide) ?_
                refine r_iconst (v := (nI 0)) dL_types_193 (by decide) ?_
                refine r_iconst (v := (nI 0)) dL_types_194 (by decide) ?_
                refine r_callSW (st := []) [.ref (Q 0), .int (nI 0), .int (nI 93), .int (nI 0), .int (nI 0), .int (nI 0)] (100 * (6 - (k + 1)) + 0) (2000 * (6 - (k + 1)) + 0) dL_types_195 kL_act nL_act lRL_88 (L_typ hL125 hIA125 (by omega) (by omega)) rfl rfl (Nat.le_of_ble_eq_true rfl) (by omega) (by omega) (fun _ _ h => h.elim) ?_
                intro r G130 hr
                obtain ⟨rfl, A129, hL129, hIA129, hKA129, hnA129, hsA129, hoA129⟩ := hr
                show WP mL_types _ _ _ _ _ _ _ 198 [(5, .int (nI y)), (4, .int (nI k)), (3, .int (nI 1)), (0, .ref (Q 0)), (1, .ref (Q 1)), (2, .int (nI x))] [.int (nI (A125 0 0 + 1))]
                refine r_aload_n dL_types_198 rfl 4 rfl ?_
                refine r_iconst (v := (nI 4)) dL_types_199 (by decide) ?_
                refine n_iald dL_types_200 hL129.r1 (by omega) (by decide) ?_
                refine r_iconst (v := (nI 5)) dL_types_201 (by decide) ?_
                refine n_iadd dL_types_202 ?_
                refine n_icmp_ne 210 dL_types_203 (by decide) (by omega) (by omega) (fun c132 => absurd c132 (by omega)) (fun c132 => ?_)
                refine r_iconst (v := (nI 1)) dL_types_206 (by decide) ?_
                refine r_goto 211 dL_types_207 (by decide) ?_
                refine r_istore_n [(3, .int (nI 1)), (5, .int (nI y)), (4, .int (nI k)), (0, .ref (Q 0)), (1, .ref (Q 1)), (2, .int (nI x))] dL_types_211 rfl (by decide) rfl ?_
                refine r_aload_n dL_types_212 rfl 4 rfl ?_
                refine r_iconst (v := (nI 4)) dL_types_213 (by decide) ?_
                refine r_dup2 dL_types_214 rfl rfl ?_
                refine n_iald dL_types_215 hL129.r1 (by omega) (by decide) ?_
                refine r_iconst (v := (nI 5)) dL_types_216 (by decide) ?_
                refine n_iadd dL_types_217 ?_
                refine n_iast dL_types_218 hL129.r1 (by omega) (by decide) ?_
                have hL133 := hL129.w1 (j := 4) (v := (B 1 4) + 5) (by omega)
                have hb134 : (setA B 1 4 ((B 1 4) + 5)) 1 4 = (B 1 4) + 5 := setA_s
                refine r_goto 300 dL_types_219 (by decide) ?_
                refine r_iinc (nI (k + 1)) [(4, .int (nI (k + 1))), (3, .int (nI 1)), (5, .int (nI y)), (0, .ref (Q 0)), (1, .ref (Q 1)), (2, .int (nI x))] dL_types_300 2 rfl (nI_add k 1) (by decide) rfl ?_
                refine r_goto 5 dL_types_303 (by decide) ?_
                exact WP.loc [0, 1, 3, 4, 5] rfl (WP.bud (by omega) (by omega) (ih (k + 1) _ _ _ ⟨hL133, hIA129, (hR.buf ((((hKA49.tr hKA53).tr hKA110).tr hKA125).tr hKA129) (v := (B 1 4) + 5) (by omega)), hK.tr ((((hKA49.tr hKA53).tr hKA110).tr hKA125).tr hKA129), by omega⟩ (by omega)))
          · refine r_bipush (v := (nI 110)) dL_types_102 (by decide) ?_
            refine r_goto 141 dL_types_104 (by decide) ?_
            refine r_iconst (v := (nI 0)) dL_types_141 (by decide) ?_
            refine r_iconst (v := (nI 0)) dL_types_142 (by decide) ?_
            refine r_iconst (v := (nI 0)) dL_types_143 (by decide) ?_
            refine r_callSW (st := []) [.ref (Q 0), .int (nI 0), .int (nI 110), .int (nI 0), .int (nI 0), .int (nI 0)] (100 * (6 - (k + 1)) + 40) (2000 * (6 - (k + 1)) + 800) dL_types_144 kL_act nL_act lRL_88 (L_typ hL53 hIA53 (by omega) (by omega)) rfl rfl (Nat.le_of_ble_eq_true rfl) (by omega) (by omega) (fun _ _ h => h.elim) ?_
            intro r G136 hr
            obtain ⟨rfl, A135, hL135, hIA135, hKA135, hnA135, hsA135, hoA135⟩ := hr
            show WP mL_types _ _ _ _ _ _ _ 147 [(5, .int (nI y)), (4, .int (nI k)), (3, .int (nI 1)), (0, .ref (Q 0)), (1, .ref (Q 1)), (2, .int (nI x))] [.int (nI (A53 0 0 + 1))]
            refine r_aload_n dL_types_147 rfl 4 rfl ?_
            refine r_iconst (v := (nI 4)) dL_types_148 (by decide) ?_
            refine n_iald dL_types_149 hL135.r1 (by omega) (by decide) ?_
            refine r_iconst (v := (nI 3)) dL_types_150 (by decide) ?_
            refine n_iadd dL_types_151 ?_
            refine n_icmp_ne 210 dL_types_152 (by decide) (by omega) (by omega) (fun c138 => absurd c138 (by omega)) (fun c138 => ?_)
            refine r_aload_n dL_types_155 rfl 3 rfl ?_
            refine r_iconst (v := (nI 0)) dL_types_156 (by decide) ?_
            refine r_iload dL_types_157 0 rfl ?_
            refine r_bipush (v := (nI 80)) dL_types_159 (by decide) ?_
            refine n_idiv dL_types_161 (by omega) (by omega) (by omega) ?_
            refine r_iconst (v := (nI 2)) dL_types_162 (by decide) ?_
            refine n_irem dL_types_163 (by omega) (by omega) (by omega) ?_
            refine n_if_ne 172 dL_types_164 (by decide) (by omega) (fun c164 => ?_) (fun c164 => ?_)
            · refine r_bipush (v := (nI 112)) dL_types_172 (by decide) ?_
              refine r_iconst (v := (nI 0)) dL_types_174 (by decide) ?_
              refine r_iconst (v := (nI 0)) dL_types_175 (by decide) ?_
              refine r_iconst (v := (nI 0)) dL_types_176 (by decide) ?_
              refine r_callSW (st := []) [.ref (Q 0), .int (nI 0), .int (nI 112), .int (nI 0), .int (nI 0), .int (nI 0)] (100 * (6 - (k + 1)) + 20) (2000 * (6 - (k + 1)) + 400) dL_types_177 kL_act nL_act lRL_88 (L_typ hL135 hIA135 (by omega) (by omega)) rfl rfl (Nat.le_of_ble_eq_true rfl) (by omega) (by omega) (fun _ _ h => h.elim) ?_
              intro r G141 hr
              obtain ⟨rfl, A140, hL140, hIA140, hKA140, hnA140, hsA140, hoA140⟩ := hr
              show WP mL_types _ _ _ _ _ _ _ 180 [(5, .int (nI y)), (4, .int (nI k)), (3, .int (nI 1)), (0, .ref (Q 0)), (1, .ref (Q 1)), (2, .int (nI x))] [.int (nI (A135 0 0 + 1))]
              refine r_aload_n dL_types_180 rfl 4 rfl ?_
              refine r_iconst (v := (nI 4)) dL_types_181 (by decide) ?_
              refine n_iald dL_types_182 hL140.r1 (by omega) (by decide) ?_
              refine r_iconst (v := (nI 4)) dL_types_183 (by decide) ?_
              refine n_iadd dL_types_184 ?_
              refine n_icmp_ne 210 dL_types_185 (by decide) (by omega) (by omega) (fun c143 => absurd c143 (by omega)) (fun c143 => ?_)
              refine r_aload_n dL_types_188 rfl 3 rfl ?_
              refine r_iconst (v := (nI 0)) dL_types_189 (by decide) ?_
              refine r_bipush (v := (nI 93)) dL_types_190 (by decide) ?_
              refine r_iconst (v := (nI 0)) dL_types_192 (by decide) ?_
              refine r_iconst (v := (nI 0)) dL_types_193 (by decide) ?_
              refine r_iconst (v := (nI 0)) dL_types_194 (by decide) ?_
              refine r_callSW (st := []) [.ref (Q 0), .int (nI 0), .int (nI 93), .int (nI 0), .int (nI 0), .int (nI 0)] (100 * (6 - (k + 1)) + 0) (2000 * (6 - (k + 1)) + 0) dL_types_195 kL_act nL_act lRL_88 (L_typ hL140 hIA140 (by omega) (by omega)) rfl rfl (Nat.le_of_ble_eq_true rfl) (by omega) (by omega) (fun _ _ h => h.elim) ?_
              intro r G145 hr
              obtain ⟨rfl, A144, hL144, hIA144, hKA144, hnA144, hsA144, hoA144⟩ := hr
              show WP mL_types _ _ _ _ _ _ _ 198 [(5, .int (nI y)), (4, .int (nI k)), (3, .int (nI 1)), (0, .ref (Q 0)), (1, .ref (Q 1)), (2, .int (nI x))] [.int (nI (A140 0 0 + 1))]
              refine r_aload_n dL_types_198 rfl 4 rfl ?_
              refine r_iconst (v := (nI 4)) dL_types_199 (by decide) ?_
              refine n_iald dL_types_200 hL144.r1 (by omega) (by decide) ?_
              refine r_iconst (v := (nI 5)) dL_types_201 (by decide) ?_
              refine n_iadd dL_types_202 ?_
              refine n_icmp_ne 210 dL_types_203 (by decide) (by omega) (by omega) (fun c147 => absurd c147 (by omega)) (fun c147 => ?_)
              refine r_iconst (v := (nI 1)) dL_types_206 (by decide) ?_
              refine r_goto 211 dL_types_207 (by decide) ?_
              refine r_istore_n [(3, .int (nI 1)), (5, .int (nI y)), (4, .int (nI k)), (0, .ref (Q 0)), (1, .ref (Q 1)), (2, .int (nI x))] dL_types_211 rfl (by decide) rfl ?_
              refine r_aload_n dL_types_212 rfl 4 rfl ?_
              refine r_iconst (v := (nI 4)) dL_types_213 (by decide) ?_
              refine r_dup2 dL_types_214 rfl rfl ?_
              refine n_iald dL_types_215 hL144.r1 (by omega) (by decide) ?_
              refine r_iconst (v := (nI 5)) dL_types_216 (by decide) ?_
              refine n_iadd dL_types_217 ?_
              refine n_iast dL_types_218 hL144.r1 (by omega) (by decide) ?_
              have hL148 := hL144.w1 (j := 4) (v := (B 1 4) + 5) (by omega)
              have hb149 : (setA B 1 4 ((B 1 4) + 5)) 1 4 = (B 1 4) + 5 := setA_s
              refine r_goto 300 dL_types_219 (by decide) ?_
              refine r_iinc (nI (k + 1)) [(4, .int (nI (k + 1))), (3, .int (nI 1)), (5, .int (nI y)), (0, .ref (Q 0)), (1, .ref (Q 1)), (2, .int (nI x))] dL_types_300 2 rfl (nI_add k 1) (by decide) rfl ?_
              refine r_goto 5 dL_types_303 (by decide) ?_
              exact WP.loc [0, 1, 3, 4, 5] rfl (WP.bud (by omega) (by omega) (ih (k + 1) _ _ _ ⟨hL148, hIA144, (hR.buf ((((hKA49.tr hKA53).tr hKA135).tr hKA140).tr hKA144) (v := (B 1 4) + 5) (by omega)), hK.tr ((((hKA49.tr hKA53).tr hKA135).tr hKA140).tr hKA144), by omega⟩ (by omega)))
            · refine r_bipush (v := (nI 115)) dL_types_167 (by decide) ?_
              refine r_goto 174 dL_types_169 (by decide) ?_
              refine r_iconst (v := (nI 0)) dL_types_174 (by decide) ?_
              refine r_iconst (v := (nI 0)) dL_types_175 (by decide) ?_
              refine r_iconst (v := (nI 0)) dL_types_176 (by decide) ?_
              refine r_callSW (st := []) [.ref (Q 0), .int (nI 0), .int (nI 115), .int (nI 0), .int (nI 0), .int (nI 0)] (100 * (6 - (k + 1)) + 20) (2000 * (6 - (k + 1)) + 400) dL_types_177 kL_act nL_act lRL_88 (L_typ hL135 hIA135 (by omega) (by omega)) rfl rfl (Nat.le_of_ble_eq_true rfl) (by omega) (by omega) (fun _ _ h => h.elim) ?_
              intro r G151 hr
              obtain ⟨rfl, A150, hL150, hIA150, hKA150, hnA150, hsA150, hoA150⟩ := hr
              show WP mL_types _ _ _ _ _ _ _ 180 [(5, .int (nI y)), (4, .int (nI k)), (3, .int (nI 1)), (0, .ref (Q 0)), (1, .ref (Q 1)), (2, .int (nI x))] [.int (nI (A135 0 0 + 1))]
              refine r_aload_n dL_types_180 rfl 4 rfl ?_
              refine r_iconst (v := (nI 4)) dL_types_181 (by decide) ?_
              refine n_iald dL_types_182 hL150.r1 (by omega) (by decide) ?_
              refine r_iconst (v := (nI 4)) dL_types_183 (by decide) ?_
              refine n_iadd dL_types_184 ?_
              refine n_icmp_ne 210 dL_types_185 (by decide) (by omega) (by omega) (fun c153 => absurd c153 (by omega)) (fun c153 => ?_)
              refine r_aload_n dL_types_188 rfl 3 rfl ?_
              refine r_iconst (v := (nI 0)) dL_types_189 (by decide) ?_
              refine r_bipush (v := (nI 93)) dL_types_190 (by decide) ?_
              refine r_iconst (v := (nI 0)) dL_types_192 (by decide) ?_
              refine r_iconst (v := (nI 0)) dL_types_193 (by decide) ?_
              refine r_iconst (v := (nI 0)) dL_types_194 (by decide) ?_
              refine r_callSW (st := []) [.ref (Q 0), .int (nI 0), .int (nI 93), .int (nI 0), .int (nI 0), .int (nI 0)] (100 * (6 - (k + 1)) + 0) (2000 * (6 - (k + 1)) + 0) dL_types_195 kL_act nL_act lRL_88 (L_typ hL150 hIA150 (by omega) (by omega)) rfl rfl (Nat.le_of_ble_eq_true rfl) (by omega) (by omega) (fun _ _ h => h.elim) ?_
              intro r G155 hr
              obtain ⟨rfl, A154, hL154, hIA154, hKA154, hnA154, hsA154, hoA154⟩ := hr
              show WP mL_types _ _ _ _ _ _ _ 198 [(5, .int (nI y)), (4, .int (nI k)), (3, .int (nI 1)), (0, .ref (Q 0)), (1, .ref (Q 1)), (2, .int (nI x))] [.int (nI (A150 0 0 + 1))]
              refine r_aload_n dL_types_198 rfl 4 rfl ?_
              refine r_iconst (v := (nI 4)) dL_types_199 (by decide) ?_
              refine n_iald dL_types_200 hL154.r1 (by omega) (by decide) ?_
              refine r_iconst (v := (nI 5)) dL_types_201 (by decide) ?_
              refine n_iadd dL_types_202 ?_
              refine n_icmp_ne 210 dL_types_203 (by decide) (by omega) (by omega) (fun c157 => absurd c157 (by omega)) (fun c157 => ?_)
              refine r_iconst (v := (nI 1)) dL_types_206 (by decide) ?_
              refine r_goto 211 dL_types_207 (by decide) ?_
              refine r_istore_n [(3, .int (nI 1)), (5, .int (nI y)), (4, .int (nI k)), (0, .ref (Q 0)), (1, .ref (Q 1)), (2, .int (nI x))] dL_types_211 rfl (by decide) rfl ?_
              refine r_aload_n dL_types_212 rfl 4 rfl ?_
              refine r_iconst (v := (nI 4)) dL_types_213 (by decide) ?_
              refine r_dup2 dL_types_214 rfl rfl ?_
              refine n_iald dL_types_215 hL154.r1 (by omega) (by decide) ?_
              refine r_iconst (v := (nI 5)) dL_types_216 (by decide) ?_
              refine n_iadd dL_types_217 ?_
              refine n_iast dL_types_218 hL154.r1 (by omega) (by decide) ?_
              have hL158 := hL154.w1 (j := 4) (v := (B 1 4) + 5) (by omega)
              have hb159 : (setA B 1 4 ((B 1 4) + 5)) 1 4 = (B 1 4) + 5 := setA_s
              refine r_goto 300 dL_types_219 (by decide) ?_
              refine r_iinc (nI (k + 1)) [(4, .int (nI (k + 1))), (3, .int (nI 1)), (5, .int (nI y)), (0, .ref (Q 0)), (1, .ref (Q 1)), (2, .int (nI x))] dL_types_300 2 rfl (nI_add k 1) (by decide) rfl ?_
              refine r_goto 5 dL_types_303 (by decide) ?_
              exact WP.loc [0, 1, 3, 4, 5] rfl (WP.bud (by omega) (by omega) (ih (k + 1) _ _ _ ⟨hL158, hIA154, (hR.buf ((((hKA49.tr hKA53).tr hKA135).tr hKA150).tr hKA154) (v := (B 1 4) + 5) (by omega)), hK.tr ((((hKA49.tr hKA53).tr hKA135).tr hKA150).tr hKA154), by omega⟩ (by omega)))
set_option maxRecDepth 100000 in
set_option maxHeartbeats 4000000 in
theorem l_types {d b0 : Nat} {G : GH} {Q : Nat → Nat} {A B : ST} (hL : LW Q A B G) (hI : Inv A) (hR : Rl A B) {x : Nat} (hx : x < 2 ^ 31) : CT mL_types (d + 10) b0 G [.ref (Q 0), .ref (Q 1), .int (nI x)] 600 12000 (fun r G' => r = some (.int (nI 1)) ∧ ∃ A2 B2, LW Q A2 B2 G' ∧ Inv A2 ∧ Rl A2 B2 ∧ Kp A A2) NoX := by
  refine CT.intro (by decide +kernel) rfl (Nat.le_of_ble_eq_true rfl) ?_
  show WP mL_types _ _ _ _ _ _ _ 0 [(0, .ref (Q 0)), (1, .ref (Q 1)), (2, .int (nI x))] []
  refine r_iconst (v := (nI 1)) dL_types_0 (by decide) ?_
  refine r_istore_n [(3, .int (nI 1)), (0, .ref (Q 0)), (1, .ref (Q 1)), (2, .int (nI x))] dL_types_1 rfl (by decide) rfl ?_
  refine r_iconst (v := (nI 0)) dL_types_2 (by decide) ?_
  refine r_istore [(4, .int (nI 0)), (3, .int (nI 1)), (0, .ref (Q 0)), (1, .ref (Q 1)), (2, .int (nI x))] dL_types_3 (by decide) rfl ?_
  exact WP.loc [0, 1, 2, 3, 4] rfl (WP.bud (by omega) (by omega) (l_types1 hx 7 0 _ _ _ ⟨hL, hI, hR, Kp.rf, by omega⟩ (by omega)))
set_option maxRecDepth 100000 in
set_option maxHeartbeats 4000000 in
theorem l_spells1 {d b0 : Nat} {Q : Nat → Nat} {A0 : ST} {x m : Nat} (hx : x < 2 ^ 31) (hm : m ≤ 10) : ∀ (fu : Nat) (k : Nat) (A B : ST) (G : GH), (LW Q A B G ∧ Inv A ∧ Rl A B ∧ Kp A0 A ∧ A 0 0 = k ∧ k ≤ m ∧ ∀ j, j < k → sml (A 1 j)) → 10 - k < fu → WP mL_spells (d + 10) b0 (fun r G' => r = some (.int (nI 1)) ∧ ∃ A2 B2, LW Q A2 B2 G' ∧ Inv A2 ∧ Rl A2 B2 ∧ Kp A0 A2 ∧ A2 0 0 = m ∧ ∀ k, k < m → sml (A2 1 k)) NoX G (20 * (10 - k)) (400 * (10 - k)) 24 [(5, .int (nI k)), (4, .int (nI 1)), (0, .ref (Q 0)), (1, .ref (Q 1)), (2, .int (nI m)), (3, .int (nI x))] [] := by
  intro fu
  induction fu with
  | zero => intro k A B G hinv hn; exact absurd hn (Nat.not_lt_zero _)
  | succ fu ih =>
    intro k A B G hinv hn
    obtain ⟨hL, hI, hR, hK, h0, hk, hsm0⟩ := hinv
    have hm0 := hR.m0
    have hm1 := hR.m1
    have hm2 := hR.m2
    have hm3 := hR.m3
    have hm4 := hR.m4
    have hn9 := hR.n9
    have hb0 := hI.b0
    have hb2 := hI.b2
    have hb15 := hI.b15
    have hb18 := hI.b18
    refine r_iload dL_spells_24 0 rfl ?_
    refine r_iload_n dL_spells_26 rfl 4 rfl ?_
    refine n_icmp_ge 83 dL_spells_27 (by decide) (by omega) (by omega) (fun ce => ?_) (fun ce => ?_)
    · refine r_iload dL_spells_83 1 rfl ?_
      refine r_ret .boolean dL_spells_85 rfl rfl ?_
      have hk9 : k = m := by omega
      exact ⟨rfl, _, _, hL, hI, hR, hK, by omega, fun j hj => hsm0 j (by omega)⟩
    · refine WP.bud (bc' := 20 * (10 - (k + 1)) + 20) (bs' := 400 * (10 - (k + 1)) + 400) (by omega) (by omega) ?_
      refine r_iload dL_spells_30 1 rfl ?_
      refine n_if_eq 83 dL_spells_32 (by decide) (by omega) (fun c2 => absurd c2 (by decide)) (fun c2 => ?_)
      refine r_aload_n dL_spells_35 rfl 3 rfl ?_
      refine r_iconst (v := (nI 4)) dL_spells_36 (by decide) ?_
      refine r_dup2 dL_spells_37 rfl rfl ?_
      refine n_iald dL_spells_38 hL.r1 (by omega) (by decide) ?_
      refine r_iconst (v := (nI 1)) dL_spells_39 (by decide) ?_
      refine n_iadd dL_spells_40 ?_
      refine n_iast dL_spells_41 hL.r1 (by omega) (by decide) ?_
      have hL3 := hL.w1 (j := 4) (v := (B 1 4) + 1) (by omega)
      have hb4 : (setA B 1 4 ((B 1 4) + 1)) 1 4 = (B 1 4) + 1 := setA_s
      refine r_aload_n dL_spells_42 rfl 2 rfl ?_
      refine r_iconst (v := (nI 0)) dL_spells_43 (by decide) ?_
      refine r_bipush (v := (nI 97)) dL_spells_44 (by decide) ?_
      refine r_iload_n dL_spells_46 rfl 5 rfl ?_
      refine r_iconst (v := (nI 1)) dL_spells_47 (by decide) ?_
      refine r_iconst (v := (nI 3)) dL_spells_48 (by decide) ?_
      refine r_iload dL_spells_49 0 rfl ?_
      refine n_imul dL_spells_51 ?_
      refine n_iadd dL_spells_52 ?_
      refine n_idiv dL_spells_53 (by omega) (by omega) (by omega) ?_
      have hz9 : x / (1 + 3 * k) < 2 ^ 31 := Nat.lt_of_le_of_lt (Nat.div_le_self _ _) hx
      refine r_bipush (v := (nI 26)) dL_spells_54 (by decide) ?_
      refine n_irem dL_spells_56 (by omega) (by omega) (by omega) ?_
      have hy9 : x / (1 + 3 * k) % 26 < 26 := Nat.mod_lt _ (by decide)
      revert hy9
      generalize x / (1 + 3 * k) % 26 = y
      intro hy9
      refine n_iadd dL_spells_57 ?_
      refine r_iconst (v := (nI 0)) dL_spells_58 (by decide) ?_
      refine r_iconst (v := (nI 0)) dL_spells_59 (by decide) ?_
      refine r_iconst (v := (nI 0)) dL_spells_60 (by decide) ?_
      refine r_callSW (st := []) [.ref (Q 0), .int (nI 0), .int (nI (97 + y)), .int (nI 0), .int (nI 0), .int (nI 0)] (20 * (10 - (k + 1)) + 0) (400 * (10 - (k + 1)) + 0) dL_spells_61 kL_act nL_act lRL_88 (L_typ hL3 hI (by omega) (by omega)) rfl rfl (Nat.le_of_ble_eq_true rfl) (by omega) (by omega) (fun _ _ h => h.elim) ?_
      intro r G6 hr
      obtain ⟨rfl, A5, hL5, hIA5, hKA5, hnA5, hsA5, hoA5⟩ := hr
      show WP mL_spells _ _ _ _ _ _ _ 64 [(5, .int (nI k)), (4, .int (nI 1)), (0, .ref (Q 0)), (1, .ref (Q 1)), (2, .int (nI m)), (3, .int (nI x))] [.int (nI (A 0 0 + 1))]
      refine r_aload_n dL_spells_64 rfl 3 rfl ?_
      refine r_iconst (v := (nI 4)) dL_spells_65 (by decide) ?_
      refine n_iald dL_spells_66 hL5.r1 (by omega) (by decide) ?_
      refine n_icmp_ne 74 dL_spells_67 (by decide) (by omega) (by omega) (fun c8 => absurd c8 (by omega)) (fun c8 => ?_)
      refine r_iconst (v := (nI 1)) dL_spells_70 (by decide) ?_
      refine r_goto 75 dL_spells_71 (by decide) ?_
      refine r_istore [(4, .int (nI 1)), (5, .int (nI k)), (0, .ref (Q 0)), (1, .ref (Q 1)), (2, .int (nI m)), (3, .int (nI x))] dL_spells_75 (by decide) rfl ?_
      refine r_iinc (nI (k + 1)) [(5, .int (nI (k + 1))), (4, .int (nI 1)), (0, .ref (Q 0)), (1, .ref (Q 1)), (2, .int (nI m)), (3, .int (nI x))] dL_spells_77 1 rfl (nI_add k 1) (by decide) rfl ?_
      refine r_goto 24 dL_spells_80 (by decide) ?_
      have hsm : ∀ j, j < k + 1 → sml (A5 1 j) := fun j hj => by
        by_cases h9 : j = A 0 0
        · rw [h9, hsA5]; exact ⟨by omega, by omega⟩
        · rw [hoA5 j h9]; exact hsm0 j (by omega)
      exact WP.loc [0, 1, 2, 3, 4, 5] rfl (WP.bud (by omega) (by omega) (ih (k + 1) _ _ _ ⟨hL5, hIA5, hR.buf hKA5 (v := (B 1 4) + 1) (by omega), hK.tr hKA5, by omega, by omega, hsm⟩ (by omega)))
set_option maxRecDepth 100000 in
set_option maxHeartbeats 4000000 in
theorem l_spells {d b0 : Nat} {G : GH} {Q : Nat → Nat} {A B : ST} (hL : LW Q A B G) (hI : Inv A) (hR : Rl A B) {x m : Nat} (hx : x < 2 ^ 31) (hm : m ≤ 10) : CT mL_spells (d + 10) b0 G [.ref (Q 0), .ref (Q 1), .int (nI m), .int (nI x)] 220 4400 (fun r G' => r = some (.int (nI 1)) ∧ ∃ A2 B2, LW Q A2 B2 G' ∧ Inv A2 ∧ Rl A2 B2 ∧ Kp A A2 ∧ A2 0 0 = m ∧ ∀ k, k < m → sml (A2 1 k)) NoX := by
  have hm0 := hR.m0
  have hm1 := hR.m1
  have hm2 := hR.m2
  have hm3 := hR.m3
  have hm4 := hR.m4
  have hn9 := hR.n9
  have hb0 := hI.b0
  have hb2 := hI.b2
  have hb15 := hI.b15
  have hb18 := hI.b18
  refine CT.intro (by decide +kernel) rfl (Nat.le_of_ble_eq_true rfl) ?_
  show WP mL_spells _ _ _ _ _ _ _ 0 [(0, .ref (Q 0)), (1, .ref (Q 1)), (2, .int (nI m)), (3, .int (nI x))] []
  refine r_aload_n dL_spells_0 rfl 0 rfl ?_
  obtain ⟨fshq1, hq1⟩ := hL.r0
  refine r_callV (st := []) [] 200 4000 dL_spells_1 kX8_clear nX8_clear lRL_112 hq1 rfl (L_clr (d := d + 1) hL hI) rfl rfl (Nat.le_of_ble_eq_true rfl) (by omega) (by omega) (fun _ _ h => h.elim) ?_
  intro r G2 hr
  obtain ⟨rfl, A1, hL1, hI1, hK1, hn1⟩ := hr
  show WP mL_spells _ _ _ _ _ _ _ 4 [(0, .ref (Q 0)), (1, .ref (Q 1)), (2, .int (nI m)), (3, .int (nI x))] [.int (nI (A 0 0))]
  refine r_aload_n dL_spells_4 rfl 1 rfl ?_
  refine r_iconst (v := (nI 4)) dL_spells_5 (by decide) ?_
  refine n_iald dL_spells_6 hL1.r1 (by omega) (by decide) ?_
  refine n_icmp_ne 14 dL_spells_7 (by decide) (by omega) (by omega) (fun c4 => absurd c4 (by omega)) (fun c4 => ?_)
  refine r_iconst (v := (nI 1)) dL_spells_10 (by decide) ?_
  refine r_goto 15 dL_spells_11 (by decide) ?_
  refine r_istore [(4, .int (nI 1)), (0, .ref (Q 0)), (1, .ref (Q 1)), (2, .int (nI m)), (3, .int (nI x))] dL_spells_15 (by decide) rfl ?_
  refine r_aload_n dL_spells_17 rfl 2 rfl ?_
  refine r_iconst (v := (nI 4)) dL_spells_18 (by decide) ?_
  refine r_iconst (v := (nI 0)) dL_spells_19 (by decide) ?_
  refine n_iast dL_spells_20 hL1.r1 (by omega) (by decide) ?_
  have hL5 := hL1.w1 (j := 4) (v := 0) (by omega)
  have hb6 : (setA B 1 4 0) 1 4 = 0 := setA_s
  refine r_iconst (v := (nI 0)) dL_spells_21 (by decide) ?_
  refine r_istore [(5, .int (nI 0)), (4, .int (nI 1)), (0, .ref (Q 0)), (1, .ref (Q 1)), (2, .int (nI m)), (3, .int (nI x))] dL_spells_22 (by decide) rfl ?_
  exact WP.loc [0, 1, 2, 3, 4, 5] rfl (WP.bud (by omega) (by omega) (l_spells1 hx hm 11 0 _ _ _ ⟨hL5, hI1, hR.buf hK1 (v := 0) (by omega), hK1, hn1, by omega, fun j hj => absurd hj (Nat.not_lt_zero _)⟩ (by omega)))
