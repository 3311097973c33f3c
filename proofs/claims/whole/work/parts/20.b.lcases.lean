theorem cmp_self (x : Int64) : lg_cmp x x = 0 := by
  unfold lg_cmp
  rw [if_neg (show ¬ x > x from Int64.lt_irrefl), if_pos rfl]
theorem i2c_n (x : Int32) : ∃ c : Nat, c < 65536 ∧ (x.toUInt32 % 65536).toInt32 = nI c := by
  refine ⟨(x.toUInt32 % 65536).toNat, ?_, ?_⟩
  · rw [UInt32.toNat_mod]
    exact Nat.mod_lt _ (by decide)
  · apply Int32.toBitVec.inj
    show (x.toUInt32 % 65536).toBitVec = BitVec.ofNat 32 (x.toUInt32 % 65536).toBitVec.toNat
    generalize (x.toUInt32 % 65536).toBitVec = b
    simp
/-- the loop goes on -/
abbrev LK (X : SX) (b0 : Nat) (Po : Option Value → GH → Prop) (Px : String → GH → Prop) (bc bs i : Nat) : Prop := ∀ (C' : ST) (ad' : AD) (G' : GH), World C' C' ad' G' → Inv C' → Pag C' → WL X mL_law 10 b0 Po Px G' bc bs 1446 [(4, .int (nI i)), (3, .ref (ad' 33 0)), (2, .ref (ad' 31 0)), (1, .ref (ad' 0 0)), (0, .ref X.1)] []
theorem LK.use {X : SX} {b0 : Nat} {Po : Option Value → GH → Prop} {Px : String → GH → Prop} {bc bs i : Nat} (K : LK X b0 Po Px bc bs i) {A B st : ST} {ad ad1 : AD} {G : GH} (hW : World A B ad1 G) (hA : ∀ f, f < 22 → A f = st f) (hB : ∀ f, f < 22 → B f = st f) (hI : Inv st) (hP : Pag A) (e0 : ad1 0 0 = ad 0 0) (e31 : ad1 31 0 = ad 31 0) (e33 : ad1 33 0 = ad 33 0) : WL X mL_law 10 b0 Po Px G bc bs 1446 [(4, .int (nI i)), (3, .ref (ad 33 0)), (2, .ref (ad 31 0)), (1, .ref (ad 0 0)), (0, .ref X.1)] [] := by
  have hC := World.merge hW (fun f hf => (hA f hf).trans (hB f hf).symm)
  have k := K _ _ _ hC (hI.congr (fun f hf => by
    show mg A B f = st f
    unfold mg
    rw [if_neg (by omega)]; exact hB f hf)) ⟨hP.1, hP.2⟩
  rw [e0, e31, e33] at k
  exact k
set_option maxRecDepth 100000 in
set_option maxHeartbeats 4000000 in
theorem la_type {X : SX} {b0 : Nat} {Po : Option Value → GH → Prop} {Px : String → GH → Prop} {bc bs i : Nat} {C : ST} {ad : AD} {G : GH} (hW : World C C ad G) (hI : Inv C) (hP : Pag C) (hi : i + 5 ≤ X.2.1) (hX : X.2.1 ≤ 2560) (K : LK X b0 Po Px bc bs i) : WL X mL_law 10 b0 Po Px G (bc + 20) (bs + 400) 132 [(4, .int (nI i)), (3, .ref (ad 33 0)), (2, .ref (ad 31 0)), (1, .ref (ad 0 0)), (0, .ref X.1)] [] := by
  obtain ⟨c, hc, ec⟩ := i2c_n (X.2.2 (i + 1))
  obtain ⟨cd, v, st, h4, hIs, hQ, hL, hM⟩ := o_type (b0 := b0) hW hI hP hc
  refine q_aload_n dL_law_132 rfl 3 rfl ?_
  refine q_aload_n dL_law_133 rfl 4 rfl ?_
  refine q_iload dL_law_134 0 rfl ?_
  refine q_iconst (v := 1) dL_law_136 (by decide) ?_
  refine q_iadd dL_law_137 ?_
  refine q_top (nI (i + 1)) (nI_add i 1) ?_
  refine q_sld dL_law_138 (vp_in_nI (by omega) (by omega)) ?_
  refine q_top (X.2.2 (i + 1)) (by rw [nI_cl (by omega)]) ?_
  refine q_i2c (v := nI c) dL_law_139 ec ?_
  refine q_aload_n dL_law_140 rfl 1 rfl ?_
  refine q_callSW (st := []) [.ref (ad 0 0), .int (nI c), .ref (ad 33 0)] bc bs dL_law_141 kL_type nL_type lRL_82 hL rfl rfl (Nat.le_of_ble_eq_true rfl) (Nat.le_refl _) (Nat.le_refl _) ?_
  intro r G1 hr
  obtain ⟨rfl, A1, B1, ad1, hW1, hk1, hP1, hA1, hB1, h40⟩ := hr
  have e0 : ad1 0 0 = ad 0 0 := hk1 0 0 rfl
  have e31 : ad1 31 0 = ad 31 0 := hk1 31 0 rfl
  have e33 : ad1 33 0 = ad 33 0 := hk1 33 0 rfl
  have h31 := hW1.g 31 0 rfl
  rw [e31] at h31
  have hM1 := hM A1 B1 ad1 G1 hW1 hB1 h40
  rw [e31] at hM1
  show WL X mL_law _ _ _ _ _ _ _ 144 [(4, .int (nI i)), (3, .ref (ad 33 0)), (2, .ref (ad 31 0)), (1, .ref (ad 0 0)), (0, .ref X.1)] [.int (nI cd)]
  refine q_istore [(5, .int (nI cd)), (4, .int (nI i)), (3, .ref (ad 33 0)), (2, .ref (ad 31 0)), (1, .ref (ad 0 0)), (0, .ref X.1)] dL_law_144 (by decide) rfl ?_
  refine q_aload_n dL_law_146 rfl 3 rfl ?_
  refine q_aload_n dL_law_147 rfl 5 rfl ?_
  refine q_iload dL_law_148 1 rfl ?_
  refine q_iconst (v := 1) dL_law_150 (by decide) ?_
  refine q_iadd dL_law_151 ?_
  refine q_top (nI (i + 1)) (nI_add i 1) ?_
  refine q_sld dL_law_152 (vp_in_nI (by omega) (by omega)) ?_
  refine q_top (X.2.2 (i + 1)) (by rw [nI_cl (by omega)]) ?_
  refine q_i2c (v := nI c) dL_law_153 ec ?_
  refine q_callV (st := []) [.int (nI c)] bc bs dL_law_154 kX9_type nX9_type lRL_87 h31 rfl hM1 rfl rfl (Nat.le_of_ble_eq_true rfl) (Nat.le_refl _) (Nat.le_refl _) ?_
  intro r G2 hr
  obtain ⟨v2, rfl, B2, hW2, h26, hB2, h0⟩ := hr
  have h31b := hW2.g 31 0 rfl
  rw [e31] at h31b
  have h33 := hW2.g 33 0 rfl
  rw [e33] at h33
  show WL X mL_law _ _ _ _ _ _ _ 157 [(5, .int (nI cd)), (4, .int (nI i)), (3, .ref (ad 33 0)), (2, .ref (ad 31 0)), (1, .ref (ad 0 0)), (0, .ref X.1)] [.int v2]
  refine q_istore [(6, .int v2), (5, .int (nI cd)), (4, .int (nI i)), (3, .ref (ad 33 0)), (2, .ref (ad 31 0)), (1, .ref (ad 0 0)), (0, .ref X.1)] dL_law_157 (by decide) rfl ?_
  refine q_aload_n dL_law_159 rfl 4 rfl ?_
  have ht := c_X9_thrown (d := 9) (b0 := b0) hW2
  rw [e31, h26] at ht
  refine q_callV (st := []) [] bc bs dL_law_160 kX9_thrown nX9_thrown lRL_88 h31b rfl ht rfl rfl (Nat.le_of_ble_eq_true rfl) (Nat.le_refl _) (Nat.le_refl _) ?_
  refine ql_det (st2 := [.int (nI cd)]) rfl ?_
  refine q_iload dL_law_163 1 rfl ?_
  refine q_icmp_eq 170 dL_law_165 (by decide) (fun _ => ?_) (fun c9 => absurd rfl c9)
  refine q_iload dL_law_170 1 rfl ?_
  refine q_if_ne 187 dL_law_172 (by decide) (fun c_2 => ?_) (fun c_2 => ?_)
  · refine q_goto 1446 dL_law_187 (by decide) ?_
    exact WL.loc [2, 3, 4, 5, 6] rfl (K.use hW2 hA1 hB2 hIs hP1 e0 e31 e33)
  · have hcd : cd = 0 := ni_eq (b := 0) (by omega) (by decide) c_2
    have h40v : nI (B2 40 0) = v2 := by rw [(h0 hcd).2, n32_s, (h0 hcd).1]
    refine q_aload_n dL_law_175 rfl 3 rfl ?_
    refine q_iconst (v := 0) dL_law_176 (by decide) ?_
    refine q_lald dL_law_177 h33 (show vp_in (nI 0) 1 from vp_in_nI (by decide) (by decide)) ?_
    refine q_iload dL_law_178 0 rfl ?_
    refine q_i2l dL_law_180 ?_
    refine q_lcmp dL_law_181 ?_
    have hcmp : lg_cmp (nI (B2 40 0)).toInt64 v2.toInt64 = 0 := by rw [h40v]; exact cmp_self _
    refine q_if_eq 187 dL_law_182 (by decide) (fun _ => ?_) (fun c9 => absurd hcmp c9)
    refine q_goto 1446 dL_law_187 (by decide) ?_
    exact WL.loc [2, 3, 4, 5, 6] rfl (K.use hW2 hA1 hB2 hIs hP1 e0 e31 e33)
set_option maxRecDepth 100000 in
set_option maxHeartbeats 4000000 in
theorem la_clear {X : SX} {b0 : Nat} {Po : Option Value → GH → Prop} {Px : String → GH → Prop} {bc bs i : Nat} {C : ST} {ad : AD} {G : GH} (hW : World C C ad G) (hI : Inv C) (hP : Pag C) (hi : i + 5 ≤ X.2.1) (hX : X.2.1 ≤ 2560) (K : LK X b0 Po Px bc bs i) : WL X mL_law 10 b0 Po Px G (bc + 20) (bs + 400) 190 [(4, .int (nI i)), (3, .ref (ad 33 0)), (2, .ref (ad 31 0)), (1, .ref (ad 0 0)), (0, .ref X.1)] [] := by
  obtain ⟨v, st, hIs, hL, hM⟩ := o_clear (b0 := b0) hW hI hP
  refine q_aload_n dL_law_190 rfl 3 rfl ?_
  refine q_callV (st := []) [] bc bs dL_law_191 kX8_clear nX8_clear lRL_91 (hW.g 0 0 rfl) rfl hL rfl rfl (Nat.le_of_ble_eq_true rfl) (Nat.le_refl _) (Nat.le_refl _) ?_
  intro r G1 hr
  obtain ⟨rfl, A1, ad1, hW1, hk1, hP1, hA1⟩ := hr
  have e0 : ad1 0 0 = ad 0 0 := hk1 0 0 rfl
  have e31 : ad1 31 0 = ad 31 0 := hk1 31 0 rfl
  have e33 : ad1 33 0 = ad 33 0 := hk1 33 0 rfl
  have h31 := hW1.g 31 0 rfl
  rw [e31] at h31
  have hM1 := hM A1 C ad1 G1 hW1 (fun _ _ => rfl)
  rw [e31] at hM1
  show WL X mL_law _ _ _ _ _ _ _ 194 [(4, .int (nI i)), (3, .ref (ad 33 0)), (2, .ref (ad 31 0)), (1, .ref (ad 0 0)), (0, .ref X.1)] [.int v]
  refine q_aload_n dL_law_194 rfl 2 rfl ?_
  refine q_callV (st := [.int v]) [] bc bs dL_law_195 kX9_clear nX9_clear lRL_94 h31 rfl hM1 rfl rfl (Nat.le_of_ble_eq_true rfl) (Nat.le_refl _) (Nat.le_refl _) ?_
  intro r G2 hr
  obtain ⟨rfl, B2, hW2, hB2⟩ := hr
  show WL X mL_law _ _ _ _ _ _ _ 198 [(4, .int (nI i)), (3, .ref (ad 33 0)), (2, .ref (ad 31 0)), (1, .ref (ad 0 0)), (0, .ref X.1)] [.int v, .int v]
  refine q_icmp_eq 1446 dL_law_198 (by decide) (fun _ => ?_) (fun c9 => absurd rfl c9)
  exact WL.loc [0, 1, 2, 3, 4] rfl (K.use hW2 hA1 hB2 hIs hP1 e0 e31 e33)
set_option maxRecDepth 100000 in
set_option maxHeartbeats 4000000 in
theorem la_word {X : SX} {b0 : Nat} {Po : Option Value → GH → Prop} {Px : String → GH → Prop} {bc bs i : Nat} {C : ST} {ad : AD} {G : GH} (hW : World C C ad G) (hI : Inv C) (hP : Pag C) (hi : i + 5 ≤ X.2.1) (hX : X.2.1 ≤ 2560) (K : LK X b0 Po Px bc bs i) : WL X mL_law 10 b0 Po Px G (bc + 20) (bs + 400) 203 [(4, .int (nI i)), (3, .ref (ad 33 0)), (2, .ref (ad 31 0)), (1, .ref (ad 0 0)), (0, .ref X.1)] [] := by
  obtain ⟨cd, v, st, h4, hIs, hQ, hL, hM⟩ := o_word (b0 := b0) hW hI hP
  refine q_aload_n dL_law_203 rfl 3 rfl ?_
  refine q_aload_n dL_law_204 rfl 1 rfl ?_
  refine q_callSW (st := []) [.ref (ad 0 0), .ref (ad 33 0)] bc bs dL_law_205 kL_word nL_word lRL_95 hL rfl rfl (Nat.le_of_ble_eq_true rfl) (Nat.le_refl _) (Nat.le_refl _) ?_
  intro r G1 hr
  obtain ⟨rfl, A1, B1, ad1, hW1, hk1, hP1, hA1, hB1, h40⟩ := hr
  have e0 : ad1 0 0 = ad 0 0 := hk1 0 0 rfl
  have e31 : ad1 31 0 = ad 31 0 := hk1 31 0 rfl
  have e33 : ad1 33 0 = ad 33 0 := hk1 33 0 rfl
  have h31 := hW1.g 31 0 rfl
  rw [e31] at h31
  have hM1 := hM A1 B1 ad1 G1 hW1 hB1 h40
  rw [e31] at hM1
  show WL X mL_law _ _ _ _ _ _ _ 208 [(4, .int (nI i)), (3, .ref (ad 33 0)), (2, .ref (ad 31 0)), (1, .ref (ad 0 0)), (0, .ref X.1)] [.int (nI cd)]
  refine q_istore [(5, .int (nI cd)), (4, .int (nI i)), (3, .ref (ad 33 0)), (2, .ref (ad 31 0)), (1, .ref (ad 0 0)), (0, .ref X.1)] dL_law_208 (by decide) rfl ?_
  refine q_aload_n dL_law_210 rfl 3 rfl ?_
  refine q_callV (st := []) [] bc bs dL_law_211 kX9_word nX9_word lRL_98 h31 rfl hM1 rfl rfl (Nat.le_of_ble_eq_true rfl) (Nat.le_refl _) (Nat.le_refl _) ?_
  intro r G2 hr
  obtain ⟨v2, rfl, B2, hW2, h26, hB2, h0⟩ := hr
  have h31b := hW2.g 31 0 rfl
  rw [e31] at h31b
  have h33 := hW2.g 33 0 rfl
  rw [e33] at h33
  show WL X mL_law _ _ _ _ _ _ _ 214 [(5, .int (nI cd)), (4, .int (nI i)), (3, .ref (ad 33 0)), (2, .ref (ad 31 0)), (1, .ref (ad 0 0)), (0, .ref X.1)] [.int v2]
  refine q_istore [(6, .int v2), (5, .int (nI cd)), (4, .int (nI i)), (3, .ref (ad 33 0)), (2, .ref (ad 31 0)), (1, .ref (ad 0 0)), (0, .ref X.1)] dL_law_214 (by decide) rfl ?_
  refine q_aload_n dL_law_216 rfl 4 rfl ?_
  have ht := c_X9_thrown (d := 9) (b0 := b0) hW2
  rw [e31, h26] at ht
  refine q_callV (st := []) [] bc bs dL_law_217 kX9_thrown nX9_thrown lRL_88 h31b rfl ht rfl rfl (Nat.le_of_ble_eq_true rfl) (Nat.le_refl _) (Nat.le_refl _) ?_
  refine ql_det (st2 := [.int (nI cd)]) rfl ?_
  refine q_iload dL_law_220 1 rfl ?_
  refine q_icmp_eq 227 dL_law_222 (by decide) (fun _ => ?_) (fun c9 => absurd rfl c9)
  refine q_iload dL_law_227 1 rfl ?_
  refine q_if_ne 244 dL_law_229 (by decide) (fun c_2 => ?_) (fun c_2 => ?_)
  · refine q_goto 1446 dL_law_244 (by decide) ?_
    exact WL.loc [2, 3, 4, 5, 6] rfl (K.use hW2 hA1 hB2 hIs hP1 e0 e31 e33)
  · have hcd : cd = 0 := ni_eq (b := 0) (by omega) (by decide) c_2
    have h40v : nI (B2 40 0) = v2 := by rw [(h0 hcd).2, n32_s, (h0 hcd).1]
    refine q_aload_n dL_law_232 rfl 3 rfl ?_
    refine q_iconst (v := 0) dL_law_233 (by decide) ?_
    refine q_lald dL_law_234 h33 (show vp_in (nI 0) 1 from vp_in_nI (by decide) (by decide)) ?_
    refine q_iload dL_law_235 0 rfl ?_
    refine q_i2l dL_law_237 ?_
    refine q_lcmp dL_law_238 ?_
    have hcmp : lg_cmp (nI (B2 40 0)).toInt64 v2.toInt64 = 0 := by rw [h40v]; exact cmp_self _
    refine q_if_eq 244 dL_law_239 (by decide) (fun _ => ?_) (fun c9 => absurd hcmp c9)
    refine q_goto 1446 dL_law_244 (by decide) ?_
    exact WL.loc [2, 3, 4, 5, 6] rfl (K.use hW2 hA1 hB2 hIs hP1 e0 e31 e33)
set_option maxRecDepth 100000 in
set_option maxHeartbeats 4000000 in
theorem la_form {X : SX} {b0 : Nat} {Po : Option Value → GH → Prop} {Px : String → GH → Prop} {bc bs i : Nat} {C : ST} {ad : AD} {G : GH} (hW : World C C ad G) (hI : Inv C) (hP : Pag C) (hi : i + 5 ≤ X.2.1) (hX : X.2.1 ≤ 2560) (K : LK X b0 Po Px bc bs i) : WL X mL_law 10 b0 Po Px G (bc + 20) (bs + 400) 247 [(4, .int (nI i)), (3, .ref (ad 33 0)), (2, .ref (ad 31 0)), (1, .ref (ad 0 0)), (0, .ref X.1)] [] := by
  obtain ⟨cd, v, st, h4, hIs, hQ, hL, hM⟩ := o_form (b0 := b0) hW hI hP (X.2.2 (i + 1)) (X.2.2 (i + 2)) (X.2.2 (i + 3))
  refine q_aload_n dL_law_247 rfl 3 rfl ?_
  refine q_aload_n dL_law_248 rfl 4 rfl ?_
  refine q_iload dL_law_249 0 rfl ?_
  refine q_iconst (v := 1) dL_law_251 (by decide) ?_
  refine q_iadd dL_law_252 ?_
  refine q_top (nI (i + 1)) (nI_add i 1) ?_
  refine q_sld dL_law_253 (vp_in_nI (by omega) (by omega)) ?_
  refine q_top (X.2.2 (i + 1)) (by rw [nI_cl (by omega)]) ?_
  refine q_aload_n dL_law_254 rfl 4 rfl ?_
  refine q_iload dL_law_255 0 rfl ?_
  refine q_iconst (v := 2) dL_law_257 (by decide) ?_
  refine q_iadd dL_law_258 ?_
  refine q_top (nI (i + 2)) (nI_add i 2) ?_
  refine q_sld dL_law_259 (vp_in_nI (by omega) (by omega)) ?_
  refine q_top (X.2.2 (i + 2)) (by rw [nI_cl (by omega)]) ?_
  refine q_aload_n dL_law_260 rfl 4 rfl ?_
  refine q_iload dL_law_261 0 rfl ?_
  refine q_iconst (v := 3) dL_law_263 (by decide) ?_
  refine q_iadd dL_law_264 ?_
  refine q_top (nI (i + 3)) (nI_add i 3) ?_
  refine q_sld dL_law_265 (vp_in_nI (by omega) (by omega)) ?_
  refine q_top (X.2.2 (i + 3)) (by rw [nI_cl (by omega)]) ?_
  refine q_aload_n dL_law_266 rfl 1 rfl ?_
  refine q_callSW (st := []) [.ref (ad 0 0), .int (X.2.2 (i + 1)), .int (X.2.2 (i + 2)), .int (X.2.2 (i + 3)), .ref (ad 33 0)] bc bs dL_law_267 kL_form nL_form lRL_99 hL rfl rfl (Nat.le_of_ble_eq_true rfl) (Nat.le_refl _) (Nat.le_refl _) ?_
  intro r G1 hr
  obtain ⟨rfl, A1, B1, ad1, hW1, hk1, hP1, hA1, hB1, h40⟩ := hr
  have e0 : ad1 0 0 = ad 0 0 := hk1 0 0 rfl
  have e31 : ad1 31 0 = ad 31 0 := hk1 31 0 rfl
  have e33 : ad1 33 0 = ad 33 0 := hk1 33 0 rfl
  have h31 := hW1.g 31 0 rfl
  rw [e31] at h31
  have hM1 := hM A1 B1 ad1 G1 hW1 hB1 h40
  rw [e31] at hM1
  show WL X mL_law _ _ _ _ _ _ _ 270 [(4, .int (nI i)), (3, .ref (ad 33 0)), (2, .ref (ad 31 0)), (1, .ref (ad 0 0)), (0, .ref X.1)] [.int (nI cd)]
  refine q_istore [(5, .int (nI cd)), (4, .int (nI i)), (3, .ref (ad 33 0)), (2, .ref (ad 31 0)), (1, .ref (ad 0 0)), (0, .ref X.1)] dL_law_270 (by decide) rfl ?_
  refine q_aload_n dL_law_272 rfl 3 rfl ?_
  refine q_aload_n dL_law_273 rfl 5 rfl ?_
  refine q_iload dL_law_274 1 rfl ?_
  refine q_iconst (v := 1) dL_law_276 (by decide) ?_
  refine q_iadd dL_law_277 ?_
  refine q_top (nI (i + 1)) (nI_add i 1) ?_
  refine q_sld dL_law_278 (vp_in_nI (by omega) (by omega)) ?_
  refine q_top (X.2.2 (i + 1)) (by rw [nI_cl (by omega)]) ?_
  refine q_aload_n dL_law_279 rfl 5 rfl ?_
  refine q_iload dL_law_280 1 rfl ?_
  refine q_iconst (v := 2) dL_law_282 (by decide) ?_
  refine q_iadd dL_law_283 ?_
  refine q_top (nI (i + 2)) (nI_add i 2) ?_
  refine q_sld dL_law_284 (vp_in_nI (by omega) (by omega)) ?_
  refine q_top (X.2.2 (i + 2)) (by rw [nI_cl (by omega)]) ?_
  refine q_aload_n dL_law_285 rfl 5 rfl ?_
  refine q_iload dL_law_286 1 rfl ?_
  refine q_iconst (v := 3) dL_law_288 (by decide) ?_
  refine q_iadd dL_law_289 ?_
  refine q_top (nI (i + 3)) (nI_add i 3) ?_
  refine q_sld dL_law_290 (vp_in_nI (by omega) (by omega)) ?_
  refine q_top (X.2.2 (i + 3)) (by rw [nI_cl (by omega)]) ?_
  refine q_callV (st := []) [.int (X.2.2 (i + 1)), .int (X.2.2 (i + 2)), .int (X.2.2 (i + 3))] bc bs dL_law_291 kX9_form nX9_form lRL_102 h31 rfl hM1 rfl rfl (Nat.le_of_ble_eq_true rfl) (Nat.le_refl _) (Nat.le_refl _) ?_
  intro r G2 hr
  obtain ⟨v2, rfl, B2, hW2, h26, hB2, h0⟩ := hr
  have h31b := hW2.g 31 0 rfl
  rw [e31] at h31b
  have h33 := hW2.g 33 0 rfl
  rw [e33] at h33
  show WL X mL_law _ _ _ _ _ _ _ 294 [(5, .int (nI cd)), (4, .int (nI i)), (3, .ref (ad 33 0)), (2, .ref (ad 31 0)), (1, .ref (ad 0 0)), (0, .ref X.1)] [.int v2]
  refine q_istore [(6, .int v2), (5, .int (nI cd)), (4, .int (nI i)), (3, .ref (ad 33 0)), (2, .ref (ad 31 0)), (1, .ref (ad 0 0)), (0, .ref X.1)] dL_law_294 (by decide) rfl ?_
  refine q_aload_n dL_law_296 rfl 4 rfl ?_
  have ht := c_X9_thrown (d := 9) (b0 := b0) hW2
  rw [e31, h26] at ht
  refine q_callV (st := []) [] bc bs dL_law_297 kX9_thrown nX9_thrown lRL_88 h31b rfl ht rfl rfl (Nat.le_of_ble_eq_true rfl) (Nat.le_refl _) (Nat.le_refl _) ?_
  refine ql_det (st2 := [.int (nI cd)]) rfl ?_
  refine q_iload dL_law_300 1 rfl ?_
  refine q_icmp_eq 307 dL_law_302 (by decide) (fun _ => ?_) (fun c9 => absurd rfl c9)
  refine q_iload dL_law_307 1 rfl ?_
  refine q_if_ne 324 dL_law_309 (by decide) (fun c_2 => ?_) (fun c_2 => ?_)
  · refine q_goto 1446 dL_law_324 (by decide) ?_
    exact WL.loc [2, 3, 4, 5, 6] rfl (K.use hW2 hA1 hB2 hIs hP1 e0 e31 e33)
  · have hcd : cd = 0 := ni_eq (b := 0) (by omega) (by decide) c_2
    have h40v : nI (B2 40 0) = v2 := by rw [(h0 hcd).2, n32_s, (h0 hcd).1]
    refine q_aload_n dL_law_312 rfl 3 rfl ?_
    refine q_iconst (v := 0) dL_law_313 (by decide) ?_
    refine q_lald dL_law_314 h33 (show vp_in (nI 0) 1 from vp_in_nI (by decide) (by decide)) ?_
    refine q_iload dL_law_315 0 rfl ?_
    refine q_i2l dL_law_317 ?_
    refine q_lcmp dL_law_318 ?_
    have hcmp : lg_cmp (nI (B2 40 0)).toInt64 v2.toInt64 = 0 := by rw [h40v]; exact cmp_self _
    refine q_if_eq 324 dL_law_319 (by decide) (fun _ => ?_) (fun c9 => absurd hcmp c9)
    refine q_goto 1446 dL_law_324 (by decide) ?_
    exact WL.loc [2, 3, 4, 5, 6] rfl (K.use hW2 hA1 hB2 hIs hP1 e0 e31 e33)
set_option maxRecDepth 100000 in
set_option maxHeartbeats 4000000 in
theorem la_clause {X : SX} {b0 : Nat} {Po : Option Value → GH → Prop} {Px : String → GH → Prop} {bc bs i : Nat} {C : ST} {ad : AD} {G : GH} (hW : World C C ad G) (hI : Inv C) (hP : Pag C) (hi : i + 5 ≤ X.2.1) (hX : X.2.1 ≤ 2560) (K : LK X b0 Po Px bc bs i) : WL X mL_law 10 b0 Po Px G (bc + 20) (bs + 400) 327 [(4, .int (nI i)), (3, .ref (ad 33 0)), (2, .ref (ad 31 0)), (1, .ref (ad 0 0)), (0, .ref X.1)] [] := by
  obtain ⟨cd, v, st, h4, hIs, hQ, hL, hM⟩ := o_clause (b0 := b0) hW hI hP (X.2.2 (i + 1))
  refine q_aload_n dL_law_327 rfl 3 rfl ?_
  refine q_aload_n dL_law_328 rfl 4 rfl ?_
  refine q_iload dL_law_329 0 rfl ?_
  refine q_iconst (v := 1) dL_law_331 (by decide) ?_
  refine q_iadd dL_law_332 ?_
  refine q_top (nI (i + 1)) (nI_add i 1) ?_
  refine q_sld dL_law_333 (vp_in_nI (by omega) (by omega)) ?_
  refine q_top (X.2.2 (i + 1)) (by rw [nI_cl (by omega)]) ?_
  refine q_aload_n dL_law_334 rfl 1 rfl ?_
  refine q_callSW (st := []) [.ref (ad 0 0), .int (X.2.2 (i + 1)), .ref (ad 33 0)] bc bs dL_law_335 kL_clause nL_clause lRL_103 hL rfl rfl (Nat.le_of_ble_eq_true rfl) (Nat.le_refl _) (Nat.le_refl _) ?_
  intro r G1 hr
  obtain ⟨rfl, A1, B1, ad1, hW1, hk1, hP1, hA1, hB1, h40⟩ := hr
  have e0 : ad1 0 0 = ad 0 0 := hk1 0 0 rfl
  have e31 : ad1 31 0 = ad 31 0 := hk1 31 0 rfl
  have e33 : ad1 33 0 = ad 33 0 := hk1 33 0 rfl
  have h31 := hW1.g 31 0 rfl
  rw [e31] at h31
  have hM1 := hM A1 B1 ad1 G1 hW1 hB1 h40
  rw [e31] at hM1
  show WL X mL_law _ _ _ _ _ _ _ 338 [(4, .int (nI i)), (3, .ref (ad 33 0)), (2, .ref (ad 31 0)), (1, .ref (ad 0 0)), (0, .ref X.1)] [.int (nI cd)]
  refine q_istore [(5, .int (nI cd)), (4, .int (nI i)), (3, .ref (ad 33 0)), (2, .ref (ad 31 0)), (1, .ref (ad 0 0)), (0, .ref X.1)] dL_law_338 (by decide) rfl ?_
  refine q_aload_n dL_law_340 rfl 3 rfl ?_
  refine q_aload_n dL_law_341 rfl 5 rfl ?_
  refine q_iload dL_law_342 1 rfl ?_
  refine q_iconst (v := 1) dL_law_344 (by decide) ?_
  refine q_iadd dL_law_345 ?_
  refine q_top (nI (i + 1)) (nI_add i 1) ?_
  refine q_sld dL_law_346 (vp_in_nI (by omega) (by omega)) ?_
  refine q_top (X.2.2 (i + 1)) (by rw [nI_cl (by omega)]) ?_
  refine q_callV (st := []) [.int (X.2.2 (i + 1))] bc bs dL_law_347 kX9_clause nX9_clause lRL_106 h31 rfl hM1 rfl rfl (Nat.le_of_ble_eq_true rfl) (Nat.le_refl _) (Nat.le_refl _) ?_
  intro r G2 hr
  obtain ⟨v2, rfl, B2, hW2, h26, hB2, h0⟩ := hr
  have h31b := hW2.g 31 0 rfl
  rw [e31] at h31b
  have h33 := hW2.g 33 0 rfl
  rw [e33] at h33
  show WL X mL_law _ _ _ _ _ _ _ 350 [(5, .int (nI cd)), (4, .int (nI i)), (3, .ref (ad 33 0)), (2, .ref (ad 31 0)), (1, .ref (ad 0 0)), (0, .ref X.1)] [.int v2]
  refine q_istore [(6, .int v2), (5, .int (nI cd)), (4, .int (nI i)), (3, .ref (ad 33 0)), (2, .ref (ad 31 0)), (1, .ref (ad 0 0)), (0, .ref X.1)] dL_law_350 (by decide) rfl ?_
  refine q_aload_n dL_law_352 rfl 4 rfl ?_
  have ht := c_X9_thrown (d := 9) (b0 := b0) hW2
  rw [e31, h26] at ht
  refine q_callV (st := []) [] bc bs dL_law_353 kX9_thrown nX9_thrown lRL_88 h31b rfl ht rfl rfl (Nat.le_of_ble_eq_true rfl) (Nat.le_refl _) (Nat.le_refl _) ?_
  refine ql_det (st2 := [.int (nI cd)]) rfl ?_
  refine q_iload dL_law_356 1 rfl ?_
  refine q_icmp_eq 363 dL_law_358 (by decide) (fun _ => ?_) (fun c9 => absurd rfl c9)
  refine q_iload dL_law_363 1 rfl ?_
  refine q_if_ne 380 dL_law_365 (by decide) (fun c_2 => ?_) (fun c_2 => ?_)
  · refine q_goto 1446 dL_law_380 (by decide) ?_
    exact WL.loc [2, 3, 4, 5, 6] rfl (K.use hW2 hA1 hB2 hIs hP1 e0 e31 e33)
  · have hcd : cd = 0 := ni_eq (b := 0) (by omega) (by decide) c_2
    have h40v : nI (B2 40 0) = v2 := by rw [(h0 hcd).2, n32_s, (h0 hcd).1]
    refine q_aload_n dL_law_368 rfl 3 rfl ?_
    refine q_iconst (v := 0) dL_law_369 (by decide) ?_
    refine q_lald dL_law_370 h33 (show vp_in (nI 0) 1 from vp_in_nI (by decide) (by decide)) ?_
    refine q_iload dL_law_371 0 rfl ?_
    refine q_i2l dL_law_373 ?_
    refine q_lcmp dL_law_374 ?_
    have hcmp : lg_cmp (nI (B2 40 0)).toInt64 v2.toInt64 = 0 := by rw [h40v]; exact cmp_self _
    refine q_if_eq 380 dL_law_375 (by decide) (fun _ => ?_) (fun c9 => absurd hcmp c9)
    refine q_goto 1446 dL_law_380 (by decide) ?_
    exact WL.loc [2, 3, 4, 5, 6] rfl (K.use hW2 hA1 hB2 hIs hP1 e0 e31 e33)
set_option maxRecDepth 100000 in
set_option maxHeartbeats 4000000 in
theorem la_text {X : SX} {b0 : Nat} {Po : Option Value → GH → Prop} {Px : String → GH → Prop} {bc bs i : Nat} {C : ST} {ad : AD} {G : GH} (hW : World C C ad G) (hI : Inv C) (hP : Pag C) (hi : i + 5 ≤ X.2.1) (hX : X.2.1 ≤ 2560) (K : LK X b0 Po Px bc bs i) : WL X mL_law 10 b0 Po Px G (bc + 20) (bs + 400) 383 [(4, .int (nI i)), (3, .ref (ad 33 0)), (2, .ref (ad 31 0)), (1, .ref (ad 0 0)), (0, .ref X.1)] [] := by
  obtain ⟨cd, v, st, h4, hIs, hQ, hL, hM⟩ := o_text (b0 := b0) hW hI hP (X.2.2 (i + 1)) (X.2.2 (i + 2))
  refine q_aload_n dL_law_383 rfl 3 rfl ?_
  refine q_aload_n dL_law_384 rfl 4 rfl ?_
  refine q_iload dL_law_385 0 rfl ?_
  refine q_iconst (v := 1) dL_law_387 (by decide) ?_
  refine q_iadd dL_law_388 ?_
  refine q_top (nI (i + 1)) (nI_add i 1) ?_
  refine q_sld dL_law_389 (vp_in_nI (by omega) (by omega)) ?_
  refine q_top (X.2.2 (i + 1)) (by rw [nI_cl (by omega)]) ?_
  refine q_aload_n dL_law_390 rfl 4 rfl ?_
  refine q_iload dL_law_391 0 rfl ?_
  refine q_iconst (v := 2) dL_law_393 (by decide) ?_
  refine q_iadd dL_law_394 ?_
  refine q_top (nI (i + 2)) (nI_add i 2) ?_
  refine q_sld dL_law_395 (vp_in_nI (by omega) (by omega)) ?_
  refine q_top (X.2.2 (i + 2)) (by rw [nI_cl (by omega)]) ?_
  refine q_aload_n dL_law_396 rfl 1 rfl ?_
  refine q_callSW (st := []) [.ref (ad 0 0), .int (X.2.2 (i + 1)), .int (X.2.2 (i + 2)), .ref (ad 33 0)] bc bs dL_law_397 kL_text nL_text lRL_107 hL rfl rfl (Nat.le_of_ble_eq_true rfl) (Nat.le_refl _) (Nat.le_refl _) ?_
  intro r G1 hr
  obtain ⟨rfl, A1, B1, ad1, hW1, hk1, hP1, hA1, hB1, h40⟩ := hr
  have e0 : ad1 0 0 = ad 0 0 := hk1 0 0 rfl
  have e31 : ad1 31 0 = ad 31 0 := hk1 31 0 rfl
  have e33 : ad1 33 0 = ad 33 0 := hk1 33 0 rfl
  have h31 := hW1.g 31 0 rfl
  rw [e31] at h31
  have hM1 := hM A1 B1 ad1 G1 hW1 hB1 h40
  rw [e31] at hM1
  show WL X mL_law _ _ _ _ _ _ _ 400 [(4, .int (nI i)), (3, .ref (ad 33 0)), (2, .ref (ad 31 0)), (1, .ref (ad 0 0)), (0, .ref X.1)] [.int (nI cd)]
  refine q_istore [(5, .int (nI cd)), (4, .int (nI i)), (3, .ref (ad 33 0)), (2, .ref (ad 31 0)), (1, .ref (ad 0 0)), (0, .ref X.1)] dL_law_400 (by decide) rfl ?_
  refine q_aload_n dL_law_402 rfl 3 rfl ?_
  refine q_aload_n dL_law_403 rfl 5 rfl ?_
  refine q_iload dL_law_404 1 rfl ?_
  refine q_iconst (v := 1) dL_law_406 (by decide) ?_
  refine q_iadd dL_law_407 ?_
  refine q_top (nI (i + 1)) (nI_add i 1) ?_
  refine q_sld dL_law_408 (vp_in_nI (by omega) (by omega)) ?_
  refine q_top (X.2.2 (i + 1)) (by rw [nI_cl (by omega)]) ?_
  refine q_aload_n dL_law_409 rfl 5 rfl ?_
  refine q_iload dL_law_410 1 rfl ?_
  refine q_iconst (v := 2) dL_law_412 (by decide) ?_
  refine q_iadd dL_law_413 ?_
  refine q_top (nI (i + 2)) (nI_add i 2) ?_
  refine q_sld dL_law_414 (vp_in_nI (by omega) (by omega)) ?_
  refine q_top (X.2.2 (i + 2)) (by rw [nI_cl (by omega)]) ?_
  refine q_callV (st := []) [.int (X.2.2 (i + 1)), .int (X.2.2 (i + 2))] bc bs dL_law_415 kX9_text nX9_text lRL_110 h31 rfl hM1 rfl rfl (Nat.le_of_ble_eq_true rfl) (Nat.le_refl _) (Nat.le_refl _) ?_
  intro r G2 hr
  obtain ⟨v2, rfl, B2, hW2, h26, hB2, h0⟩ := hr
  have h31b := hW2.g 31 0 rfl
  rw [e31] at h31b
  have h33 := hW2.g 33 0 rfl
  rw [e33] at h33
  show WL X mL_law _ _ _ _ _ _ _ 418 [(5, .int (nI cd)), (4, .int (nI i)), (3, .ref (ad 33 0)), (2, .ref (ad 31 0)), (1, .ref (ad 0 0)), (0, .ref X.1)] [.int v2]
  refine q_istore [(6, .int v2), (5, .int (nI cd)), (4, .int (nI i)), (3, .ref (ad 33 0)), (2, .ref (ad 31 0)), (1, .ref (ad 0 0)), (0, .ref X.1)] dL_law_418 (by decide) rfl ?_
  refine q_aload_n dL_law_420 rfl 4 rfl ?_
  have ht := c_X9_thrown (d := 9) (b0 := b0) hW2
  rw [e31, h26] at ht
  refine q_callV (st := []) [] bc bs dL_law_421 kX9_thrown nX9_thrown lRL_88 h31b rfl ht rfl rfl (Nat.le_of_ble_eq_true rfl) (Nat.le_refl _) (Nat.le_refl _) ?_
  refine ql_det (st2 := [.int (nI cd)]) rfl ?_
  refine q_iload dL_law_424 1 rfl ?_
  refine q_icmp_eq 431 dL_law_426 (by decide) (fun _ => ?_) (fun c9 => absurd rfl c9)
  refine q_iload dL_law_431 1 rfl ?_
  refine q_if_ne 448 dL_law_433 (by decide) (fun c_2 => ?_) (fun c_2 => ?_)
  · refine q_goto 1446 dL_law_448 (by decide) ?_
    exact WL.loc [2, 3, 4, 5, 6] rfl (K.use hW2 hA1 hB2 hIs hP1 e0 e31 e33)
  · have hcd : cd = 0 := ni_eq (b := 0) (by omega) (by decide) c_2
    have h40v : nI (B2 40 0) = v2 := by rw [(h0 hcd).2, n32_s, (h0 hcd).1]
    refine q_aload_n dL_law_436 rfl 3 rfl ?_
    refine q_iconst (v := 0) dL_law_437 (by decide) ?_
    refine q_lald dL_law_438 h33 (show vp_in (nI 0) 1 from vp_in_nI (by decide) (by decide)) ?_
    refine q_iload dL_law_439 0 rfl ?_
    refine q_i2l dL_law_441 ?_
    refine q_lcmp dL_law_442 ?_
    have hcmp : lg_cmp (nI (B2 40 0)).toInt64 v2.toInt64 = 0 := by rw [h40v]; exact cmp_self _
    refine q_if_eq 448 dL_law_443 (by decide) (fun _ => ?_) (fun c9 => absurd hcmp c9)
    refine q_goto 1446 dL_law_448 (by decide) ?_
    exact WL.loc [2, 3, 4, 5, 6] rfl (K.use hW2 hA1 hB2 hIs hP1 e0 e31 e33)
set_option maxRecDepth 100000 in
set_option maxHeartbeats 4000000 in
theorem la_fault {X : SX} {b0 : Nat} {Po : Option Value → GH → Prop} {Px : String → GH → Prop} {bc bs i : Nat} {C : ST} {ad : AD} {G : GH} (hW : World C C ad G) (hI : Inv C) (hP : Pag C) (hi : i + 5 ≤ X.2.1) (hX : X.2.1 ≤ 2560) (K : LK X b0 Po Px bc bs i) : WL X mL_law 10 b0 Po Px G (bc + 20) (bs + 400) 451 [(4, .int (nI i)), (3, .ref (ad 33 0)), (2, .ref (ad 31 0)), (1, .ref (ad 0 0)), (0, .ref X.1)] [] := by
  obtain ⟨v, st, hIs, hL, hM⟩ := o_fault (b0 := b0) hW hI hP
  refine q_aload_n dL_law_451 rfl 3 rfl ?_
  refine q_callV (st := []) [] bc bs dL_law_452 kX8_fault nX8_fault lRL_111 (hW.g 0 0 rfl) rfl hL rfl rfl (Nat.le_of_ble_eq_true rfl) (Nat.le_refl _) (Nat.le_refl _) ?_
  intro r G1 hr
  obtain ⟨rfl, A1, ad1, hW1, hk1, hP1, hA1⟩ := hr
  have e0 : ad1 0 0 = ad 0 0 := hk1 0 0 rfl
  have e31 : ad1 31 0 = ad 31 0 := hk1 31 0 rfl
  have e33 : ad1 33 0 = ad 33 0 := hk1 33 0 rfl
  have h31 := hW1.g 31 0 rfl
  rw [e31] at h31
  have hM1 := hM A1 C ad1 G1 hW1 (fun _ _ => rfl)
  rw [e31] at hM1
  show WL X mL_law _ _ _ _ _ _ _ 455 [(4, .int (nI i)), (3, .ref (ad 33 0)), (2, .ref (ad 31 0)), (1, .ref (ad 0 0)), (0, .ref X.1)] [.int v]
  refine q_aload_n dL_law_455 rfl 2 rfl ?_
  refine q_callV (st := [.int v]) [] bc bs dL_law_456 kX9_fault nX9_fault lRL_114 h31 rfl hM1 rfl rfl (Nat.le_of_ble_eq_true rfl) (Nat.le_refl _) (Nat.le_refl _) ?_
  intro r G2 hr
  obtain ⟨rfl, B2, hW2, hB2⟩ := hr
  show WL X mL_law _ _ _ _ _ _ _ 459 [(4, .int (nI i)), (3, .ref (ad 33 0)), (2, .ref (ad 31 0)), (1, .ref (ad 0 0)), (0, .ref X.1)] [.int v, .int v]
  refine q_icmp_eq 1446 dL_law_459 (by decide) (fun _ => ?_) (fun c9 => absurd rfl c9)
  exact WL.loc [0, 1, 2, 3, 4] rfl (K.use hW2 hA1 hB2 hIs hP1 e0 e31 e33)
set_option maxRecDepth 100000 in
set_option maxHeartbeats 4000000 in
theorem la_approve {X : SX} {b0 : Nat} {Po : Option Value → GH → Prop} {Px : String → GH → Prop} {bc bs i : Nat} {C : ST} {ad : AD} {G : GH} (hW : World C C ad G) (hI : Inv C) (hP : Pag C) (hi : i + 5 ≤ X.2.1) (hX : X.2.1 ≤ 2560) (K : LK X b0 Po Px bc bs i) : WL X mL_law 10 b0 Po Px G (bc + 20) (bs + 400) 464 [(4, .int (nI i)), (3, .ref (ad 33 0)), (2, .ref (ad 31 0)), (1, .ref (ad 0 0)), (0, .ref X.1)] [] := by
  obtain ⟨cd, v, st, h4, hIs, hQ, hL, hM⟩ := o_approve (b0 := b0) hW hI hP (X.2.2 (i + 1)) (X.2.2 (i + 2))
  refine q_aload_n dL_law_464 rfl 3 rfl ?_
  refine q_aload_n dL_law_465 rfl 4 rfl ?_
  refine q_iload dL_law_466 0 rfl ?_
  refine q_iconst (v := 1) dL_law_468 (by decide) ?_
  refine q_iadd dL_law_469 ?_
  refine q_top (nI (i + 1)) (nI_add i 1) ?_
  refine q_sld dL_law_470 (vp_in_nI (by omega) (by omega)) ?_
  refine q_top (X.2.2 (i + 1)) (by rw [nI_cl (by omega)]) ?_
  refine q_aload_n dL_law_471 rfl 4 rfl ?_
  refine q_iload dL_law_472 0 rfl ?_
  refine q_iconst (v := 2) dL_law_474 (by decide) ?_
  refine q_iadd dL_law_475 ?_
  refine q_top (nI (i + 2)) (nI_add i 2) ?_
  refine q_sld dL_law_476 (vp_in_nI (by omega) (by omega)) ?_
  refine q_top (X.2.2 (i + 2)) (by rw [nI_cl (by omega)]) ?_
  refine q_aload_n dL_law_477 rfl 1 rfl ?_
  refine q_callSW (st := []) [.ref (ad 0 0), .int (X.2.2 (i + 1)), .int (X.2.2 (i + 2)), .ref (ad 33 0)] bc bs dL_law_478 kL_approve nL_approve lRL_115 hL rfl rfl (Nat.le_of_ble_eq_true rfl) (Nat.le_refl _) (Nat.le_refl _) ?_
  intro r G1 hr
  obtain ⟨rfl, A1, B1, ad1, hW1, hk1, hP1, hA1, hB1, h40⟩ := hr
  have e0 : ad1 0 0 = ad 0 0 := hk1 0 0 rfl
  have e31 : ad1 31 0 = ad 31 0 := hk1 31 0 rfl
  have e33 : ad1 33 0 = ad 33 0 := hk1 33 0 rfl
  have h31 := hW1.g 31 0 rfl
  rw [e31] at h31
  have hM1 := hM A1 B1 ad1 G1 hW1 hB1 h40
  rw [e31] at hM1
  show WL X mL_law _ _ _ _ _ _ _ 481 [(4, .int (nI i)), (3, .ref (ad 33 0)), (2, .ref (ad 31 0)), (1, .ref (ad 0 0)), (0, .ref X.1)] [.int (nI cd)]
  refine q_istore [(5, .int (nI cd)), (4, .int (nI i)), (3, .ref (ad 33 0)), (2, .ref (ad 31 0)), (1, .ref (ad 0 0)), (0, .ref X.1)] dL_law_481 (by decide) rfl ?_
  refine q_aload_n dL_law_483 rfl 3 rfl ?_
  refine q_aload_n dL_law_484 rfl 5 rfl ?_
  refine q_iload dL_law_485 1 rfl ?_
  refine q_iconst (v := 1) dL_law_487 (by decide) ?_
  refine q_iadd dL_law_488 ?_
  refine q_top (nI (i + 1)) (nI_add i 1) ?_
  refine q_sld dL_law_489 (vp_in_nI (by omega) (by omega)) ?_
  refine q_top (X.2.2 (i + 1)) (by rw [nI_cl (by omega)]) ?_
  refine q_aload_n dL_law_490 rfl 5 rfl ?_
  refine q_iload dL_law_491 1 rfl ?_
  refine q_iconst (v := 2) dL_law_493 (by decide) ?_
  refine q_iadd dL_law_494 ?_
  refine q_top (nI (i + 2)) (nI_add i 2) ?_
  refine q_sld dL_law_495 (vp_in_nI (by omega) (by omega)) ?_
  refine q_top (X.2.2 (i + 2)) (by rw [nI_cl (by omega)]) ?_
  refine q_callV (st := []) [.int (X.2.2 (i + 1)), .int (X.2.2 (i + 2))] bc bs dL_law_496 kX9_approve nX9_approve lRL_117 h31 rfl hM1 rfl rfl (Nat.le_of_ble_eq_true rfl) (Nat.le_refl _) (Nat.le_refl _) ?_
  intro r G2 hr
  obtain ⟨v2, rfl, B2, hW2, h26, hB2, h0⟩ := hr
  have h31b := hW2.g 31 0 rfl
  rw [e31] at h31b
  have h33 := hW2.g 33 0 rfl
  rw [e33] at h33
  show WL X mL_law _ _ _ _ _ _ _ 499 [(5, .int (nI cd)), (4, .int (nI i)), (3, .ref (ad 33 0)), (2, .ref (ad 31 0)), (1, .ref (ad 0 0)), (0, .ref X.1)] [.int v2]
  refine q_istore [(6, .int v2), (5, .int (nI cd)), (4, .int (nI i)), (3, .ref (ad 33 0)), (2, .ref (ad 31 0)), (1, .ref (ad 0 0)), (0, .ref X.1)] dL_law_499 (by decide) rfl ?_
  refine q_aload_n dL_law_501 rfl 4 rfl ?_
  have ht := c_X9_thrown (d := 9) (b0 := b0) hW2
  rw [e31, h26] at ht
  refine q_callV (st := []) [] bc bs dL_law_502 kX9_thrown nX9_thrown lRL_88 h31b rfl ht rfl rfl (Nat.le_of_ble_eq_true rfl) (Nat.le_refl _) (Nat.le_refl _) ?_
  refine ql_det (st2 := [.int (nI cd)]) rfl ?_
  refine q_iload dL_law_505 1 rfl ?_
  refine q_icmp_eq 512 dL_law_507 (by decide) (fun _ => ?_) (fun c9 => absurd rfl c9)
  refine q_iload dL_law_512 1 rfl ?_
  refine q_if_ne 536 dL_law_514 (by decide) (fun c_2 => ?_) (fun c_2 => ?_)
  · refine q_goto 1446 dL_law_536 (by decide) ?_
    exact WL.loc [2, 3, 4, 5, 6] rfl (K.use hW2 hA1 hB2 hIs hP1 e0 e31 e33)
  · have hcd : cd = 0 := ni_eq (b := 0) (by omega) (by decide) c_2
    have h40v : nI (B2 40 0) = v2 := by rw [(h0 hcd).2, n32_s, (h0 hcd).1]
    refine q_aload_n dL_law_517 rfl 3 rfl ?_
    refine q_iconst (v := 0) dL_law_518 (by decide) ?_
    refine q_lald dL_law_519 h33 (show vp_in (nI 0) 1 from vp_in_nI (by decide) (by decide)) ?_
    refine q_iload dL_law_520 0 rfl ?_
    refine q_if_eq 529 dL_law_522 (by decide) (fun c_3 => ?_) (fun c_3 => ?_)
    · refine q_lconst (v := 0) dL_law_529 (by decide) ?_
      refine q_lcmp dL_law_530 ?_
      have hcmp : lg_cmp (nI (B2 40 0)).toInt64 0 = 0 := by rw [h40v, c_3]; decide +kernel
      refine q_if_eq 536 dL_law_531 (by decide) (fun _ => ?_) (fun c9 => absurd hcmp c9)
      refine q_goto 1446 dL_law_536 (by decide) ?_
      exact WL.loc [2, 3, 4, 5, 6] rfl (K.use hW2 hA1 hB2 hIs hP1 e0 e31 e33)
    · refine q_lconst (v := 1) dL_law_525 (by decide) ?_
      refine q_goto 530 dL_law_526 (by decide) ?_
      refine q_lcmp dL_law_530 ?_
      have hv1 : v2 = 1 := by
        rw [(h0 hcd).1]
        rcases hQ hcd with q | q
        · exact absurd ((h0 hcd).1.trans q) c_3
        · exact q
      have hcmp : lg_cmp (nI (B2 40 0)).toInt64 1 = 0 := by rw [h40v, hv1]; decide +kernel
      refine q_if_eq 536 dL_law_531 (by decide) (fun _ => ?_) (fun c9 => absurd hcmp c9)
      refine q_goto 1446 dL_law_536 (by decide) ?_
      exact WL.loc [2, 3, 4, 5, 6] rfl (K.use hW2 hA1 hB2 hIs hP1 e0 e31 e33)
set_option maxRecDepth 100000 in
set_option maxHeartbeats 4000000 in
theorem la_relate {X : SX} {b0 : Nat} {Po : Option Value → GH → Prop} {Px : String → GH → Prop} {bc bs i : Nat} {C : ST} {ad : AD} {G : GH} (hW : World C C ad G) (hI : Inv C) (hP : Pag C) (hi : i + 5 ≤ X.2.1) (hX : X.2.1 ≤ 2560) (K : LK X b0 Po Px bc bs i) : WL X mL_law 10 b0 Po Px G (bc + 20) (bs + 400) 539 [(4, .int (nI i)), (3, .ref (ad 33 0)), (2, .ref (ad 31 0)), (1, .ref (ad 0 0)), (0, .ref X.1)] [] := by
  obtain ⟨cd, v, st, h4, hIs, hQ, hL, hM⟩ := o_relate (b0 := b0) hW hI hP (X.2.2 (i + 1)) (X.2.2 (i + 2)) (X.2.2 (i + 3)) (X.2.2 (i + 4))
  refine q_aload_n dL_law_539 rfl 3 rfl ?_
  refine q_aload_n dL_law_540 rfl 4 rfl ?_
  refine q_iload dL_law_541 0 rfl ?_
  refine q_iconst (v := 1) dL_law_543 (by decide) ?_
  refine q_iadd dL_law_544 ?_
  refine q_top (nI (i + 1)) (nI_add i 1) ?_
  refine q_sld dL_law_545 (vp_in_nI (by omega) (by omega)) ?_
  refine q_top (X.2.2 (i + 1)) (by rw [nI_cl (by omega)]) ?_
  refine q_aload_n dL_law_546 rfl 4 rfl ?_
  refine q_iload dL_law_547 0 rfl ?_
  refine q_iconst (v := 2) dL_law_549 (by decide) ?_
  refine q_iadd dL_law_550 ?_
  refine q_top (nI (i + 2)) (nI_add i 2) ?_
  refine q_sld dL_law_551 (vp_in_nI (by omega) (by omega)) ?_
  refine q_top (X.2.2 (i + 2)) (by rw [nI_cl (by omega)]) ?_
  refine q_aload_n dL_law_552 rfl 4 rfl ?_
  refine q_iload dL_law_553 0 rfl ?_
  refine q_iconst (v := 3) dL_law_555 (by decide) ?_
  refine q_iadd dL_law_556 ?_
  refine q_top (nI (i + 3)) (nI_add i 3) ?_
  refine q_sld dL_law_557 (vp_in_nI (by omega) (by omega)) ?_
  refine q_top (X.2.2 (i + 3)) (by rw [nI_cl (by omega)]) ?_
  refine q_aload_n dL_law_558 rfl 4 rfl ?_
  refine q_iload dL_law_559 0 rfl ?_
  refine q_iconst (v := 4) dL_law_561 (by decide) ?_
  refine q_iadd dL_law_562 ?_
  refine q_top (nI (i + 4)) (nI_add i 4) ?_
  refine q_sld dL_law_563 (vp_in_nI (by omega) (by omega)) ?_
  refine q_top (X.2.2 (i + 4)) (by rw [nI_cl (by omega)]) ?_
  refine q_aload_n dL_law_564 rfl 1 rfl ?_
  refine q_callSW (st := []) [.ref (ad 0 0), .int (X.2.2 (i + 1)), .int (X.2.2 (i + 2)), .int (X.2.2 (i + 3)), .int (X.2.2 (i + 4)), .ref (ad 33 0)] bc bs dL_law_565 kL_relate nL_relate lRL_118 hL rfl rfl (Nat.le_of_ble_eq_true rfl) (Nat.le_refl _) (Nat.le_refl _) ?_
  intro r G1 hr
  obtain ⟨rfl, A1, B1, ad1, hW1, hk1, hP1, hA1, hB1, h40⟩ := hr
  have e0 : ad1 0 0 = ad 0 0 := hk1 0 0 rfl
  have e31 : ad1 31 0 = ad 31 0 := hk1 31 0 rfl
  have e33 : ad1 33 0 = ad 33 0 := hk1 33 0 rfl
  have h31 := hW1.g 31 0 rfl
  rw [e31] at h31
  have hM1 := hM A1 B1 ad1 G1 hW1 hB1 h40
  rw [e31] at hM1
  show WL X mL_law _ _ _ _ _ _ _ 568 [(4, .int (nI i)), (3, .ref (ad 33 0)), (2, .ref (ad 31 0)), (1, .ref (ad 0 0)), (0, .ref X.1)] [.int (nI cd)]
  refine q_istore [(5, .int (nI cd)), (4, .int (nI i)), (3, .ref (ad 33 0)), (2, .ref (ad 31 0)), (1, .ref (ad 0 0)), (0, .ref X.1)] dL_law_568 (by decide) rfl ?_
  refine q_aload_n dL_law_570 rfl 3 rfl ?_
  refine q_aload_n dL_law_571 rfl 5 rfl ?_
  refine q_iload dL_law_572 1 rfl ?_
  refine q_iconst (v := 1) dL_law_574 (by decide) ?_
  refine q_iadd dL_law_575 ?_
  refine q_top (nI (i + 1)) (nI_add i 1) ?_
  refine q_sld dL_law_576 (vp_in_nI (by omega) (by omega)) ?_
  refine q_top (X.2.2 (i + 1)) (by rw [nI_cl (by omega)]) ?_
  refine q_aload_n dL_law_577 rfl 5 rfl ?_
  refine q_iload dL_law_578 1 rfl ?_
  refine q_iconst (v := 2) dL_law_580 (by decide) ?_
  refine q_iadd dL_law_581 ?_
  refine q_top (nI (i + 2)) (nI_add i 2) ?_
  refine q_sld dL_law_582 (vp_in_nI (by omega) (by omega)) ?_
  refine q_top (X.2.2 (i + 2)) (by rw [nI_cl (by omega)]) ?_
  refine q_aload_n dL_law_583 rfl 5 rfl ?_
  refine q_iload dL_law_584 1 rfl ?_
  refine q_iconst (v := 3) dL_law_586 (by decide) ?_
  refine q_iadd dL_law_587 ?_
  refine q_top (nI (i + 3)) (nI_add i 3) ?_
  refine q_sld dL_law_588 (vp_in_nI (by omega) (by omega)) ?_
  refine q_top (X.2.2 (i + 3)) (by rw [nI_cl (by omega)]) ?_
  refine q_aload_n dL_law_589 rfl 5 rfl ?_
  refine q_iload dL_law_590 1 rfl ?_
  refine q_iconst (v := 4) dL_law_592 (by decide) ?_
  refine q_iadd dL_law_593 ?_
  refine q_top (nI (i + 4)) (nI_add i 4) ?_
  refine q_sld dL_law_594 (vp_in_nI (by omega) (by omega)) ?_
  refine q_top (X.2.2 (i + 4)) (by rw [nI_cl (by omega)]) ?_
  refine q_callV (st := []) [.int (X.2.2 (i + 1)), .int (X.2.2 (i + 2)), .int (X.2.2 (i + 3)), .int (X.2.2 (i + 4))] bc bs dL_law_595 kX9_relate nX9_relate lRL_121 h31 rfl hM1 rfl rfl (Nat.le_of_ble_eq_true rfl) (Nat.le_refl _) (Nat.le_refl _) ?_
  intro r G2 hr
  obtain ⟨v2, rfl, B2, hW2, h26, hB2, h0⟩ := hr
  have h31b := hW2.g 31 0 rfl
  rw [e31] at h31b
  have h33 := hW2.g 33 0 rfl
  rw [e33] at h33
  show WL X mL_law _ _ _ _ _ _ _ 598 [(5, .int (nI cd)), (4, .int (nI i)), (3, .ref (ad 33 0)), (2, .ref (ad 31 0)), (1, .ref (ad 0 0)), (0, .ref X.1)] [.int v2]
  refine q_istore [(6, .int v2), (5, .int (nI cd)), (4, .int (nI i)), (3, .ref (ad 33 0)), (2, .ref (ad 31 0)), (1, .ref (ad 0 0)), (0, .ref X.1)] dL_law_598 (by decide) rfl ?_
  refine q_aload_n dL_law_600 rfl 4 rfl ?_
  have ht := c_X9_thrown (d := 9) (b0 := b0) hW2
  rw [e31, h26] at ht
  refine q_callV (st := []) [] bc bs dL_law_601 kX9_thrown nX9_thrown lRL_88 h31b rfl ht rfl rfl (Nat.le_of_ble_eq_true rfl) (Nat.le_refl _) (Nat.le_refl _) ?_
  refine ql_det (st2 := [.int (nI cd)]) rfl ?_
  refine q_iload dL_law_604 1 rfl ?_
  refine q_icmp_eq 611 dL_law_606 (by decide) (fun _ => ?_) (fun c9 => absurd rfl c9)
  refine q_iload dL_law_611 1 rfl ?_
  refine q_if_ne 628 dL_law_613 (by decide) (fun c_2 => ?_) (fun c_2 => ?_)
  · refine q_goto 1446 dL_law_628 (by decide) ?_
    exact WL.loc [2, 3, 4, 5, 6] rfl (K.use hW2 hA1 hB2 hIs hP1 e0 e31 e33)
  · have hcd : cd = 0 := ni_eq (b := 0) (by omega) (by decide) c_2
    have h40v : nI (B2 40 0) = v2 := by rw [(h0 hcd).2, n32_s, (h0 hcd).1]
    refine q_aload_n dL_law_616 rfl 3 rfl ?_
    refine q_iconst (v := 0) dL_law_617 (by decide) ?_
    refine q_lald dL_law_618 h33 (show vp_in (nI 0) 1 from vp_in_nI (by decide) (by decide)) ?_
    refine q_iload dL_law_619 0 rfl ?_
    refine q_i2l dL_law_621 ?_
    refine q_lcmp dL_law_622 ?_
    have hcmp : lg_cmp (nI (B2 40 0)).toInt64 v2.toInt64 = 0 := by rw [h40v]; exact cmp_self _
    refine q_if_eq 628 dL_law_623 (by decide) (fun _ => ?_) (fun c9 => absurd hcmp c9)
    refine q_goto 1446 dL_law_628 (by decide) ?_
    exact WL.loc [2, 3, 4, 5, 6] rfl (K.use hW2 hA1 hB2 hIs hP1 e0 e31 e33)
set_option maxRecDepth 100000 in
set_option maxHeartbeats 4000000 in
theorem la_isLinked {X : SX} {b0 : Nat} {Po : Option Value → GH → Prop} {Px : String → GH → Prop} {bc bs i : Nat} {C : ST} {ad : AD} {G : GH} (hW : World C C ad G) (hI : Inv C) (hP : Pag C) (hi : i + 5 ≤ X.2.1) (hX : X.2.1 ≤ 2560) (K : LK X b0 Po Px bc bs i) : WL X mL_law 10 b0 Po Px G (bc + 20) (bs + 400) 631 [(4, .int (nI i)), (3, .ref (ad 33 0)), (2, .ref (ad 31 0)), (1, .ref (ad 0 0)), (0, .ref X.1)] [] := by
  obtain ⟨cd, v, st, h4, hIs, hQ, hL, hM⟩ := o_isLinked (b0 := b0) hW hI hP (X.2.2 (i + 1))
  refine q_aload_n dL_law_631 rfl 3 rfl ?_
  refine q_aload_n dL_law_632 rfl 4 rfl ?_
  refine q_iload dL_law_633 0 rfl ?_
  refine q_iconst (v := 1) dL_law_635 (by decide) ?_
  refine q_iadd dL_law_636 ?_
  refine q_top (nI (i + 1)) (nI_add i 1) ?_
  refine q_sld dL_law_637 (vp_in_nI (by omega) (by omega)) ?_
  refine q_top (X.2.2 (i + 1)) (by rw [nI_cl (by omega)]) ?_
  refine q_aload_n dL_law_638 rfl 1 rfl ?_
  refine q_callSW (st := []) [.ref (ad 0 0), .int (X.2.2 (i + 1)), .ref (ad 33 0)] bc bs dL_law_639 kL_isLinked nL_isLinked lRL_122 hL rfl rfl (Nat.le_of_ble_eq_true rfl) (Nat.le_refl _) (Nat.le_refl _) ?_
  intro r G1 hr
  obtain ⟨rfl, A1, B1, ad1, hW1, hk1, hP1, hA1, hB1, h40⟩ := hr
  have e0 : ad1 0 0 = ad 0 0 := hk1 0 0 rfl
  have e31 : ad1 31 0 = ad 31 0 := hk1 31 0 rfl
  have e33 : ad1 33 0 = ad 33 0 := hk1 33 0 rfl
  have h31 := hW1.g 31 0 rfl
  rw [e31] at h31
  have hM1 := hM A1 B1 ad1 G1 hW1 hB1 h40
  rw [e31] at hM1
  show WL X mL_law _ _ _ _ _ _ _ 642 [(4, .int (nI i)), (3, .ref (ad 33 0)), (2, .ref (ad 31 0)), (1, .ref (ad 0 0)), (0, .ref X.1)] [.int (nI cd)]
  refine q_istore [(5, .int (nI cd)), (4, .int (nI i)), (3, .ref (ad 33 0)), (2, .ref (ad 31 0)), (1, .ref (ad 0 0)), (0, .ref X.1)] dL_law_642 (by decide) rfl ?_
  refine q_aload_n dL_law_644 rfl 3 rfl ?_
  refine q_aload_n dL_law_645 rfl 5 rfl ?_
  refine q_iload dL_law_646 1 rfl ?_
  refine q_iconst (v := 1) dL_law_648 (by decide) ?_
  refine q_iadd dL_law_649 ?_
  refine q_top (nI (i + 1)) (nI_add i 1) ?_
  refine q_sld dL_law_650 (vp_in_nI (by omega) (by omega)) ?_
  refine q_top (X.2.2 (i + 1)) (by rw [nI_cl (by omega)]) ?_
  refine q_callV (st := []) [.int (X.2.2 (i + 1))] bc bs dL_law_651 kX9_isLinked nX9_isLinked lRL_124 h31 rfl hM1 rfl rfl (Nat.le_of_ble_eq_true rfl) (Nat.le_refl _) (Nat.le_refl _) ?_
  intro r G2 hr
  obtain ⟨v2, rfl, B2, hW2, h26, hB2, h0⟩ := hr
  have h31b := hW2.g 31 0 rfl
  rw [e31] at h31b
  have h33 := hW2.g 33 0 rfl
  rw [e33] at h33
  show WL X mL_law _ _ _ _ _ _ _ 654 [(5, .int (nI cd)), (4, .int (nI i)), (3, .ref (ad 33 0)), (2, .ref (ad 31 0)), (1, .ref (ad 0 0)), (0, .ref X.1)] [.int v2]
  refine q_istore [(6, .int v2), (5, .int (nI cd)), (4, .int (nI i)), (3, .ref (ad 33 0)), (2, .ref (ad 31 0)), (1, .ref (ad 0 0)), (0, .ref X.1)] dL_law_654 (by decide) rfl ?_
  refine q_aload_n dL_law_656 rfl 4 rfl ?_
  have ht := c_X9_thrown (d := 9) (b0 := b0) hW2
  rw [e31, h26] at ht
  refine q_callV (st := []) [] bc bs dL_law_657 kX9_thrown nX9_thrown lRL_88 h31b rfl ht rfl rfl (Nat.le_of_ble_eq_true rfl) (Nat.le_refl _) (Nat.le_refl _) ?_
  refine ql_det (st2 := [.int (nI cd)]) rfl ?_
  refine q_iload dL_law_660 1 rfl ?_
  refine q_icmp_eq 667 dL_law_662 (by decide) (fun _ => ?_) (fun c9 => absurd rfl c9)
  refine q_iload dL_law_667 1 rfl ?_
  refine q_if_ne 691 dL_law_669 (by decide) (fun c_2 => ?_) (fun c_2 => ?_)
  · refine q_goto 1446 dL_law_691 (by decide) ?_
    exact WL.loc [2, 3, 4, 5, 6] rfl (K.use hW2 hA1 hB2 hIs hP1 e0 e31 e33)
  · have hcd : cd = 0 := ni_eq (b := 0) (by omega) (by decide) c_2
    have h40v : nI (B2 40 0) = v2 := by rw [(h0 hcd).2, n32_s, (h0 hcd).1]
    refine q_aload_n dL_law_672 rfl 3 rfl ?_
    refine q_iconst (v := 0) dL_law_673 (by decide) ?_
    refine q_lald dL_law_674 h33 (show vp_in (nI 0) 1 from vp_in_nI (by decide) (by decide)) ?_
    refine q_iload dL_law_675 0 rfl ?_
    refine q_if_eq 684 dL_law_677 (by decide) (fun c_3 => ?_) (fun c_3 => ?_)
    · refine q_lconst (v := 0) dL_law_684 (by decide) ?_
      refine q_lcmp dL_law_685 ?_
      have hcmp : lg_cmp (nI (B2 40 0)).toInt64 0 = 0 := by rw [h40v, c_3]; decide +kernel
      refine q_if_eq 691 dL_law_686 (by decide) (fun _ => ?_) (fun c9 => absurd hcmp c9)
      refine q_goto 1446 dL_law_691 (by decide) ?_
      exact WL.loc [2, 3, 4, 5, 6] rfl (K.use hW2 hA1 hB2 hIs hP1 e0 e31 e33)
    · refine q_lconst (v := 1) dL_law_680 (by decide) ?_
      refine q_goto 685 dL_law_681 (by decide) ?_
      refine q_lcmp dL_law_685 ?_
      have hv1 : v2 = 1 := by
        rw [(h0 hcd).1]
        rcases hQ hcd with q | q
        · exact absurd ((h0 hcd).1.trans q) c_3
        · exact q
      have hcmp : lg_cmp (nI (B2 40 0)).toInt64 1 = 0 := by rw [h40v, hv1]; decide +kernel
      refine q_if_eq 691 dL_law_686 (by decide) (fun _ => ?_) (fun c9 => absurd hcmp c9)
      refine q_goto 1446 dL_law_691 (by decide) ?_
      exact WL.loc [2, 3, 4, 5, 6] rfl (K.use hW2 hA1 hB2 hIs hP1 e0 e31 e33)
set_option maxRecDepth 100000 in
set_option maxHeartbeats 4000000 in
theorem la_letter {X : SX} {b0 : Nat} {Po : Option Value → GH → Prop} {Px : String → GH → Prop} {bc bs i : Nat} {C : ST} {ad : AD} {G : GH} (hW : World C C ad G) (hI : Inv C) (hP : Pag C) (hi : i + 5 ≤ X.2.1) (hX : X.2.1 ≤ 2560) (K : LK X b0 Po Px bc bs i) : WL X mL_law 10 b0 Po Px G (bc + 20) (bs + 400) 694 [(4, .int (nI i)), (3, .ref (ad 33 0)), (2, .ref (ad 31 0)), (1, .ref (ad 0 0)), (0, .ref X.1)] [] := by
  obtain ⟨cd, v, st, h4, hIs, hQ, hL, hM⟩ := o_letter (b0 := b0) hW hI hP
  refine q_aload_n dL_law_694 rfl 3 rfl ?_
  refine q_aload_n dL_law_695 rfl 1 rfl ?_
  refine q_callSW (st := []) [.ref (ad 0 0), .ref (ad 33 0)] bc bs dL_law_696 kL_letter nL_letter lRL_125 hL rfl rfl (Nat.le_of_ble_eq_true rfl) (Nat.le_refl _) (Nat.le_refl _) ?_
  intro r G1 hr
  obtain ⟨rfl, A1, B1, ad1, hW1, hk1, hP1, hA1, hB1, h40⟩ := hr
  have e0 : ad1 0 0 = ad 0 0 := hk1 0 0 rfl
  have e31 : ad1 31 0 = ad 31 0 := hk1 31 0 rfl
  have e33 : ad1 33 0 = ad 33 0 := hk1 33 0 rfl
  have h31 := hW1.g 31 0 rfl
  rw [e31] at h31
  have hM1 := hM A1 B1 ad1 G1 hW1 hB1 h40
  rw [e31] at hM1
  show WL X mL_law _ _ _ _ _ _ _ 699 [(4, .int (nI i)), (3, .ref (ad 33 0)), (2, .ref (ad 31 0)), (1, .ref (ad 0 0)), (0, .ref X.1)] [.int (nI cd)]
  refine q_istore [(5, .int (nI cd)), (4, .int (nI i)), (3, .ref (ad 33 0)), (2, .ref (ad 31 0)), (1, .ref (ad 0 0)), (0, .ref X.1)] dL_law_699 (by decide) rfl ?_
  refine q_aload_n dL_law_701 rfl 3 rfl ?_
  refine q_callV (st := []) [] bc bs dL_law_702 kX9_letter nX9_letter lRL_127 h31 rfl hM1 rfl rfl (Nat.le_of_ble_eq_true rfl) (Nat.le_refl _) (Nat.le_refl _) ?_
  intro r G2 hr
  obtain ⟨v2, rfl, B2, hW2, h26, hB2, h0⟩ := hr
  have h31b := hW2.g 31 0 rfl
  rw [e31] at h31b
  have h33 := hW2.g 33 0 rfl
  rw [e33] at h33
  show WL X mL_law _ _ _ _ _ _ _ 705 [(5, .int (nI cd)), (4, .int (nI i)), (3, .ref (ad 33 0)), (2, .ref (ad 31 0)), (1, .ref (ad 0 0)), (0, .ref X.1)] [.int v2]
  refine q_istore [(6, .int v2), (5, .int (nI cd)), (4, .int (nI i)), (3, .ref (ad 33 0)), (2, .ref (ad 31 0)), (1, .ref (ad 0 0)), (0, .ref X.1)] dL_law_705 (by decide) rfl ?_
  refine q_aload_n dL_law_707 rfl 4 rfl ?_
  have ht := c_X9_thrown (d := 9) (b0 := b0) hW2
  rw [e31, h26] at ht
  refine q_callV (st := []) [] bc bs dL_law_708 kX9_thrown nX9_thrown lRL_88 h31b rfl ht rfl rfl (Nat.le_of_ble_eq_true rfl) (Nat.le_refl _) (Nat.le_refl _) ?_
  refine ql_det (st2 := [.int (nI cd)]) rfl ?_
  refine q_iload dL_law_711 1 rfl ?_
  refine q_icmp_eq 718 dL_law_713 (by decide) (fun _ => ?_) (fun c9 => absurd rfl c9)
  refine q_iload dL_law_718 1 rfl ?_
  refine q_if_ne 735 dL_law_720 (by decide) (fun c_2 => ?_) (fun c_2 => ?_)
  · refine q_goto 1446 dL_law_735 (by decide) ?_
    exact WL.loc [2, 3, 4, 5, 6] rfl (K.use hW2 hA1 hB2 hIs hP1 e0 e31 e33)
  · have hcd : cd = 0 := ni_eq (b := 0) (by omega) (by decide) c_2
    have h40v : nI (B2 40 0) = v2 := by rw [(h0 hcd).2, n32_s, (h0 hcd).1]
    refine q_aload_n dL_law_723 rfl 3 rfl ?_
    refine q_iconst (v := 0) dL_law_724 (by decide) ?_
    refine q_lald dL_law_725 h33 (show vp_in (nI 0) 1 from vp_in_nI (by decide) (by decide)) ?_
    refine q_iload dL_law_726 0 rfl ?_
    refine q_i2l dL_law_728 ?_
    refine q_lcmp dL_law_729 ?_
    have hcmp : lg_cmp (nI (B2 40 0)).toInt64 v2.toInt64 = 0 := by rw [h40v]; exact cmp_self _
    refine q_if_eq 735 dL_law_730 (by decide) (fun _ => ?_) (fun c9 => absurd hcmp c9)
    refine q_goto 1446 dL_law_735 (by decide) ?_
    exact WL.loc [2, 3, 4, 5, 6] rfl (K.use hW2 hA1 hB2 hIs hP1 e0 e31 e33)
set_option maxRecDepth 100000 in
set_option maxHeartbeats 4000000 in
theorem la_put {X : SX} {b0 : Nat} {Po : Option Value → GH → Prop} {Px : String → GH → Prop} {bc bs i : Nat} {C : ST} {ad : AD} {G : GH} (hW : World C C ad G) (hI : Inv C) (hP : Pag C) (hi : i + 5 ≤ X.2.1) (hX : X.2.1 ≤ 2560) (K : LK X b0 Po Px bc bs i) : WL X mL_law 10 b0 Po Px G (bc + 20) (bs + 400) 738 [(4, .int (nI i)), (3, .ref (ad 33 0)), (2, .ref (ad 31 0)), (1, .ref (ad 0 0)), (0, .ref X.1)] [] := by
  obtain ⟨cd, v, st, h4, hIs, hQ, hL, hM⟩ := o_put (b0 := b0) hW hI hP (X.2.2 (i + 1)) (X.2.2 (i + 2))
  refine q_aload_n dL_law_738 rfl 3 rfl ?_
  refine q_aload_n dL_law_739 rfl 4 rfl ?_
  refine q_iload dL_law_740 0 rfl ?_
  refine q_iconst (v := 1) dL_law_742 (by decide) ?_
  refine q_iadd dL_law_743 ?_
  refine q_top (nI (i + 1)) (nI_add i 1) ?_
  refine q_sld dL_law_744 (vp_in_nI (by omega) (by omega)) ?_
  refine q_top (X.2.2 (i + 1)) (by rw [nI_cl (by omega)]) ?_
  refine q_aload_n dL_law_745 rfl 4 rfl ?_
  refine q_iload dL_law_746 0 rfl ?_
  refine q_iconst (v := 2) dL_law_748 (by decide) ?_
  refine q_iadd dL_law_749 ?_
  refine q_top (nI (i + 2)) (nI_add i 2) ?_
  refine q_sld dL_law_750 (vp_in_nI (by omega) (by omega)) ?_
  refine q_top (X.2.2 (i + 2)) (by rw [nI_cl (by omega)]) ?_
  refine q_aload_n dL_law_751 rfl 1 rfl ?_
  refine q_callSW (st := []) [.ref (ad 0 0), .int (X.2.2 (i + 1)), .int (X.2.2 (i + 2)), .ref (ad 33 0)] bc bs dL_law_752 kL_put nL_put lRL_128 hL rfl rfl (Nat.le_of_ble_eq_true rfl) (Nat.le_refl _) (Nat.le_refl _) ?_
  intro r G1 hr
  obtain ⟨rfl, A1, B1, ad1, hW1, hk1, hP1, hA1, hB1, h40⟩ := hr
  have e0 : ad1 0 0 = ad 0 0 := hk1 0 0 rfl
  have e31 : ad1 31 0 = ad 31 0 := hk1 31 0 rfl
  have e33 : ad1 33 0 = ad 33 0 := hk1 33 0 rfl
  have h31 := hW1.g 31 0 rfl
  rw [e31] at h31
  have hM1 := hM A1 B1 ad1 G1 hW1 hB1 h40
  rw [e31] at hM1
  show WL X mL_law _ _ _ _ _ _ _ 755 [(4, .int (nI i)), (3, .ref (ad 33 0)), (2, .ref (ad 31 0)), (1, .ref (ad 0 0)), (0, .ref X.1)] [.int (nI cd)]
  refine q_istore [(5, .int (nI cd)), (4, .int (nI i)), (3, .ref (ad 33 0)), (2, .ref (ad 31 0)), (1, .ref (ad 0 0)), (0, .ref X.1)] dL_law_755 (by decide) rfl ?_
  refine q_aload_n dL_law_757 rfl 3 rfl ?_
  refine q_aload_n dL_law_758 rfl 5 rfl ?_
  refine q_iload dL_law_759 1 rfl ?_
  refine q_iconst (v := 1) dL_law_761 (by decide) ?_
  refine q_iadd dL_law_762 ?_
  refine q_top (nI (i + 1)) (nI_add i 1) ?_
  refine q_sld dL_law_763 (vp_in_nI (by omega) (by omega)) ?_
  refine q_top (X.2.2 (i + 1)) (by rw [nI_cl (by omega)]) ?_
  refine q_aload_n dL_law_764 rfl 5 rfl ?_
  refine q_iload dL_law_765 1 rfl ?_
  refine q_iconst (v := 2) dL_law_767 (by decide) ?_
  refine q_iadd dL_law_768 ?_
  refine q_top (nI (i + 2)) (nI_add i 2) ?_
  refine q_sld dL_law_769 (vp_in_nI (by omega) (by omega)) ?_
  refine q_top (X.2.2 (i + 2)) (by rw [nI_cl (by omega)]) ?_
  refine q_callV (st := []) [.int (X.2.2 (i + 1)), .int (X.2.2 (i + 2))] bc bs dL_law_770 kX9_put nX9_put lRL_130 h31 rfl hM1 rfl rfl (Nat.le_of_ble_eq_true rfl) (Nat.le_refl _) (Nat.le_refl _) ?_
  intro r G2 hr
  obtain ⟨v2, rfl, B2, hW2, h26, hB2, h0⟩ := hr
  have h31b := hW2.g 31 0 rfl
  rw [e31] at h31b
  have h33 := hW2.g 33 0 rfl
  rw [e33] at h33
  show WL X mL_law _ _ _ _ _ _ _ 773 [(5, .int (nI cd)), (4, .int (nI i)), (3, .ref (ad 33 0)), (2, .ref (ad 31 0)), (1, .ref (ad 0 0)), (0, .ref X.1)] [.int v2]
  refine q_istore [(6, .int v2), (5, .int (nI cd)), (4, .int (nI i)), (3, .ref (ad 33 0)), (2, .ref (ad 31 0)), (1, .ref (ad 0 0)), (0, .ref X.1)] dL_law_773 (by decide) rfl ?_
  refine q_aload_n dL_law_775 rfl 4 rfl ?_
  have ht := c_X9_thrown (d := 9) (b0 := b0) hW2
  rw [e31, h26] at ht
  refine q_callV (st := []) [] bc bs dL_law_776 kX9_thrown nX9_thrown lRL_88 h31b rfl ht rfl rfl (Nat.le_of_ble_eq_true rfl) (Nat.le_refl _) (Nat.le_refl _) ?_
  refine ql_det (st2 := [.int (nI cd)]) rfl ?_
  refine q_iload dL_law_779 1 rfl ?_
  refine q_icmp_eq 786 dL_law_781 (by decide) (fun _ => ?_) (fun c9 => absurd rfl c9)
  refine q_iload dL_law_786 1 rfl ?_
  refine q_if_ne 803 dL_law_788 (by decide) (fun c_2 => ?_) (fun c_2 => ?_)
  · refine q_goto 1446 dL_law_803 (by decide) ?_
    exact WL.loc [2, 3, 4, 5, 6] rfl (K.use hW2 hA1 hB2 hIs hP1 e0 e31 e33)
  · have hcd : cd = 0 := ni_eq (b := 0) (by omega) (by decide) c_2
    have h40v : nI (B2 40 0) = v2 := by rw [(h0 hcd).2, n32_s, (h0 hcd).1]
    refine q_aload_n dL_law_791 rfl 3 rfl ?_
    refine q_iconst (v := 0) dL_law_792 (by decide) ?_
    refine q_lald dL_law_793 h33 (show vp_in (nI 0) 1 from vp_in_nI (by decide) (by decide)) ?_
    refine q_iload dL_law_794 0 rfl ?_
    refine q_i2l dL_law_796 ?_
    refine q_lcmp dL_law_797 ?_
    have hcmp : lg_cmp (nI (B2 40 0)).toInt64 v2.toInt64 = 0 := by rw [h40v]; exact cmp_self _
    refine q_if_eq 803 dL_law_798 (by decide) (fun _ => ?_) (fun c9 => absurd hcmp c9)
    refine q_goto 1446 dL_law_803 (by decide) ?_
    exact WL.loc [2, 3, 4, 5, 6] rfl (K.use hW2 hA1 hB2 hIs hP1 e0 e31 e33)
set_option maxRecDepth 100000 in
set_option maxHeartbeats 4000000 in
theorem la_data {X : SX} {b0 : Nat} {Po : Option Value → GH → Prop} {Px : String → GH → Prop} {bc bs i : Nat} {C : ST} {ad : AD} {G : GH} (hW : World C C ad G) (hI : Inv C) (hP : Pag C) (hi : i + 5 ≤ X.2.1) (hX : X.2.1 ≤ 2560) (K : LK X b0 Po Px bc bs i) : WL X mL_law 10 b0 Po Px G (bc + 20) (bs + 400) 806 [(4, .int (nI i)), (3, .ref (ad 33 0)), (2, .ref (ad 31 0)), (1, .ref (ad 0 0)), (0, .ref X.1)] [] := by
  obtain ⟨cd, v, st, h4, hIs, hQ, hL, hM⟩ := o_data (b0 := b0) hW hI hP (X.2.2 (i + 1)) (X.2.2 (i + 2))
  refine q_aload_n dL_law_806 rfl 3 rfl ?_
  refine q_aload_n dL_law_807 rfl 4 rfl ?_
  refine q_iload dL_law_808 0 rfl ?_
  refine q_iconst (v := 1) dL_law_810 (by decide) ?_
  refine q_iadd dL_law_811 ?_
  refine q_top (nI (i + 1)) (nI_add i 1) ?_
  refine q_sld dL_law_812 (vp_in_nI (by omega) (by omega)) ?_
  refine q_top (X.2.2 (i + 1)) (by rw [nI_cl (by omega)]) ?_
  refine q_aload_n dL_law_813 rfl 4 rfl ?_
  refine q_iload dL_law_814 0 rfl ?_
  refine q_iconst (v := 2) dL_law_816 (by decide) ?_
  refine q_iadd dL_law_817 ?_
  refine q_top (nI (i + 2)) (nI_add i 2) ?_
  refine q_sld dL_law_818 (vp_in_nI (by omega) (by omega)) ?_
  refine q_top (X.2.2 (i + 2)) (by rw [nI_cl (by omega)]) ?_
  refine q_aload_n dL_law_819 rfl 1 rfl ?_
  refine q_callSW (st := []) [.ref (ad 0 0), .int (X.2.2 (i + 1)), .int (X.2.2 (i + 2)), .ref (ad 33 0)] bc bs dL_law_820 kL_data nL_data lRL_131 hL rfl rfl (Nat.le_of_ble_eq_true rfl) (Nat.le_refl _) (Nat.le_refl _) ?_
  intro r G1 hr
  obtain ⟨rfl, A1, B1, ad1, hW1, hk1, hP1, hA1, hB1, h40⟩ := hr
  have e0 : ad1 0 0 = ad 0 0 := hk1 0 0 rfl
  have e31 : ad1 31 0 = ad 31 0 := hk1 31 0 rfl
  have e33 : ad1 33 0 = ad 33 0 := hk1 33 0 rfl
  have h31 := hW1.g 31 0 rfl
  rw [e31] at h31
  have hM1 := hM A1 B1 ad1 G1 hW1 hB1 h40
  rw [e31] at hM1
  show WL X mL_law _ _ _ _ _ _ _ 823 [(4, .int (nI i)), (3, .ref (ad 33 0)), (2, .ref (ad 31 0)), (1, .ref (ad 0 0)), (0, .ref X.1)] [.int (nI cd)]
  refine q_istore [(5, .int (nI cd)), (4, .int (nI i)), (3, .ref (ad 33 0)), (2, .ref (ad 31 0)), (1, .ref (ad 0 0)), (0, .ref X.1)] dL_law_823 (by decide) rfl ?_
  refine q_aload_n dL_law_825 rfl 3 rfl ?_
  refine q_aload_n dL_law_826 rfl 5 rfl ?_
  refine q_iload dL_law_827 1 rfl ?_
  refine q_iconst (v := 1) dL_law_829 (by decide) ?_
  refine q_iadd dL_law_830 ?_
  refine q_top (nI (i + 1)) (nI_add i 1) ?_
  refine q_sld dL_law_831 (vp_in_nI (by omega) (by omega)) ?_
  refine q_top (X.2.2 (i + 1)) (by rw [nI_cl (by omega)]) ?_
  refine q_aload_n dL_law_832 rfl 5 rfl ?_
  refine q_iload dL_law_833 1 rfl ?_
  refine q_iconst (v := 2) dL_law_835 (by decide) ?_
  refine q_iadd dL_law_836 ?_
  refine q_top (nI (i + 2)) (nI_add i 2) ?_
  refine q_sld dL_law_837 (vp_in_nI (by omega) (by omega)) ?_
  refine q_top (X.2.2 (i + 2)) (by rw [nI_cl (by omega)]) ?_
  refine q_callV (st := []) [.int (X.2.2 (i + 1)), .int (X.2.2 (i + 2))] bc bs dL_law_838 kX9_data nX9_data lRL_133 h31 rfl hM1 rfl rfl (Nat.le_of_ble_eq_true rfl) (Nat.le_refl _) (Nat.le_refl _) ?_
  intro r G2 hr
  obtain ⟨v2, rfl, B2, hW2, h26, hB2, h0⟩ := hr
  have h31b := hW2.g 31 0 rfl
  rw [e31] at h31b
  have h33 := hW2.g 33 0 rfl
  rw [e33] at h33
  show WL X mL_law _ _ _ _ _ _ _ 841 [(5, .int (nI cd)), (4, .int (nI i)), (3, .ref (ad 33 0)), (2, .ref (ad 31 0)), (1, .ref (ad 0 0)), (0, .ref X.1)] [.int v2]
  refine q_istore [(6, .int v2), (5, .int (nI cd)), (4, .int (nI i)), (3, .ref (ad 33 0)), (2, .ref (ad 31 0)), (1, .ref (ad 0 0)), (0, .ref X.1)] dL_law_841 (by decide) rfl ?_
  refine q_aload_n dL_law_843 rfl 4 rfl ?_
  have ht := c_X9_thrown (d := 9) (b0 := b0) hW2
  rw [e31, h26] at ht
  refine q_callV (st := []) [] bc bs dL_law_844 kX9_thrown nX9_thrown lRL_88 h31b rfl ht rfl rfl (Nat.le_of_ble_eq_true rfl) (Nat.le_refl _) (Nat.le_refl _) ?_
  refine ql_det (st2 := [.int (nI cd)]) rfl ?_
  refine q_iload dL_law_847 1 rfl ?_
  refine q_icmp_eq 854 dL_law_849 (by decide) (fun _ => ?_) (fun c9 => absurd rfl c9)
  refine q_iload dL_law_854 1 rfl ?_
  refine q_if_ne 871 dL_law_856 (by decide) (fun c_2 => ?_) (fun c_2 => ?_)
  · refine q_goto 1446 dL_law_871 (by decide) ?_
    exact WL.loc [2, 3, 4, 5, 6] rfl (K.use hW2 hA1 hB2 hIs hP1 e0 e31 e33)
  · have hcd : cd = 0 := ni_eq (b := 0) (by omega) (by decide) c_2
    have h40v : nI (B2 40 0) = v2 := by rw [(h0 hcd).2, n32_s, (h0 hcd).1]
    refine q_aload_n dL_law_859 rfl 3 rfl ?_
    refine q_iconst (v := 0) dL_law_860 (by decide) ?_
    refine q_lald dL_law_861 h33 (show vp_in (nI 0) 1 from vp_in_nI (by decide) (by decide)) ?_
    refine q_iload dL_law_862 0 rfl ?_
    refine q_i2l dL_law_864 ?_
    refine q_lcmp dL_law_865 ?_
    have hcmp : lg_cmp (nI (B2 40 0)).toInt64 v2.toInt64 = 0 := by rw [h40v]; exact cmp_self _
    refine q_if_eq 871 dL_law_866 (by decide) (fun _ => ?_) (fun c9 => absurd hcmp c9)
    refine q_goto 1446 dL_law_871 (by decide) ?_
    exact WL.loc [2, 3, 4, 5, 6] rfl (K.use hW2 hA1 hB2 hIs hP1 e0 e31 e33)
set_option maxRecDepth 100000 in
set_option maxHeartbeats 4000000 in
theorem la_fill {X : SX} {b0 : Nat} {Po : Option Value → GH → Prop} {Px : String → GH → Prop} {bc bs i : Nat} {C : ST} {ad : AD} {G : GH} (hW : World C C ad G) (hI : Inv C) (hP : Pag C) (hi : i + 5 ≤ X.2.1) (hX : X.2.1 ≤ 2560) (K : LK X b0 Po Px bc bs i) : WL X mL_law 10 b0 Po Px G (bc + 20) (bs + 400) 874 [(4, .int (nI i)), (3, .ref (ad 33 0)), (2, .ref (ad 31 0)), (1, .ref (ad 0 0)), (0, .ref X.1)] [] := by
  obtain ⟨cd, v, st, h4, hIs, hQ, hL, hM⟩ := o_fill (b0 := b0) hW hI hP (X.2.2 (i + 1)) (X.2.2 (i + 2)) (X.2.2 (i + 3))
  refine q_aload_n dL_law_874 rfl 3 rfl ?_
  refine q_aload_n dL_law_875 rfl 4 rfl ?_
  refine q_iload dL_law_876 0 rfl ?_
  refine q_iconst (v := 1) dL_law_878 (by decide) ?_
  refine q_iadd dL_law_879 ?_
  refine q_top (nI (i + 1)) (nI_add i 1) ?_
  refine q_sld dL_law_880 (vp_in_nI (by omega) (by omega)) ?_
  refine q_top (X.2.2 (i + 1)) (by rw [nI_cl (by omega)]) ?_
  refine q_aload_n dL_law_881 rfl 4 rfl ?_
  refine q_iload dL_law_882 0 rfl ?_
  refine q_iconst (v := 2) dL_law_884 (by decide) ?_
  refine q_iadd dL_law_885 ?_
  refine q_top (nI (i + 2)) (nI_add i 2) ?_
  refine q_sld dL_law_886 (vp_in_nI (by omega) (by omega)) ?_
  refine q_top (X.2.2 (i + 2)) (by rw [nI_cl (by omega)]) ?_
  refine q_aload_n dL_law_887 rfl 4 rfl ?_
  refine q_iload dL_law_888 0 rfl ?_
  refine q_iconst (v := 3) dL_law_890 (by decide) ?_
  refine q_iadd dL_law_891 ?_
  refine q_top (nI (i + 3)) (nI_add i 3) ?_
  refine q_sld dL_law_892 (vp_in_nI (by omega) (by omega)) ?_
  refine q_top (X.2.2 (i + 3)) (by rw [nI_cl (by omega)]) ?_
  refine q_aload_n dL_law_893 rfl 1 rfl ?_
  refine q_callSW (st := []) [.ref (ad 0 0), .int (X.2.2 (i + 1)), .int (X.2.2 (i + 2)), .int (X.2.2 (i + 3)), .ref (ad 33 0)] bc bs dL_law_894 kL_fill nL_fill lRL_134 hL rfl rfl (Nat.le_of_ble_eq_true rfl) (Nat.le_refl _) (Nat.le_refl _) ?_
  intro r G1 hr
  obtain ⟨rfl, A1, B1, ad1, hW1, hk1, hP1, hA1, hB1, h40⟩ := hr
  have e0 : ad1 0 0 = ad 0 0 := hk1 0 0 rfl
  have e31 : ad1 31 0 = ad 31 0 := hk1 31 0 rfl
  have e33 : ad1 33 0 = ad 33 0 := hk1 33 0 rfl
  have h31 := hW1.g 31 0 rfl
  rw [e31] at h31
  have hM1 := hM A1 B1 ad1 G1 hW1 hB1 h40
  rw [e31] at hM1
  show WL X mL_law _ _ _ _ _ _ _ 897 [(4, .int (nI i)), (3, .ref (ad 33 0)), (2, .ref (ad 31 0)), (1, .ref (ad 0 0)), (0, .ref X.1)] [.int (nI cd)]
  refine q_istore [(5, .int (nI cd)), (4, .int (nI i)), (3, .ref (ad 33 0)), (2, .ref (ad 31 0)), (1, .ref (ad 0 0)), (0, .ref X.1)] dL_law_897 (by decide) rfl ?_
  refine q_aload_n dL_law_899 rfl 3 rfl ?_
  refine q_aload_n dL_law_900 rfl 5 rfl ?_
  refine q_iload dL_law_901 1 rfl ?_
  refine q_iconst (v := 1) dL_law_903 (by decide) ?_
  refine q_iadd dL_law_904 ?_
  refine q_top (nI (i + 1)) (nI_add i 1) ?_
  refine q_sld dL_law_905 (vp_in_nI (by omega) (by omega)) ?_
  refine q_top (X.2.2 (i + 1)) (by rw [nI_cl (by omega)]) ?_
  refine q_aload_n dL_law_906 rfl 5 rfl ?_
  refine q_iload dL_law_907 1 rfl ?_
  refine q_iconst (v := 2) dL_law_909 (by decide) ?_
  refine q_iadd dL_law_910 ?_
  refine q_top (nI (i + 2)) (nI_add i 2) ?_
  refine q_sld dL_law_911 (vp_in_nI (by omega) (by omega)) ?_
  refine q_top (X.2.2 (i + 2)) (by rw [nI_cl (by omega)]) ?_
  refine q_aload_n dL_law_912 rfl 5 rfl ?_
  refine q_iload dL_law_913 1 rfl ?_
  refine q_iconst (v := 3) dL_law_915 (by decide) ?_
  refine q_iadd dL_law_916 ?_
  refine q_top (nI (i + 3)) (nI_add i 3) ?_
  refine q_sld dL_law_917 (vp_in_nI (by omega) (by omega)) ?_
  refine q_top (X.2.2 (i + 3)) (by rw [nI_cl (by omega)]) ?_
  refine q_callV (st := []) [.int (X.2.2 (i + 1)), .int (X.2.2 (i + 2)), .int (X.2.2 (i + 3))] bc bs dL_law_918 kX9_fill nX9_fill lRL_136 h31 rfl hM1 rfl rfl (Nat.le_of_ble_eq_true rfl) (Nat.le_refl _) (Nat.le_refl _) ?_
  intro r G2 hr
  obtain ⟨v2, rfl, B2, hW2, h26, hB2, h0⟩ := hr
  have h31b := hW2.g 31 0 rfl
  rw [e31] at h31b
  have h33 := hW2.g 33 0 rfl
  rw [e33] at h33
  show WL X mL_law _ _ _ _ _ _ _ 921 [(5, .int (nI cd)), (4, .int (nI i)), (3, .ref (ad 33 0)), (2, .ref (ad 31 0)), (1, .ref (ad 0 0)), (0, .ref X.1)] [.int v2]
  refine q_istore [(6, .int v2), (5, .int (nI cd)), (4, .int (nI i)), (3, .ref (ad 33 0)), (2, .ref (ad 31 0)), (1, .ref (ad 0 0)), (0, .ref X.1)] dL_law_921 (by decide) rfl ?_
  refine q_aload_n dL_law_923 rfl 4 rfl ?_
  have ht := c_X9_thrown (d := 9) (b0 := b0) hW2
  rw [e31, h26] at ht
  refine q_callV (st := []) [] bc bs dL_law_924 kX9_thrown nX9_thrown lRL_88 h31b rfl ht rfl rfl (Nat.le_of_ble_eq_true rfl) (Nat.le_refl _) (Nat.le_refl _) ?_
  refine ql_det (st2 := [.int (nI cd)]) rfl ?_
  refine q_iload dL_law_927 1 rfl ?_
  refine q_icmp_eq 934 dL_law_929 (by decide) (fun _ => ?_) (fun c9 => absurd rfl c9)
  refine q_iload dL_law_934 1 rfl ?_
  refine q_if_ne 951 dL_law_936 (by decide) (fun c_2 => ?_) (fun c_2 => ?_)
  · refine q_goto 1446 dL_law_951 (by decide) ?_
    exact WL.loc [2, 3, 4, 5, 6] rfl (K.use hW2 hA1 hB2 hIs hP1 e0 e31 e33)
  · have hcd : cd = 0 := ni_eq (b := 0) (by omega) (by decide) c_2
    have h40v : nI (B2 40 0) = v2 := by rw [(h0 hcd).2, n32_s, (h0 hcd).1]
    refine q_aload_n dL_law_939 rfl 3 rfl ?_
    refine q_iconst (v := 0) dL_law_940 (by decide) ?_
    refine q_lald dL_law_941 h33 (show vp_in (nI 0) 1 from vp_in_nI (by decide) (by decide)) ?_
    refine q_iload dL_law_942 0 rfl ?_
    refine q_i2l dL_law_944 ?_
    refine q_lcmp dL_law_945 ?_
    have hcmp : lg_cmp (nI (B2 40 0)).toInt64 v2.toInt64 = 0 := by rw [h40v]; exact cmp_self _
    refine q_if_eq 951 dL_law_946 (by decide) (fun _ => ?_) (fun c9 => absurd hcmp c9)
    refine q_goto 1446 dL_law_951 (by decide) ?_
    exact WL.loc [2, 3, 4, 5, 6] rfl (K.use hW2 hA1 hB2 hIs hP1 e0 e31 e33)
set_option maxRecDepth 100000 in
set_option maxHeartbeats 4000000 in
theorem la_price {X : SX} {b0 : Nat} {Po : Option Value → GH → Prop} {Px : String → GH → Prop} {bc bs i : Nat} {C : ST} {ad : AD} {G : GH} (hW : World C C ad G) (hI : Inv C) (hP : Pag C) (hi : i + 5 ≤ X.2.1) (hX : X.2.1 ≤ 2560) (K : LK X b0 Po Px bc bs i) : WL X mL_law 10 b0 Po Px G (bc + 20) (bs + 400) 954 [(4, .int (nI i)), (3, .ref (ad 33 0)), (2, .ref (ad 31 0)), (1, .ref (ad 0 0)), (0, .ref X.1)] [] := by
  obtain ⟨cd, v, st, h4, hIs, hQ, hL, hM⟩ := o_price (b0 := b0) hW hI hP (X.2.2 (i + 1)) (X.2.2 (i + 2))
  refine q_aload_n dL_law_954 rfl 3 rfl ?_
  refine q_aload_n dL_law_955 rfl 4 rfl ?_
  refine q_iload dL_law_956 0 rfl ?_
  refine q_iconst (v := 1) dL_law_958 (by decide) ?_
  refine q_iadd dL_law_959 ?_
  refine q_top (nI (i + 1)) (nI_add i 1) ?_
  refine q_sld dL_law_960 (vp_in_nI (by omega) (by omega)) ?_
  refine q_top (X.2.2 (i + 1)) (by rw [nI_cl (by omega)]) ?_
  refine q_aload_n dL_law_961 rfl 4 rfl ?_
  refine q_iload dL_law_962 0 rfl ?_
  refine q_iconst (v := 2) dL_law_964 (by decide) ?_
  refine q_iadd dL_law_965 ?_
  refine q_top (nI (i + 2)) (nI_add i 2) ?_
  refine q_sld dL_law_966 (vp_in_nI (by omega) (by omega)) ?_
  refine q_top (X.2.2 (i + 2)) (by rw [nI_cl (by omega)]) ?_
  refine q_aload_n dL_law_967 rfl 1 rfl ?_
  refine q_callSW (st := []) [.ref (ad 0 0), .int (X.2.2 (i + 1)), .int (X.2.2 (i + 2)), .ref (ad 33 0)] bc bs dL_law_968 kL_price nL_price lRL_137 hL rfl rfl (Nat.le_of_ble_eq_true rfl) (Nat.le_refl _) (Nat.le_refl _) ?_
  intro r G1 hr
  obtain ⟨rfl, A1, B1, ad1, hW1, hk1, hP1, hA1, hB1, h40⟩ := hr
  have e0 : ad1 0 0 = ad 0 0 := hk1 0 0 rfl
  have e31 : ad1 31 0 = ad 31 0 := hk1 31 0 rfl
  have e33 : ad1 33 0 = ad 33 0 := hk1 33 0 rfl
  have h31 := hW1.g 31 0 rfl
  rw [e31] at h31
  have hM1 := hM A1 B1 ad1 G1 hW1 hB1 h40
  rw [e31] at hM1
  show WL X mL_law _ _ _ _ _ _ _ 971 [(4, .int (nI i)), (3, .ref (ad 33 0)), (2, .ref (ad 31 0)), (1, .ref (ad 0 0)), (0, .ref X.1)] [.int (nI cd)]
  refine q_istore [(5, .int (nI cd)), (4, .int (nI i)), (3, .ref (ad 33 0)), (2, .ref (ad 31 0)), (1, .ref (ad 0 0)), (0, .ref X.1)] dL_law_971 (by decide) rfl ?_
  refine q_aload_n dL_law_973 rfl 3 rfl ?_
  refine q_aload_n dL_law_974 rfl 5 rfl ?_
  refine q_iload dL_law_975 1 rfl ?_
  refine q_iconst (v := 1) dL_law_977 (by decide) ?_
  refine q_iadd dL_law_978 ?_
  refine q_top (nI (i + 1)) (nI_add i 1) ?_
  refine q_sld dL_law_979 (vp_in_nI (by omega) (by omega)) ?_
  refine q_top (X.2.2 (i + 1)) (by rw [nI_cl (by omega)]) ?_
  refine q_aload_n dL_law_980 rfl 5 rfl ?_
  refine q_iload dL_law_981 1 rfl ?_
  refine q_iconst (v := 2) dL_law_983 (by decide) ?_
  refine q_iadd dL_law_984 ?_
  refine q_top (nI (i + 2)) (nI_add i 2) ?_
  refine q_sld dL_law_985 (vp_in_nI (by omega) (by omega)) ?_
  refine q_top (X.2.2 (i + 2)) (by rw [nI_cl (by omega)]) ?_
  refine q_callV (st := []) [.int (X.2.2 (i + 1)), .int (X.2.2 (i + 2))] bc bs dL_law_986 kX9_price nX9_price lRL_139 h31 rfl hM1 rfl rfl (Nat.le_of_ble_eq_true rfl) (Nat.le_refl _) (Nat.le_refl _) ?_
  intro r G2 hr
  obtain ⟨v2, rfl, B2, hW2, h26, hB2, h0⟩ := hr
  have h31b := hW2.g 31 0 rfl
  rw [e31] at h31b
  have h33 := hW2.g 33 0 rfl
  rw [e33] at h33
  show WL X mL_law _ _ _ _ _ _ _ 989 [(5, .int (nI cd)), (4, .int (nI i)), (3, .ref (ad 33 0)), (2, .ref (ad 31 0)), (1, .ref (ad 0 0)), (0, .ref X.1)] [.int v2]
  refine q_istore [(6, .int v2), (5, .int (nI cd)), (4, .int (nI i)), (3, .ref (ad 33 0)), (2, .ref (ad 31 0)), (1, .ref (ad 0 0)), (0, .ref X.1)] dL_law_989 (by decide) rfl ?_
  refine q_aload_n dL_law_991 rfl 4 rfl ?_
  have ht := c_X9_thrown (d := 9) (b0 := b0) hW2
  rw [e31, h26] at ht
  refine q_callV (st := []) [] bc bs dL_law_992 kX9_thrown nX9_thrown lRL_88 h31b rfl ht rfl rfl (Nat.le_of_ble_eq_true rfl) (Nat.le_refl _) (Nat.le_refl _) ?_
  refine ql_det (st2 := [.int (nI cd)]) rfl ?_
  refine q_iload dL_law_995 1 rfl ?_
  refine q_icmp_eq 1002 dL_law_997 (by decide) (fun _ => ?_) (fun c9 => absurd rfl c9)
  refine q_iload dL_law_1002 1 rfl ?_
  refine q_if_ne 1019 dL_law_1004 (by decide) (fun c_2 => ?_) (fun c_2 => ?_)
  · refine q_goto 1446 dL_law_1019 (by decide) ?_
    exact WL.loc [2, 3, 4, 5, 6] rfl (K.use hW2 hA1 hB2 hIs hP1 e0 e31 e33)
  · have hcd : cd = 0 := ni_eq (b := 0) (by omega) (by decide) c_2
    have h40v : nI (B2 40 0) = v2 := by rw [(h0 hcd).2, n32_s, (h0 hcd).1]
    refine q_aload_n dL_law_1007 rfl 3 rfl ?_
    refine q_iconst (v := 0) dL_law_1008 (by decide) ?_
    refine q_lald dL_law_1009 h33 (show vp_in (nI 0) 1 from vp_in_nI (by decide) (by decide)) ?_
    refine q_iload dL_law_1010 0 rfl ?_
    refine q_i2l dL_law_1012 ?_
    refine q_lcmp dL_law_1013 ?_
    have hcmp : lg_cmp (nI (B2 40 0)).toInt64 v2.toInt64 = 0 := by rw [h40v]; exact cmp_self _
    refine q_if_eq 1019 dL_law_1014 (by decide) (fun _ => ?_) (fun c9 => absurd hcmp c9)
    refine q_goto 1446 dL_law_1019 (by decide) ?_
    exact WL.loc [2, 3, 4, 5, 6] rfl (K.use hW2 hA1 hB2 hIs hP1 e0 e31 e33)
set_option maxRecDepth 100000 in
set_option maxHeartbeats 4000000 in
theorem la_faultOf {X : SX} {b0 : Nat} {Po : Option Value → GH → Prop} {Px : String → GH → Prop} {bc bs i : Nat} {C : ST} {ad : AD} {G : GH} (hW : World C C ad G) (hI : Inv C) (hP : Pag C) (hi : i + 5 ≤ X.2.1) (hX : X.2.1 ≤ 2560) (K : LK X b0 Po Px bc bs i) : WL X mL_law 10 b0 Po Px G (bc + 20) (bs + 400) 1022 [(4, .int (nI i)), (3, .ref (ad 33 0)), (2, .ref (ad 31 0)), (1, .ref (ad 0 0)), (0, .ref X.1)] [] := by
  obtain ⟨cd, v, st, h4, hIs, hQ, hL, hM⟩ := o_faultOf (b0 := b0) hW hI hP (X.2.2 (i + 1)) (X.2.2 (i + 2)) (X.2.2 (i + 3)) (X.2.2 (i + 4))
  refine q_aload_n dL_law_1022 rfl 3 rfl ?_
  refine q_aload_n dL_law_1023 rfl 4 rfl ?_
  refine q_iload dL_law_1024 0 rfl ?_
  refine q_iconst (v := 1) dL_law_1026 (by decide) ?_
  refine q_iadd dL_law_1027 ?_
  refine q_top (nI (i + 1)) (nI_add i 1) ?_
  refine q_sld dL_law_1028 (vp_in_nI (by omega) (by omega)) ?_
  refine q_top (X.2.2 (i + 1)) (by rw [nI_cl (by omega)]) ?_
  refine q_aload_n dL_law_1029 rfl 4 rfl ?_
  refine q_iload dL_law_1030 0 rfl ?_
  refine q_iconst (v := 2) dL_law_1032 (by decide) ?_
  refine q_iadd dL_law_1033 ?_
  refine q_top (nI (i + 2)) (nI_add i 2) ?_
  refine q_sld dL_law_1034 (vp_in_nI (by omega) (by omega)) ?_
  refine q_top (X.2.2 (i + 2)) (by rw [nI_cl (by omega)]) ?_
  refine q_aload_n dL_law_1035 rfl 4 rfl ?_
  refine q_iload dL_law_1036 0 rfl ?_
  refine q_iconst (v := 3) dL_law_1038 (by decide) ?_
  refine q_iadd dL_law_1039 ?_
  refine q_top (nI (i + 3)) (nI_add i 3) ?_
  refine q_sld dL_law_1040 (vp_in_nI (by omega) (by omega)) ?_
  refine q_top (X.2.2 (i + 3)) (by rw [nI_cl (by omega)]) ?_
  refine q_aload_n dL_law_1041 rfl 4 rfl ?_
  refine q_iload dL_law_1042 0 rfl ?_
  refine q_iconst (v := 4) dL_law_1044 (by decide) ?_
  refine q_iadd dL_law_1045 ?_
  refine q_top (nI (i + 4)) (nI_add i 4) ?_
  refine q_sld dL_law_1046 (vp_in_nI (by omega) (by omega)) ?_
  refine q_top (X.2.2 (i + 4)) (by rw [nI_cl (by omega)]) ?_
  refine q_aload_n dL_law_1047 rfl 1 rfl ?_
  refine q_callSW (st := []) [.ref (ad 0 0), .int (X.2.2 (i + 1)), .int (X.2.2 (i + 2)), .int (X.2.2 (i + 3)), .int (X.2.2 (i + 4)), .ref (ad 33 0)] bc bs dL_law_1048 kL_faultOf nL_faultOf lRL_140 hL rfl rfl (Nat.le_of_ble_eq_true rfl) (Nat.le_refl _) (Nat.le_refl _) ?_
  intro r G1 hr
  obtain ⟨rfl, A1, B1, ad1, hW1, hk1, hP1, hA1, hB1, h40⟩ := hr
  have e0 : ad1 0 0 = ad 0 0 := hk1 0 0 rfl
  have e31 : ad1 31 0 = ad 31 0 := hk1 31 0 rfl
  have e33 : ad1 33 0 = ad 33 0 := hk1 33 0 rfl
  have h31 := hW1.g 31 0 rfl
  rw [e31] at h31
  have hM1 := hM A1 B1 ad1 G1 hW1 hB1 h40
  rw [e31] at hM1
  show WL X mL_law _ _ _ _ _ _ _ 1051 [(4, .int (nI i)), (3, .ref (ad 33 0)), (2, .ref (ad 31 0)), (1, .ref (ad 0 0)), (0, .ref X.1)] [.int (nI cd)]
  refine q_istore [(5, .int (nI cd)), (4, .int (nI i)), (3, .ref (ad 33 0)), (2, .ref (ad 31 0)), (1, .ref (ad 0 0)), (0, .ref X.1)] dL_law_1051 (by decide) rfl ?_
  refine q_aload_n dL_law_1053 rfl 3 rfl ?_
  refine q_aload_n dL_law_1054 rfl 5 rfl ?_
  refine q_iload dL_law_1055 1 rfl ?_
  refine q_iconst (v := 1) dL_law_1057 (by decide) ?_
  refine q_iadd dL_law_1058 ?_
  refine q_top (nI (i + 1)) (nI_add i 1) ?_
  refine q_sld dL_law_1059 (vp_in_nI (by omega) (by omega)) ?_
  refine q_top (X.2.2 (i + 1)) (by rw [nI_cl (by omega)]) ?_
  refine q_aload_n dL_law_1060 rfl 5 rfl ?_
  refine q_iload dL_law_1061 1 rfl ?_
  refine q_iconst (v := 2) dL_law_1063 (by decide) ?_
  refine q_iadd dL_law_1064 ?_
  refine q_top (nI (i + 2)) (nI_add i 2) ?_
  refine q_sld dL_law_1065 (vp_in_nI (by omega) (by omega)) ?_
  refine q_top (X.2.2 (i + 2)) (by rw [nI_cl (by omega)]) ?_
  refine q_aload_n dL_law_1066 rfl 5 rfl ?_
  refine q_iload dL_law_1067 1 rfl ?_
  refine q_iconst (v := 3) dL_law_1069 (by decide) ?_
  refine q_iadd dL_law_1070 ?_
  refine q_top (nI (i + 3)) (nI_add i 3) ?_
  refine q_sld dL_law_1071 (vp_in_nI (by omega) (by omega)) ?_
  refine q_top (X.2.2 (i + 3)) (by rw [nI_cl (by omega)]) ?_
  refine q_aload_n dL_law_1072 rfl 5 rfl ?_
  refine q_iload dL_law_1073 1 rfl ?_
  refine q_iconst (v := 4) dL_law_1075 (by decide) ?_
  refine q_iadd dL_law_1076 ?_
  refine q_top (nI (i + 4)) (nI_add i 4) ?_
  refine q_sld dL_law_1077 (vp_in_nI (by omega) (by omega)) ?_
  refine q_top (X.2.2 (i + 4)) (by rw [nI_cl (by omega)]) ?_
  refine q_callV (st := []) [.int (X.2.2 (i + 1)), .int (X.2.2 (i + 2)), .int (X.2.2 (i + 3)), .int (X.2.2 (i + 4))] bc bs dL_law_1078 kX9_faultOf nX9_faultOf lRL_142 h31 rfl hM1 rfl rfl (Nat.le_of_ble_eq_true rfl) (Nat.le_refl _) (Nat.le_refl _) ?_
  intro r G2 hr
  obtain ⟨v2, rfl, B2, hW2, h26, hB2, h0⟩ := hr
  have h31b := hW2.g 31 0 rfl
  rw [e31] at h31b
  have h33 := hW2.g 33 0 rfl
  rw [e33] at h33
  show WL X mL_law _ _ _ _ _ _ _ 1081 [(5, .int (nI cd)), (4, .int (nI i)), (3, .ref (ad 33 0)), (2, .ref (ad 31 0)), (1, .ref (ad 0 0)), (0, .ref X.1)] [.int v2]
  refine q_istore [(6, .int v2), (5, .int (nI cd)), (4, .int (nI i)), (3, .ref (ad 33 0)), (2, .ref (ad 31 0)), (1, .ref (ad 0 0)), (0, .ref X.1)] dL_law_1081 (by decide) rfl ?_
  refine q_aload_n dL_law_1083 rfl 4 rfl ?_
  have ht := c_X9_thrown (d := 9) (b0 := b0) hW2
  rw [e31, h26] at ht
  refine q_callV (st := []) [] bc bs dL_law_1084 kX9_thrown nX9_thrown lRL_88 h31b rfl ht rfl rfl (Nat.le_of_ble_eq_true rfl) (Nat.le_refl _) (Nat.le_refl _) ?_
  refine ql_det (st2 := [.int (nI cd)]) rfl ?_
  refine q_iload dL_law_1087 1 rfl ?_
  refine q_icmp_eq 1094 dL_law_1089 (by decide) (fun _ => ?_) (fun c9 => absurd rfl c9)
  refine q_iload dL_law_1094 1 rfl ?_
  refine q_if_ne 1111 dL_law_1096 (by decide) (fun c_2 => ?_) (fun c_2 => ?_)
  · refine q_goto 1446 dL_law_1111 (by decide) ?_
    exact WL.loc [2, 3, 4, 5, 6] rfl (K.use hW2 hA1 hB2 hIs hP1 e0 e31 e33)
  · have hcd : cd = 0 := ni_eq (b := 0) (by omega) (by decide) c_2
    have h40v : nI (B2 40 0) = v2 := by rw [(h0 hcd).2, n32_s, (h0 hcd).1]
    refine q_aload_n dL_law_1099 rfl 3 rfl ?_
    refine q_iconst (v := 0) dL_law_1100 (by decide) ?_
    refine q_lald dL_law_1101 h33 (show vp_in (nI 0) 1 from vp_in_nI (by decide) (by decide)) ?_
    refine q_iload dL_law_1102 0 rfl ?_
    refine q_i2l dL_law_1104 ?_
    refine q_lcmp dL_law_1105 ?_
    have hcmp : lg_cmp (nI (B2 40 0)).toInt64 v2.toInt64 = 0 := by rw [h40v]; exact cmp_self _
    refine q_if_eq 1111 dL_law_1106 (by decide) (fun _ => ?_) (fun c9 => absurd hcmp c9)
    refine q_goto 1446 dL_law_1111 (by decide) ?_
    exact WL.loc [2, 3, 4, 5, 6] rfl (K.use hW2 hA1 hB2 hIs hP1 e0 e31 e33)
set_option maxRecDepth 100000 in
set_option maxHeartbeats 4000000 in
theorem la_sign {X : SX} {b0 : Nat} {Po : Option Value → GH → Prop} {Px : String → GH → Prop} {bc bs i : Nat} {C : ST} {ad : AD} {G : GH} (hW : World C C ad G) (hI : Inv C) (hP : Pag C) (hi : i + 5 ≤ X.2.1) (hX : X.2.1 ≤ 2560) (K : LK X b0 Po Px bc bs i) : WL X mL_law 10 b0 Po Px G (bc + 20) (bs + 400) 1114 [(4, .int (nI i)), (3, .ref (ad 33 0)), (2, .ref (ad 31 0)), (1, .ref (ad 0 0)), (0, .ref X.1)] [] := by
  obtain ⟨cd, v, st, h4, hIs, hQ, hL, hM⟩ := o_sign (b0 := b0) hW hI hP (X.2.2 (i + 1)) (X.2.2 (i + 2)) (X.2.2 (i + 3)) (X.2.2 (i + 4))
  refine q_aload_n dL_law_1114 rfl 3 rfl ?_
  refine q_aload_n dL_law_1115 rfl 4 rfl ?_
  refine q_iload dL_law_1116 0 rfl ?_
  refine q_iconst (v := 1) dL_law_1118 (by decide) ?_
  refine q_iadd dL_law_1119 ?_
  refine q_top (nI (i + 1)) (nI_add i 1) ?_
  refine q_sld dL_law_1120 (vp_in_nI (by omega) (by omega)) ?_
  refine q_top (X.2.2 (i + 1)) (by rw [nI_cl (by omega)]) ?_
  refine q_aload_n dL_law_1121 rfl 4 rfl ?_
  refine q_iload dL_law_1122 0 rfl ?_
  refine q_iconst (v := 2) dL_law_1124 (by decide) ?_
  refine q_iadd dL_law_1125 ?_
  refine q_top (nI (i + 2)) (nI_add i 2) ?_
  refine q_sld dL_law_1126 (vp_in_nI (by omega) (by omega)) ?_
  refine q_top (X.2.2 (i + 2)) (by rw [nI_cl (by omega)]) ?_
  refine q_aload_n dL_law_1127 rfl 4 rfl ?_
  refine q_iload dL_law_1128 0 rfl ?_
  refine q_iconst (v := 3) dL_law_1130 (by decide) ?_
  refine q_iadd dL_law_1131 ?_
  refine q_top (nI (i + 3)) (nI_add i 3) ?_
  refine q_sld dL_law_1132 (vp_in_nI (by omega) (by omega)) ?_
  refine q_top (X.2.2 (i + 3)) (by rw [nI_cl (by omega)]) ?_
  refine q_aload_n dL_law_1133 rfl 4 rfl ?_
  refine q_iload dL_law_1134 0 rfl ?_
  refine q_iconst (v := 4) dL_law_1136 (by decide) ?_
  refine q_iadd dL_law_1137 ?_
  refine q_top (nI (i + 4)) (nI_add i 4) ?_
  refine q_sld dL_law_1138 (vp_in_nI (by omega) (by omega)) ?_
  refine q_top (X.2.2 (i + 4)) (by rw [nI_cl (by omega)]) ?_
  refine q_aload_n dL_law_1139 rfl 1 rfl ?_
  refine q_callSW (st := []) [.ref (ad 0 0), .int (X.2.2 (i + 1)), .int (X.2.2 (i + 2)), .int (X.2.2 (i + 3)), .int (X.2.2 (i + 4)), .ref (ad 33 0)] bc bs dL_law_1140 kL_sign nL_sign lRL_143 hL rfl rfl (Nat.le_of_ble_eq_true rfl) (Nat.le_refl _) (Nat.le_refl _) ?_
  intro r G1 hr
  obtain ⟨rfl, A1, B1, ad1, hW1, hk1, hP1, hA1, hB1, h40⟩ := hr
  have e0 : ad1 0 0 = ad 0 0 := hk1 0 0 rfl
  have e31 : ad1 31 0 = ad 31 0 := hk1 31 0 rfl
  have e33 : ad1 33 0 = ad 33 0 := hk1 33 0 rfl
  have h31 := hW1.g 31 0 rfl
  rw [e31] at h31
  have hM1 := hM A1 B1 ad1 G1 hW1 hB1 h40
  rw [e31] at hM1
  show WL X mL_law _ _ _ _ _ _ _ 1143 [(4, .int (nI i)), (3, .ref (ad 33 0)), (2, .ref (ad 31 0)), (1, .ref (ad 0 0)), (0, .ref X.1)] [.int (nI cd)]
  refine q_istore [(5, .int (nI cd)), (4, .int (nI i)), (3, .ref (ad 33 0)), (2, .ref (ad 31 0)), (1, .ref (ad 0 0)), (0, .ref X.1)] dL_law_1143 (by decide) rfl ?_
  refine q_aload_n dL_law_1145 rfl 3 rfl ?_
  refine q_aload_n dL_law_1146 rfl 5 rfl ?_
  refine q_iload dL_law_1147 1 rfl ?_
  refine q_iconst (v := 1) dL_law_1149 (by decide) ?_
  refine q_iadd dL_law_1150 ?_
  refine q_top (nI (i + 1)) (nI_add i 1) ?_
  refine q_sld dL_law_1151 (vp_in_nI (by omega) (by omega)) ?_
  refine q_top (X.2.2 (i + 1)) (by rw [nI_cl (by omega)]) ?_
  refine q_aload_n dL_law_1152 rfl 5 rfl ?_
  refine q_iload dL_law_1153 1 rfl ?_
  refine q_iconst (v := 2) dL_law_1155 (by decide) ?_
  refine q_iadd dL_law_1156 ?_
  refine q_top (nI (i + 2)) (nI_add i 2) ?_
  refine q_sld dL_law_1157 (vp_in_nI (by omega) (by omega)) ?_
  refine q_top (X.2.2 (i + 2)) (by rw [nI_cl (by omega)]) ?_
  refine q_aload_n dL_law_1158 rfl 5 rfl ?_
  refine q_iload dL_law_1159 1 rfl ?_
  refine q_iconst (v := 3) dL_law_1161 (by decide) ?_
  refine q_iadd dL_law_1162 ?_
  refine q_top (nI (i + 3)) (nI_add i 3) ?_
  refine q_sld dL_law_1163 (vp_in_nI (by omega) (by omega)) ?_
  refine q_top (X.2.2 (i + 3)) (by rw [nI_cl (by omega)]) ?_
  refine q_aload_n dL_law_1164 rfl 5 rfl ?_
  refine q_iload dL_law_1165 1 rfl ?_
  refine q_iconst (v := 4) dL_law_1167 (by decide) ?_
  refine q_iadd dL_law_1168 ?_
  refine q_top (nI (i + 4)) (nI_add i 4) ?_
  refine q_sld dL_law_1169 (vp_in_nI (by omega) (by omega)) ?_
  refine q_top (X.2.2 (i + 4)) (by rw [nI_cl (by omega)]) ?_
  refine q_callV (st := []) [.int (X.2.2 (i + 1)), .int (X.2.2 (i + 2)), .int (X.2.2 (i + 3)), .int (X.2.2 (i + 4))] bc bs dL_law_1170 kX9_sign nX9_sign lRL_145 h31 rfl hM1 rfl rfl (Nat.le_of_ble_eq_true rfl) (Nat.le_refl _) (Nat.le_refl _) ?_
  intro r G2 hr
  obtain ⟨v2, rfl, B2, hW2, h26, hB2, h0⟩ := hr
  have h31b := hW2.g 31 0 rfl
  rw [e31] at h31b
  have h33 := hW2.g 33 0 rfl
  rw [e33] at h33
  show WL X mL_law _ _ _ _ _ _ _ 1173 [(5, .int (nI cd)), (4, .int (nI i)), (3, .ref (ad 33 0)), (2, .ref (ad 31 0)), (1, .ref (ad 0 0)), (0, .ref X.1)] [.int v2]
  refine q_istore [(6, .int v2), (5, .int (nI cd)), (4, .int (nI i)), (3, .ref (ad 33 0)), (2, .ref (ad 31 0)), (1, .ref (ad 0 0)), (0, .ref X.1)] dL_law_1173 (by decide) rfl ?_
  refine q_aload_n dL_law_1175 rfl 4 rfl ?_
  have ht := c_X9_thrown (d := 9) (b0 := b0) hW2
  rw [e31, h26] at ht
  refine q_callV (st := []) [] bc bs dL_law_1176 kX9_thrown nX9_thrown lRL_88 h31b rfl ht rfl rfl (Nat.le_of_ble_eq_true rfl) (Nat.le_refl _) (Nat.le_refl _) ?_
  refine ql_det (st2 := [.int (nI cd)]) rfl ?_
  refine q_iload dL_law_1179 1 rfl ?_
  refine q_icmp_eq 1186 dL_law_1181 (by decide) (fun _ => ?_) (fun c9 => absurd rfl c9)
  refine q_iload dL_law_1186 1 rfl ?_
  refine q_if_ne 1203 dL_law_1188 (by decide) (fun c_2 => ?_) (fun c_2 => ?_)
  · refine q_goto 1446 dL_law_1203 (by decide) ?_
    exact WL.loc [2, 3, 4, 5, 6] rfl (K.use hW2 hA1 hB2 hIs hP1 e0 e31 e33)
  · have hcd : cd = 0 := ni_eq (b := 0) (by omega) (by decide) c_2
    have h40v : nI (B2 40 0) = v2 := by rw [(h0 hcd).2, n32_s, (h0 hcd).1]
    refine q_aload_n dL_law_1191 rfl 3 rfl ?_
    refine q_iconst (v := 0) dL_law_1192 (by decide) ?_
    refine q_lald dL_law_1193 h33 (show vp_in (nI 0) 1 from vp_in_nI (by decide) (by decide)) ?_
    refine q_iload dL_law_1194 0 rfl ?_
    refine q_i2l dL_law_1196 ?_
    refine q_lcmp dL_law_1197 ?_
    have hcmp : lg_cmp (nI (B2 40 0)).toInt64 v2.toInt64 = 0 := by rw [h40v]; exact cmp_self _
    refine q_if_eq 1203 dL_law_1198 (by decide) (fun _ => ?_) (fun c9 => absurd hcmp c9)
    refine q_goto 1446 dL_law_1203 (by decide) ?_
    exact WL.loc [2, 3, 4, 5, 6] rfl (K.use hW2 hA1 hB2 hIs hP1 e0 e31 e33)
set_option maxRecDepth 100000 in
set_option maxHeartbeats 4000000 in
theorem la_signAnew {X : SX} {b0 : Nat} {Po : Option Value → GH → Prop} {Px : String → GH → Prop} {bc bs i : Nat} {C : ST} {ad : AD} {G : GH} (hW : World C C ad G) (hI : Inv C) (hP : Pag C) (hi : i + 5 ≤ X.2.1) (hX : X.2.1 ≤ 2560) (K : LK X b0 Po Px bc bs i) : WL X mL_law 10 b0 Po Px G (bc + 20) (bs + 400) 1206 [(4, .int (nI i)), (3, .ref (ad 33 0)), (2, .ref (ad 31 0)), (1, .ref (ad 0 0)), (0, .ref X.1)] [] := by
  obtain ⟨cd, v, st, h4, hIs, hQ, hL, hM⟩ := o_signAnew (b0 := b0) hW hI hP (X.2.2 (i + 1)) (X.2.2 (i + 2)) (X.2.2 (i + 3)) (X.2.2 (i + 4))
  refine q_aload_n dL_law_1206 rfl 3 rfl ?_
  refine q_aload_n dL_law_1207 rfl 4 rfl ?_
  refine q_iload dL_law_1208 0 rfl ?_
  refine q_iconst (v := 1) dL_law_1210 (by decide) ?_
  refine q_iadd dL_law_1211 ?_
  refine q_top (nI (i + 1)) (nI_add i 1) ?_
  refine q_sld dL_law_1212 (vp_in_nI (by omega) (by omega)) ?_
  refine q_top (X.2.2 (i + 1)) (by rw [nI_cl (by omega)]) ?_
  refine q_aload_n dL_law_1213 rfl 4 rfl ?_
  refine q_iload dL_law_1214 0 rfl ?_
  refine q_iconst (v := 2) dL_law_1216 (by decide) ?_
  refine q_iadd dL_law_1217 ?_
  refine q_top (nI (i + 2)) (nI_add i 2) ?_
  refine q_sld dL_law_1218 (vp_in_nI (by omega) (by omega)) ?_
  refine q_top (X.2.2 (i + 2)) (by rw [nI_cl (by omega)]) ?_
  refine q_aload_n dL_law_1219 rfl 4 rfl ?_
  refine q_iload dL_law_1220 0 rfl ?_
  refine q_iconst (v := 3) dL_law_1222 (by decide) ?_
  refine q_iadd dL_law_1223 ?_
  refine q_top (nI (i + 3)) (nI_add i 3) ?_
  refine q_sld dL_law_1224 (vp_in_nI (by omega) (by omega)) ?_
  refine q_top (X.2.2 (i + 3)) (by rw [nI_cl (by omega)]) ?_
  refine q_aload_n dL_law_1225 rfl 4 rfl ?_
  refine q_iload dL_law_1226 0 rfl ?_
  refine q_iconst (v := 4) dL_law_1228 (by decide) ?_
  refine q_iadd dL_law_1229 ?_
  refine q_top (nI (i + 4)) (nI_add i 4) ?_
  refine q_sld dL_law_1230 (vp_in_nI (by omega) (by omega)) ?_
  refine q_top (X.2.2 (i + 4)) (by rw [nI_cl (by omega)]) ?_
  refine q_aload_n dL_law_1231 rfl 1 rfl ?_
  refine q_callSW (st := []) [.ref (ad 0 0), .int (X.2.2 (i + 1)), .int (X.2.2 (i + 2)), .int (X.2.2 (i + 3)), .int (X.2.2 (i + 4)), .ref (ad 33 0)] bc bs dL_law_1232 kL_signAnew nL_signAnew lRL_146 hL rfl rfl (Nat.le_of_ble_eq_true rfl) (Nat.le_refl _) (Nat.le_refl _) ?_
  intro r G1 hr
  obtain ⟨rfl, A1, B1, ad1, hW1, hk1, hP1, hA1, hB1, h40⟩ := hr
  have e0 : ad1 0 0 = ad 0 0 := hk1 0 0 rfl
  have e31 : ad1 31 0 = ad 31 0 := hk1 31 0 rfl
  have e33 : ad1 33 0 = ad 33 0 := hk1 33 0 rfl
  have h31 := hW1.g 31 0 rfl
  rw [e31] at h31
  have hM1 := hM A1 B1 ad1 G1 hW1 hB1 h40
  rw [e31] at hM1
  show WL X mL_law _ _ _ _ _ _ _ 1235 [(4, .int (nI i)), (3, .ref (ad 33 0)), (2, .ref (ad 31 0)), (1, .ref (ad 0 0)), (0, .ref X.1)] [.int (nI cd)]
  refine q_istore [(5, .int (nI cd)), (4, .int (nI i)), (3, .ref (ad 33 0)), (2, .ref (ad 31 0)), (1, .ref (ad 0 0)), (0, .ref X.1)] dL_law_1235 (by decide) rfl ?_
  refine q_aload_n dL_law_1237 rfl 3 rfl ?_
  refine q_aload_n dL_law_1238 rfl 5 rfl ?_
  refine q_iload dL_law_1239 1 rfl ?_
  refine q_iconst (v := 1) dL_law_1241 (by decide) ?_
  refine q_iadd dL_law_1242 ?_
  refine q_top (nI (i + 1)) (nI_add i 1) ?_
  refine q_sld dL_law_1243 (vp_in_nI (by omega) (by omega)) ?_
  refine q_top (X.2.2 (i + 1)) (by rw [nI_cl (by omega)]) ?_
  refine q_aload_n dL_law_1244 rfl 5 rfl ?_
  refine q_iload dL_law_1245 1 rfl ?_
  refine q_iconst (v := 2) dL_law_1247 (by decide) ?_
  refine q_iadd dL_law_1248 ?_
  refine q_top (nI (i + 2)) (nI_add i 2) ?_
  refine q_sld dL_law_1249 (vp_in_nI (by omega) (by omega)) ?_
  refine q_top (X.2.2 (i + 2)) (by rw [nI_cl (by omega)]) ?_
  refine q_aload_n dL_law_1250 rfl 5 rfl ?_
  refine q_iload dL_law_1251 1 rfl ?_
  refine q_iconst (v := 3) dL_law_1253 (by decide) ?_
  refine q_iadd dL_law_1254 ?_
  refine q_top (nI (i + 3)) (nI_add i 3) ?_
  refine q_sld dL_law_1255 (vp_in_nI (by omega) (by omega)) ?_
  refine q_top (X.2.2 (i + 3)) (by rw [nI_cl (by omega)]) ?_
  refine q_aload_n dL_law_1256 rfl 5 rfl ?_
  refine q_iload dL_law_1257 1 rfl ?_
  refine q_iconst (v := 4) dL_law_1259 (by decide) ?_
  refine q_iadd dL_law_1260 ?_
  refine q_top (nI (i + 4)) (nI_add i 4) ?_
  refine q_sld dL_law_1261 (vp_in_nI (by omega) (by omega)) ?_
  refine q_top (X.2.2 (i + 4)) (by rw [nI_cl (by omega)]) ?_
  refine q_callV (st := []) [.int (X.2.2 (i + 1)), .int (X.2.2 (i + 2)), .int (X.2.2 (i + 3)), .int (X.2.2 (i + 4))] bc bs dL_law_1262 kX9_signAnew nX9_signAnew lRL_148 h31 rfl hM1 rfl rfl (Nat.le_of_ble_eq_true rfl) (Nat.le_refl _) (Nat.le_refl _) ?_
  intro r G2 hr
  obtain ⟨v2, rfl, B2, hW2, h26, hB2, h0⟩ := hr
  have h31b := hW2.g 31 0 rfl
  rw [e31] at h31b
  have h33 := hW2.g 33 0 rfl
  rw [e33] at h33
  show WL X mL_law _ _ _ _ _ _ _ 1265 [(5, .int (nI cd)), (4, .int (nI i)), (3, .ref (ad 33 0)), (2, .ref (ad 31 0)), (1, .ref (ad 0 0)), (0, .ref X.1)] [.int v2]
  refine q_istore [(6, .int v2), (5, .int (nI cd)), (4, .int (nI i)), (3, .ref (ad 33 0)), (2, .ref (ad 31 0)), (1, .ref (ad 0 0)), (0, .ref X.1)] dL_law_1265 (by decide) rfl ?_
  refine q_aload_n dL_law_1267 rfl 4 rfl ?_
  have ht := c_X9_thrown (d := 9) (b0 := b0) hW2
  rw [e31, h26] at ht
  refine q_callV (st := []) [] bc bs dL_law_1268 kX9_thrown nX9_thrown lRL_88 h31b rfl ht rfl rfl (Nat.le_of_ble_eq_true rfl) (Nat.le_refl _) (Nat.le_refl _) ?_
  refine ql_det (st2 := [.int (nI cd)]) rfl ?_
  refine q_iload dL_law_1271 1 rfl ?_
  refine q_icmp_eq 1278 dL_law_1273 (by decide) (fun _ => ?_) (fun c9 => absurd rfl c9)
  refine q_iload dL_law_1278 1 rfl ?_
  refine q_if_ne 1295 dL_law_1280 (by decide) (fun c_2 => ?_) (fun c_2 => ?_)
  · refine q_goto 1446 dL_law_1295 (by decide) ?_
    exact WL.loc [2, 3, 4, 5, 6] rfl (K.use hW2 hA1 hB2 hIs hP1 e0 e31 e33)
  · have hcd : cd = 0 := ni_eq (b := 0) (by omega) (by decide) c_2
    have h40v : nI (B2 40 0) = v2 := by rw [(h0 hcd).2, n32_s, (h0 hcd).1]
    refine q_aload_n dL_law_1283 rfl 3 rfl ?_
    refine q_iconst (v := 0) dL_law_1284 (by decide) ?_
    refine q_lald dL_law_1285 h33 (show vp_in (nI 0) 1 from vp_in_nI (by decide) (by decide)) ?_
    refine q_iload dL_law_1286 0 rfl ?_
    refine q_i2l dL_law_1288 ?_
    refine q_lcmp dL_law_1289 ?_
    have hcmp : lg_cmp (nI (B2 40 0)).toInt64 v2.toInt64 = 0 := by rw [h40v]; exact cmp_self _
    refine q_if_eq 1295 dL_law_1290 (by decide) (fun _ => ?_) (fun c9 => absurd hcmp c9)
    refine q_goto 1446 dL_law_1295 (by decide) ?_
    exact WL.loc [2, 3, 4, 5, 6] rfl (K.use hW2 hA1 hB2 hIs hP1 e0 e31 e33)
set_option maxRecDepth 100000 in
set_option maxHeartbeats 4000000 in
theorem la_costs {X : SX} {b0 : Nat} {Po : Option Value → GH → Prop} {Px : String → GH → Prop} {bc bs i : Nat} {C : ST} {ad : AD} {G : GH} (hW : World C C ad G) (hI : Inv C) (hP : Pag C) (hi : i + 5 ≤ X.2.1) (hX : X.2.1 ≤ 2560) (K : LK X b0 Po Px bc bs i) : WL X mL_law 10 b0 Po Px G (bc + 20) (bs + 400) 1298 [(4, .int (nI i)), (3, .ref (ad 33 0)), (2, .ref (ad 31 0)), (1, .ref (ad 0 0)), (0, .ref X.1)] [] := by
  obtain ⟨cd, v, st, h4, hIs, hQ, hL, hM⟩ := o_costs (b0 := b0) hW hI hP (X.2.2 (i + 1)) (X.2.2 (i + 2)) (X.2.2 (i + 3))
  refine q_aload_n dL_law_1298 rfl 3 rfl ?_
  refine q_aload_n dL_law_1299 rfl 4 rfl ?_
  refine q_iload dL_law_1300 0 rfl ?_
  refine q_iconst (v := 1) dL_law_1302 (by decide) ?_
  refine q_iadd dL_law_1303 ?_
  refine q_top (nI (i + 1)) (nI_add i 1) ?_
  refine q_sld dL_law_1304 (vp_in_nI (by omega) (by omega)) ?_
  refine q_top (X.2.2 (i + 1)) (by rw [nI_cl (by omega)]) ?_
  refine q_aload_n dL_law_1305 rfl 4 rfl ?_
  refine q_iload dL_law_1306 0 rfl ?_
  refine q_iconst (v := 2) dL_law_1308 (by decide) ?_
  refine q_iadd dL_law_1309 ?_
  refine q_top (nI (i + 2)) (nI_add i 2) ?_
  refine q_sld dL_law_1310 (vp_in_nI (by omega) (by omega)) ?_
  refine q_top (X.2.2 (i + 2)) (by rw [nI_cl (by omega)]) ?_
  refine q_aload_n dL_law_1311 rfl 4 rfl ?_
  refine q_iload dL_law_1312 0 rfl ?_
  refine q_iconst (v := 3) dL_law_1314 (by decide) ?_
  refine q_iadd dL_law_1315 ?_
  refine q_top (nI (i + 3)) (nI_add i 3) ?_
  refine q_sld dL_law_1316 (vp_in_nI (by omega) (by omega)) ?_
  refine q_top (X.2.2 (i + 3)) (by rw [nI_cl (by omega)]) ?_
  refine q_aload_n dL_law_1317 rfl 1 rfl ?_
  refine q_callSW (st := []) [.ref (ad 0 0), .int (X.2.2 (i + 1)), .int (X.2.2 (i + 2)), .int (X.2.2 (i + 3)), .ref (ad 33 0)] bc bs dL_law_1318 kL_costs nL_costs lRL_149 hL rfl rfl (Nat.le_of_ble_eq_true rfl) (Nat.le_refl _) (Nat.le_refl _) ?_
  intro r G1 hr
  obtain ⟨rfl, A1, B1, ad1, hW1, hk1, hP1, hA1, hB1, h40⟩ := hr
  have e0 : ad1 0 0 = ad 0 0 := hk1 0 0 rfl
  have e31 : ad1 31 0 = ad 31 0 := hk1 31 0 rfl
  have e33 : ad1 33 0 = ad 33 0 := hk1 33 0 rfl
  have h31 := hW1.g 31 0 rfl
  rw [e31] at h31
  have hM1 := hM A1 B1 ad1 G1 hW1 hB1 h40
  rw [e31] at hM1
  show WL X mL_law _ _ _ _ _ _ _ 1321 [(4, .int (nI i)), (3, .ref (ad 33 0)), (2, .ref (ad 31 0)), (1, .ref (ad 0 0)), (0, .ref X.1)] [.int (nI cd)]
  refine q_istore [(5, .int (nI cd)), (4, .int (nI i)), (3, .ref (ad 33 0)), (2, .ref (ad 31 0)), (1, .ref (ad 0 0)), (0, .ref X.1)] dL_law_1321 (by decide) rfl ?_
  refine q_aload_n dL_law_1323 rfl 3 rfl ?_
  refine q_aload_n dL_law_1324 rfl 5 rfl ?_
  refine q_iload dL_law_1325 1 rfl ?_
  refine q_iconst (v := 1) dL_law_1327 (by decide) ?_
  refine q_iadd dL_law_1328 ?_
  refine q_top (nI (i + 1)) (nI_add i 1) ?_
  refine q_sld dL_law_1329 (vp_in_nI (by omega) (by omega)) ?_
  refine q_top (X.2.2 (i + 1)) (by rw [nI_cl (by omega)]) ?_
  refine q_aload_n dL_law_1330 rfl 5 rfl ?_
  refine q_iload dL_law_1331 1 rfl ?_
  refine q_iconst (v := 2) dL_law_1333 (by decide) ?_
  refine q_iadd dL_law_1334 ?_
  refine q_top (nI (i + 2)) (nI_add i 2) ?_
  refine q_sld dL_law_1335 (vp_in_nI (by omega) (by omega)) ?_
  refine q_top (X.2.2 (i + 2)) (by rw [nI_cl (by omega)]) ?_
  refine q_aload_n dL_law_1336 rfl 5 rfl ?_
  refine q_iload dL_law_1337 1 rfl ?_
  refine q_iconst (v := 3) dL_law_1339 (by decide) ?_
  refine q_iadd dL_law_1340 ?_
  refine q_top (nI (i + 3)) (nI_add i 3) ?_
  refine q_sld dL_law_1341 (vp_in_nI (by omega) (by omega)) ?_
  refine q_top (X.2.2 (i + 3)) (by rw [nI_cl (by omega)]) ?_
  refine q_callV (st := []) [.int (X.2.2 (i + 1)), .int (X.2.2 (i + 2)), .int (X.2.2 (i + 3))] bc bs dL_law_1342 kX9_costs nX9_costs lRL_151 h31 rfl hM1 rfl rfl (Nat.le_of_ble_eq_true rfl) (Nat.le_refl _) (Nat.le_refl _) ?_
  intro r G2 hr
  obtain ⟨v2, rfl, B2, hW2, h26, hB2, h0⟩ := hr
  have h31b := hW2.g 31 0 rfl
  rw [e31] at h31b
  have h33 := hW2.g 33 0 rfl
  rw [e33] at h33
  show WL X mL_law _ _ _ _ _ _ _ 1345 [(5, .int (nI cd)), (4, .int (nI i)), (3, .ref (ad 33 0)), (2, .ref (ad 31 0)), (1, .ref (ad 0 0)), (0, .ref X.1)] [.int v2]
  refine q_istore [(6, .int v2), (5, .int (nI cd)), (4, .int (nI i)), (3, .ref (ad 33 0)), (2, .ref (ad 31 0)), (1, .ref (ad 0 0)), (0, .ref X.1)] dL_law_1345 (by decide) rfl ?_
  refine q_aload_n dL_law_1347 rfl 4 rfl ?_
  have ht := c_X9_thrown (d := 9) (b0 := b0) hW2
  rw [e31, h26] at ht
  refine q_callV (st := []) [] bc bs dL_law_1348 kX9_thrown nX9_thrown lRL_88 h31b rfl ht rfl rfl (Nat.le_of_ble_eq_true rfl) (Nat.le_refl _) (Nat.le_refl _) ?_
  refine ql_det (st2 := [.int (nI cd)]) rfl ?_
  refine q_iload dL_law_1351 1 rfl ?_
  refine q_icmp_eq 1358 dL_law_1353 (by decide) (fun _ => ?_) (fun c9 => absurd rfl c9)
  refine q_iload dL_law_1358 1 rfl ?_
  refine q_if_ne 1375 dL_law_1360 (by decide) (fun c_2 => ?_) (fun c_2 => ?_)
  · refine q_goto 1446 dL_law_1375 (by decide) ?_
    exact WL.loc [2, 3, 4, 5, 6] rfl (K.use hW2 hA1 hB2 hIs hP1 e0 e31 e33)
  · have hcd : cd = 0 := ni_eq (b := 0) (by omega) (by decide) c_2
    have h40v : nI (B2 40 0) = v2 := by rw [(h0 hcd).2, n32_s, (h0 hcd).1]
    refine q_aload_n dL_law_1363 rfl 3 rfl ?_
    refine q_iconst (v := 0) dL_law_1364 (by decide) ?_
    refine q_lald dL_law_1365 h33 (show vp_in (nI 0) 1 from vp_in_nI (by decide) (by decide)) ?_
    refine q_iload dL_law_1366 0 rfl ?_
    refine q_i2l dL_law_1368 ?_
    refine q_lcmp dL_law_1369 ?_
    have hcmp : lg_cmp (nI (B2 40 0)).toInt64 v2.toInt64 = 0 := by rw [h40v]; exact cmp_self _
    refine q_if_eq 1375 dL_law_1370 (by decide) (fun _ => ?_) (fun c9 => absurd hcmp c9)
    refine q_goto 1446 dL_law_1375 (by decide) ?_
    exact WL.loc [2, 3, 4, 5, 6] rfl (K.use hW2 hA1 hB2 hIs hP1 e0 e31 e33)
set_option maxRecDepth 100000 in
set_option maxHeartbeats 4000000 in
theorem la_sample {X : SX} {b0 : Nat} {Po : Option Value → GH → Prop} {Px : String → GH → Prop} {bc bs i : Nat} {C : ST} {ad : AD} {G : GH} (hW : World C C ad G) (hI : Inv C) (hP : Pag C) (hi : i + 5 ≤ X.2.1) (hX : X.2.1 ≤ 2560) (K : LK X b0 Po Px bc bs i) : WL X mL_law 10 b0 Po Px G (bc + 20) (bs + 400) 1378 [(4, .int (nI i)), (3, .ref (ad 33 0)), (2, .ref (ad 31 0)), (1, .ref (ad 0 0)), (0, .ref X.1)] [] := by
  obtain ⟨cd, v, st, h4, hIs, hQ, hL, hM⟩ := o_sample (b0 := b0) hW hI hP (X.2.2 (i + 1)) (X.2.2 (i + 2))
  refine q_aload_n dL_law_1378 rfl 3 rfl ?_
  refine q_aload_n dL_law_1379 rfl 4 rfl ?_
  refine q_iload dL_law_1380 0 rfl ?_
  refine q_iconst (v := 1) dL_law_1382 (by decide) ?_
  refine q_iadd dL_law_1383 ?_
  refine q_top (nI (i + 1)) (nI_add i 1) ?_
  refine q_sld dL_law_1384 (vp_in_nI (by omega) (by omega)) ?_
  refine q_top (X.2.2 (i + 1)) (by rw [nI_cl (by omega)]) ?_
  refine q_aload_n dL_law_1385 rfl 4 rfl ?_
  refine q_iload dL_law_1386 0 rfl ?_
  refine q_iconst (v := 2) dL_law_1388 (by decide) ?_
  refine q_iadd dL_law_1389 ?_
  refine q_top (nI (i + 2)) (nI_add i 2) ?_
  refine q_sld dL_law_1390 (vp_in_nI (by omega) (by omega)) ?_
  refine q_top (X.2.2 (i + 2)) (by rw [nI_cl (by omega)]) ?_
  refine q_aload_n dL_law_1391 rfl 1 rfl ?_
  refine q_callSW (st := []) [.ref (ad 0 0), .int (X.2.2 (i + 1)), .int (X.2.2 (i + 2)), .ref (ad 33 0)] bc bs dL_law_1392 kL_sample nL_sample lRL_152 hL rfl rfl (Nat.le_of_ble_eq_true rfl) (Nat.le_refl _) (Nat.le_refl _) ?_
  intro r G1 hr
  obtain ⟨rfl, A1, B1, ad1, hW1, hk1, hP1, hA1, hB1, h40⟩ := hr
  have e0 : ad1 0 0 = ad 0 0 := hk1 0 0 rfl
  have e31 : ad1 31 0 = ad 31 0 := hk1 31 0 rfl
  have e33 : ad1 33 0 = ad 33 0 := hk1 33 0 rfl
  have h31 := hW1.g 31 0 rfl
  rw [e31] at h31
  have hM1 := hM A1 B1 ad1 G1 hW1 hB1 h40
  rw [e31] at hM1
  show WL X mL_law _ _ _ _ _ _ _ 1395 [(4, .int (nI i)), (3, .ref (ad 33 0)), (2, .ref (ad 31 0)), (1, .ref (ad 0 0)), (0, .ref X.1)] [.int (nI cd)]
  refine q_istore [(5, .int (nI cd)), (4, .int (nI i)), (3, .ref (ad 33 0)), (2, .ref (ad 31 0)), (1, .ref (ad 0 0)), (0, .ref X.1)] dL_law_1395 (by decide) rfl ?_
  refine q_aload_n dL_law_1397 rfl 3 rfl ?_
  refine q_aload_n dL_law_1398 rfl 5 rfl ?_
  refine q_iload dL_law_1399 1 rfl ?_
  refine q_iconst (v := 1) dL_law_1401 (by decide) ?_
  refine q_iadd dL_law_1402 ?_
  refine q_top (nI (i + 1)) (nI_add i 1) ?_
  refine q_sld dL_law_1403 (vp_in_nI (by omega) (by omega)) ?_
  refine q_top (X.2.2 (i + 1)) (by rw [nI_cl (by omega)]) ?_
  refine q_aload_n dL_law_1404 rfl 5 rfl ?_
  refine q_iload dL_law_1405 1 rfl ?_
  refine q_iconst (v := 2) dL_law_1407 (by decide) ?_
  refine q_iadd dL_law_1408 ?_
  refine q_top (nI (i + 2)) (nI_add i 2) ?_
  refine q_sld dL_law_1409 (vp_in_nI (by omega) (by omega)) ?_
  refine q_top (X.2.2 (i + 2)) (by rw [nI_cl (by omega)]) ?_
  refine q_callV (st := []) [.int (X.2.2 (i + 1)), .int (X.2.2 (i + 2))] bc bs dL_law_1410 kX9_sample nX9_sample lRL_154 h31 rfl hM1 rfl rfl (Nat.le_of_ble_eq_true rfl) (Nat.le_refl _) (Nat.le_refl _) ?_
  intro r G2 hr
  obtain ⟨v2, rfl, B2, hW2, h26, hB2, h0⟩ := hr
  have h31b := hW2.g 31 0 rfl
  rw [e31] at h31b
  have h33 := hW2.g 33 0 rfl
  rw [e33] at h33
  show WL X mL_law _ _ _ _ _ _ _ 1413 [(5, .int (nI cd)), (4, .int (nI i)), (3, .ref (ad 33 0)), (2, .ref (ad 31 0)), (1, .ref (ad 0 0)), (0, .ref X.1)] [.int v2]
  refine q_istore [(6, .int v2), (5, .int (nI cd)), (4, .int (nI i)), (3, .ref (ad 33 0)), (2, .ref (ad 31 0)), (1, .ref (ad 0 0)), (0, .ref X.1)] dL_law_1413 (by decide) rfl ?_
  refine q_aload_n dL_law_1415 rfl 4 rfl ?_
  have ht := c_X9_thrown (d := 9) (b0 := b0) hW2
  rw [e31, h26] at ht
  refine q_callV (st := []) [] bc bs dL_law_1416 kX9_thrown nX9_thrown lRL_88 h31b rfl ht rfl rfl (Nat.le_of_ble_eq_true rfl) (Nat.le_refl _) (Nat.le_refl _) ?_
  refine ql_det (st2 := [.int (nI cd)]) rfl ?_
  refine q_iload dL_law_1419 1 rfl ?_
  refine q_icmp_eq 1426 dL_law_1421 (by decide) (fun _ => ?_) (fun c9 => absurd rfl c9)
  refine q_iload dL_law_1426 1 rfl ?_
  refine q_if_ne 1443 dL_law_1428 (by decide) (fun c_2 => ?_) (fun c_2 => ?_)
  · refine q_goto 1446 dL_law_1443 (by decide) ?_
    exact WL.loc [2, 3, 4, 5, 6] rfl (K.use hW2 hA1 hB2 hIs hP1 e0 e31 e33)
  · have hcd : cd = 0 := ni_eq (b := 0) (by omega) (by decide) c_2
    have h40v : nI (B2 40 0) = v2 := by rw [(h0 hcd).2, n32_s, (h0 hcd).1]
    refine q_aload_n dL_law_1431 rfl 3 rfl ?_
    refine q_iconst (v := 0) dL_law_1432 (by decide) ?_
    refine q_lald dL_law_1433 h33 (show vp_in (nI 0) 1 from vp_in_nI (by decide) (by decide)) ?_
    refine q_iload dL_law_1434 0 rfl ?_
    refine q_i2l dL_law_1436 ?_
    refine q_lcmp dL_law_1437 ?_
    have hcmp : lg_cmp (nI (B2 40 0)).toInt64 v2.toInt64 = 0 := by rw [h40v]; exact cmp_self _
    refine q_if_eq 1443 dL_law_1438 (by decide) (fun _ => ?_) (fun c9 => absurd hcmp c9)
    refine q_goto 1446 dL_law_1443 (by decide) ?_
    exact WL.loc [2, 3, 4, 5, 6] rfl (K.use hW2 hA1 hB2 hIs hP1 e0 e31 e33)
