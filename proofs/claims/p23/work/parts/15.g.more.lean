set_option maxRecDepth 100000 in
set_option maxHeartbeats 4000000 in
theorem c_X6_take {d b0 : Nat} {G : GH} {a s arr len b brr bcap blen : Nat} {f g : Nat → Int32} {o : Int32} (h : TP G a s arr len f o) (h2 : SG G b brr bcap blen g) (hab : s ≠ b) (hrr : arr ≠ brr) (hg : ∀ k, k < blen → isC (g k)) (hle : blen ≤ 60) : CTd mX6_take (d + 2) b0 G [.ref a, .ref b] 0 0 none (va_up (va_up (va_up G arr (some (chA 60 (cpy g f blen)))) s (some (sgC arr blen))) a (some (tpC s 0))) := by
  refine CT.intro (by decide +kernel) rfl (Nat.le_of_ble_eq_true rfl) ?_
  show WP mX6_take _ _ _ _ _ 0 0 0 [(0, .ref a), (1, .ref b)] []
  refine r_aload_n dX6_take_0 rfl 0 rfl ?_
  refine r_get 0 dX6_take_1 fRX6_14 h.1 rfl ?_
  refine r_aload_n dX6_take_4 rfl 1 rfl ?_
  refine r_callV (st := []) [.ref b] 0 0 dX6_take_5 kX5_take nX5_take lRX6_28 h.2.1 rfl (c_X5_take h.2 h2 hab hrr hg hle) rfl rfl (Nat.le_of_ble_eq_true rfl) (Nat.le_refl _) (Nat.le_refl _) (fun _ _ h => h.elim) ?_
  refine cx_det (st2 := []) rfl ?_
  have hG_1 := up_n (e := some (chA 60 (cpy g f blen))) (cx_ne h.1 h.2.2.1 (by simp)) h.1
  have hG_2 := up_n (e := some (chA 60 (cpy g f blen))) (cx_ne h.2.1 h.2.2.1 (by simp)) h.2.1
  have hG_3 : (va_up G arr (some (chA 60 (cpy g f blen)))) arr = some (chA 60 (cpy g f blen)) := up_s
  have hG_4 := up_n (e := some (sgC arr blen)) (cx_ne hG_1 hG_2 (by simp)) hG_1
  have hG_5 := up_n (e := some (sgC arr blen)) (cx_ne hG_3 hG_2 (by simp)) hG_3
  have hG_6 : (va_up (va_up G arr (some (chA 60 (cpy g f blen)))) s (some (sgC arr blen))) s = some (sgC arr blen) := up_s
  refine r_aload_n dX6_take_8 rfl 0 rfl ?_
  refine r_iconst (v := 0) dX6_take_9 (by decide) ?_
  refine r_put 1 (.boolean) dX6_take_10 gRX6_24 hG_4 (Nat.le_of_ble_eq_true rfl) rfl rfl ?_
  have hG_7 := up_n (e := some (.inr (6, [.ref s, .int 0]))) (cx_ne hG_6 hG_4 (by simp)) hG_6
  have hG_8 := up_n (e := some (.inr (6, [.ref s, .int 0]))) (cx_ne hG_5 hG_4 (by simp)) hG_5
  have hG_9 : (va_up (va_up (va_up G arr (some (chA 60 (cpy g f blen)))) s (some (sgC arr blen))) a (some (.inr (6, [.ref s, .int 0])))) a = some (.inr (6, [.ref s, .int 0])) := up_s
  refine r_heap (G' := (va_up (va_up (va_up G arr (some (chA 60 (cpy g f blen)))) s (some (sgC arr blen))) a (some (.inr (6, [.ref s, .int 0]))))) rfl ?_
  refine r_vret dX6_take_13 rfl ?_
  exact ⟨rfl, rfl⟩
set_option maxRecDepth 100000 in
set_option maxHeartbeats 4000000 in
theorem c_fault_0 {d b0 : Nat} {G : GH} {A B : ST} {ad : AD} (hW : World A B ad G) (hI : Inv A) (hP : Pag A)  : CT mX8_fault (d + 8) b0 G [.ref (ad 0 0)] 20 400 (OPo (ffS (rg A 1 0 60) (A 0 0)) A B ad A) (fun _ _ => False) := by
  have hb0 := hI.b0
  have hb2 := hI.b2
  have hb9 := hI.b9
  have hb15 := hI.b15
  have hb18 := hI.b18
  refine CT.intro (by decide +kernel) rfl (Nat.le_of_ble_eq_true rfl) ?_
  show WP mX8_fault _ _ _ _ _ 20 400 0 [(0, .ref (ad 0 0))] []
  refine r_aload_n dX8_fault_0 rfl 0 rfl ?_
  refine r_get 0 dX8_fault_1 fRX8_14 (hW.g 0 0 rfl) rfl ?_
  refine r_callS (st := []) [.ref (ad 1 0)] 20 400 dX8_fault_4 kX8_firstFault nX8_firstFault lRX8_137 (c_X8_firstFault (sgb hW hb0) (fun k _ => rg_C hI.ch.1 k)) rfl rfl (Nat.le_of_ble_eq_true rfl) (Nat.le_refl _) (Nat.le_refl _) (fun _ _ h => h.elim) ?_
  refine cx_det (st2 := [.int (ffS (rg A 1 0 60) (A 0 0))]) rfl ?_
  refine r_ireti dX8_fault_7 rfl ?_
  exact ⟨rfl, A, ad, hW, fun _ _ _ => rfl, hP, fun f hf => rfl⟩
set_option maxRecDepth 100000 in
set_option maxHeartbeats 4000000 in
theorem c_text_0 {d b0 : Nat} {G : GH} {A B : ST} {ad : AD} (hW : World A B ad G) (hI : Inv A) (hP : Pag A) {c l : Nat} (hc : c < A 9 0) (hl : l < 3) (hff : ffS (rg A 1 0 60) (A 0 0) = -1) : CT mX8_text (d + 8) b0 G [.ref (ad 0 0), .int (nI c), .int (nI l)] 20 400 (OPo (nI (cntB (slB (rg A 1 0 60) (A 0 0)) (A 0 0))) (setA (setA (setA (cpyA A 11 (60 * (3 * c + l)) (A 0 0)) 12 (3 * c + l) (A 0 0)) 13 (3 * c + l) 0) 0 0 0) B ad A) (fun _ _ => False) := by
  have hb0 := hI.b0
  have hb2 := hI.b2
  have hb9 := hI.b9
  have hb15 := hI.b15
  have hb18 := hI.b18
  have ht : 3 * c + l < 3 * A 9 0 := by omega
  refine CT.intro (by decide +kernel) rfl (Nat.le_of_ble_eq_true rfl) ?_
  show WP mX8_text _ _ _ _ _ 20 400 0 [(0, .ref (ad 0 0)), (1, .int (nI c)), (2, .int (nI l))] []
  refine r_aload_n dX8_text_0 rfl 0 rfl ?_
  refine r_iload_n dX8_text_1 rfl 1 rfl ?_
  refine r_iload_n dX8_text_2 rfl 2 rfl ?_
  refine r_callV (st := []) [.int (nI c), .int (nI l)] 20 400 dX8_text_3 kX8_templateAt nX8_templateAt lRX8_131 (hW.g 0 0 rfl) rfl (c_X8_templateAt_t hW hI hc hl) rfl rfl (Nat.le_of_ble_eq_true rfl) (Nat.le_refl _) (Nat.le_refl _) (fun _ _ h => h.elim) ?_
  refine cx_det (st2 := [.ref (ad 24 (3 * c + l))]) rfl ?_
  refine r_astore_n [(3, .ref (ad 24 (3 * c + l))), (0, .ref (ad 0 0)), (1, .int (nI c)), (2, .int (nI l))] dX8_text_6 rfl (by decide) rfl ?_
  refine r_aload_n dX8_text_7 rfl 0 rfl ?_
  refine r_ifnonnullR 21 dX8_text_8 (by decide) ?_
  refine r_aload_n dX8_text_21 rfl 1 rfl ?_
  refine r_get 0 dX8_text_22 fRX8_14 (hW.g 0 0 rfl) rfl ?_
  refine r_callS (st := []) [.ref (ad 1 0)] 20 400 dX8_text_25 kX8_firstFault nX8_firstFault lRX8_137 (c_X8_firstFault (sgb hW hb0) (fun k _ => rg_C hI.ch.1 k)) rfl rfl (Nat.le_of_ble_eq_true rfl) (Nat.le_refl _) (Nat.le_refl _) (fun _ _ h => h.elim) ?_
  refine cx_det (st2 := [.int (ffS (rg A 1 0 60) (A 0 0))]) rfl ?_
  refine r_iconst (v := (-1)) dX8_text_28 (by decide) ?_
  refine r_icmp_eq 42 dX8_text_29 (by decide) (fun c_1 => ?_) (fun c_1 => absurd hff c_1)
  refine r_aload_n dX8_text_42 rfl 0 rfl ?_
  refine r_aload_n dX8_text_43 rfl 1 rfl ?_
  refine r_get 0 dX8_text_44 fRX8_14 (hW.g 0 0 rfl) rfl ?_
  refine r_callV (st := []) [.ref (ad 1 0)] 20 400 dX8_text_47 kX6_take nX6_take lRX8_142 (hW.g 24 (3 * c + l) ht) rfl (c_X6_take (tp24 hW hI ht) (sgb hW hb0) (hW.ne 25 _ 1 0 ht rfl (Or.inl (by decide))) (hW.ne 26 _ 2 0 ht rfl (Or.inl (by decide))) (fun k _ => rg_C hI.ch.1 k) hb0) rfl rfl (Nat.le_of_ble_eq_true rfl) (Nat.le_refl _) (Nat.le_refl _) (fun _ _ h => h.elim) ?_
  refine cx_det (st2 := []) rfl ?_
  have hWa := w_tx1 hW ht hb0
  have hWb := w_tx0 (n := A 0 0) hWa ht
  have hW_2 : World (setA (setA (cpyA A 11 (60 * (3 * c + l)) (A 0 0)) 12 (3 * c + l) (A 0 0)) 13 (3 * c + l) 0) B ad (va_up (va_up (va_up G (ad 26 (3 * c + l)) (some (chA 60 (cpy (rg A 1 0 60) (rg A 11 (60 * (3 * c + l)) 60) (A 0 0))))) (ad 25 (3 * c + l)) (some (sgC (ad 26 (3 * c + l)) (A 0 0)))) (ad 24 (3 * c + l)) (some (tpC (ad 25 (3 * c + l)) (nI 0)))) := w_ap hWb ht
  refine r_heap (G' := va_up (va_up (va_up G (ad 26 (3 * c + l)) (some (chA 60 (cpy (rg A 1 0 60) (rg A 11 (60 * (3 * c + l)) 60) (A 0 0))))) (ad 25 (3 * c + l)) (some (sgC (ad 26 (3 * c + l)) (A 0 0)))) (ad 24 (3 * c + l)) (some (tpC (ad 25 (3 * c + l)) (nI 0)))) rfl ?_
  refine r_aload_n dX8_text_50 rfl 1 rfl ?_
  refine r_get 0 dX8_text_51 fRX8_14 (hW_2.g 0 0 rfl) rfl ?_
  refine r_callV (st := []) [] 20 400 dX8_text_54 kX5_empty nX5_empty lRX8_76 (hW_2.g 1 0 rfl) rfl (c_X5_empty (sgb hW_2 hb0)) rfl rfl (Nat.le_of_ble_eq_true rfl) (Nat.le_refl _) (Nat.le_refl _) (fun _ _ h => h.elim) ?_
  refine cx_det (st2 := []) rfl ?_
  have hW_3 : World (setA (setA (setA (cpyA A 11 (60 * (3 * c + l)) (A 0 0)) 12 (3 * c + l) (A 0 0)) 13 (3 * c + l) 0) 0 0 0) B ad (va_up (va_up (va_up (va_up G (ad 26 (3 * c + l)) (some (chA 60 (cpy (rg A 1 0 60) (rg A 11 (60 * (3 * c + l)) 60) (A 0 0))))) (ad 25 (3 * c + l)) (some (sgC (ad 26 (3 * c + l)) (A 0 0)))) (ad 24 (3 * c + l)) (some (tpC (ad 25 (3 * c + l)) (nI 0)))) (ad 1 0) (some (sgC (ad 2 0) 0))) := w_b0 hW_2 0
  refine r_heap (G' := va_up (va_up (va_up (va_up G (ad 26 (3 * c + l)) (some (chA 60 (cpy (rg A 1 0 60) (rg A 11 (60 * (3 * c + l)) 60) (A 0 0))))) (ad 25 (3 * c + l)) (some (sgC (ad 26 (3 * c + l)) (A 0 0)))) (ad 24 (3 * c + l)) (some (tpC (ad 25 (3 * c + l)) (nI 0)))) (ad 1 0) (some (sgC (ad 2 0) 0))) rfl ?_
  refine r_aload_n dX8_text_57 rfl 0 rfl ?_
  have h12 : setA (setA (setA (cpyA A 11 (60 * (3 * c + l)) (A 0 0)) 12 (3 * c + l) (A 0 0)) 13 (3 * c + l) 0) 0 0 0 12 (3 * c + l) = A 0 0 := by
    show setA (cpyA A 11 (60 * (3 * c + l)) (A 0 0)) 12 (3 * c + l) (A 0 0) 12 (3 * c + l) = A 0 0
    exact setA_s
  have h11 : rg (setA (setA (setA (cpyA A 11 (60 * (3 * c + l)) (A 0 0)) 12 (3 * c + l) (A 0 0)) 13 (3 * c + l) 0) 0 0 0) 11 (60 * (3 * c + l)) 60 = cpy (rg A 1 0 60) (rg A 11 (60 * (3 * c + l)) 60) (A 0 0) := by
    show rg (cpyA A 11 (60 * (3 * c + l)) (A 0 0)) 11 (60 * (3 * c + l)) 60 = _
    exact rg_cpy_s hb0 hb0
  have htp := (show TP _ (ad 24 (3 * c + l)) (ad 25 (3 * c + l)) (ad 26 (3 * c + l)) _ _ _ from ⟨hW_3.g 24 (3 * c + l) ht, hW_3.g 25 (3 * c + l) ht, hW_3.g 26 (3 * c + l) ht, (by rw [h12]; exact hb0), by decide⟩)
  rw [h12, h11] at htp
  have hcc : ∀ k, k < A 0 0 → isC (cpy (rg A 1 0 60) (rg A 11 (60 * (3 * c + l)) 60) (A 0 0) k) := fun k hk => by
    dsimp only [cpy]
    rw [if_pos hk]
    exact rg_C hI.ch.1 k
  have hsl : cntB (slB (cpy (rg A 1 0 60) (rg A 11 (60 * (3 * c + l)) 60) (A 0 0)) (A 0 0)) (A 0 0) = cntB (slB (rg A 1 0 60) (A 0 0)) (A 0 0) := cntB_congr (fun k hk => by
    have e : chr (cpy (rg A 1 0 60) (rg A 11 (60 * (3 * c + l)) 60) (A 0 0)) (A 0 0) k = chr (rg A 1 0 60) (A 0 0) k := by
      unfold chr cpy
      rw [if_pos hk, if_pos hk, if_pos hk]
    unfold slB
    rw [e])
  have hsc := c_X6_slotCount (d := d + 5) (b0 := b0) htp hcc
  rw [hsl] at hsc
  refine r_callV (st := []) [] 20 400 dX8_text_58 kX6_slotCount nX6_slotCount lRX8_148 (hW_3.g 24 (3 * c + l) ht) rfl hsc rfl rfl (Nat.le_of_ble_eq_true rfl) (Nat.le_refl _) (Nat.le_refl _) (fun _ _ h => h.elim) ?_
  refine cx_det (st2 := [.int (nI (cntB (slB (rg A 1 0 60) (A 0 0)) (A 0 0)))]) rfl ?_
  refine r_ireti dX8_text_61 rfl ?_
  exact ⟨rfl, (setA (setA (setA (cpyA A 11 (60 * (3 * c + l)) (A 0 0)) 12 (3 * c + l) (A 0 0)) 13 (3 * c + l) 0) 0 0 0), ad, hW_3, fun _ _ _ => rfl, hP, fun f hf => rfl⟩
set_option maxRecDepth 100000 in
set_option maxHeartbeats 4000000 in
theorem c_text_1 {d b0 : Nat} {G : GH} {A B : ST} {ad : AD} (hW : World A B ad G) (hI : Inv A) {x y : Int32} (hx : (inB x (A 9 0) && inB y 3) = false) : CT mX8_text (d + 8) b0 G [.ref (ad 0 0), .int x, .int y] 20 400 (fun _ _ => False) (fun E G' => E = "java/lang/IndexOutOfBoundsException" ∧ G' = G) := by
  have hb0 := hI.b0
  have hb2 := hI.b2
  have hb9 := hI.b9
  have hb15 := hI.b15
  have hb18 := hI.b18
  refine CT.intro (by decide +kernel) rfl (Nat.le_of_ble_eq_true rfl) ?_
  show WP mX8_text _ _ _ _ _ 20 400 0 [(0, .ref (ad 0 0)), (1, .int x), (2, .int y)] []
  refine r_aload_n dX8_text_0 rfl 0 rfl ?_
  refine r_iload_n dX8_text_1 rfl 1 rfl ?_
  refine r_iload_n dX8_text_2 rfl 2 rfl ?_
  refine r_callV (st := []) [.int x, .int y] 20 400 dX8_text_3 kX8_templateAt nX8_templateAt lRX8_131 (hW.g 0 0 rfl) rfl (c_X8_templateAt_f hW hI hx) rfl rfl (Nat.le_of_ble_eq_true rfl) (Nat.le_refl _) (Nat.le_refl _) (fun _ _ h => h.elim) ?_
  refine cx_det (st2 := [.null]) rfl ?_
  refine r_astore_nN [(3, .null), (0, .ref (ad 0 0)), (1, .int x), (2, .int y)] dX8_text_6 rfl (by decide) rfl ?_
  refine r_aload_nN dX8_text_7 rfl 0 rfl ?_
  refine r_ifnonnullN dX8_text_8 ?_
  refine r_throw "java/lang/IndexOutOfBoundsException" "no such clause or language" dX8_text_11 dX8_text_14 dX8_text_15 dX8_text_17 dX8_text_20 rfl (by decide +kernel) t_321 t_32 (by decide +kernel) exB_at exB_ng (by decide +kernel) (by omega) (by decide) (by decide) (Nat.le_of_ble_eq_true rfl) ?_
  exact ⟨rfl, rfl⟩
set_option maxRecDepth 100000 in
set_option maxHeartbeats 4000000 in
theorem c_text_2 {d b0 : Nat} {G : GH} {A B : ST} {ad : AD} (hW : World A B ad G) (hI : Inv A) {c l : Nat} (hc : c < A 9 0) (hl : l < 3) (hff : ¬ ffS (rg A 1 0 60) (A 0 0) = -1) : CT mX8_text (d + 8) b0 G [.ref (ad 0 0), .int (nI c), .int (nI l)] 20 400 (fun _ _ => False) (fun E G' => E = "java/lang/IllegalStateException" ∧ G' = G) := by
  have hb0 := hI.b0
  have hb2 := hI.b2
  have hb9 := hI.b9
  have hb15 := hI.b15
  have hb18 := hI.b18
  have ht : 3 * c + l < 3 * A 9 0 := by omega
  refine CT.intro (by decide +kernel) rfl (Nat.le_of_ble_eq_true rfl) ?_
  show WP mX8_text _ _ _ _ _ 20 400 0 [(0, .ref (ad 0 0)), (1, .int (nI c)), (2, .int (nI l))] []
  refine r_aload_n dX8_text_0 rfl 0 rfl ?_
  refine r_iload_n dX8_text_1 rfl 1 rfl ?_
  refine r_iload_n dX8_text_2 rfl 2 rfl ?_
  refine r_callV (st := []) [.int (nI c), .int (nI l)] 20 400 dX8_text_3 kX8_templateAt nX8_templateAt lRX8_131 (hW.g 0 0 rfl) rfl (c_X8_templateAt_t hW hI hc hl) rfl rfl (Nat.le_of_ble_eq_true rfl) (Nat.le_refl _) (Nat.le_refl _) (fun _ _ h => h.elim) ?_
  refine cx_det (st2 := [.ref (ad 24 (3 * c + l))]) rfl ?_
  refine r_astore_n [(3, .ref (ad 24 (3 * c + l))), (0, .ref (ad 0 0)), (1, .int (nI c)), (2, .int (nI l))] dX8_text_6 rfl (by decide) rfl ?_
  refine r_aload_n dX8_text_7 rfl 0 rfl ?_
  refine r_ifnonnullR 21 dX8_text_8 (by decide) ?_
  refine r_aload_n dX8_text_21 rfl 1 rfl ?_
  refine r_get 0 dX8_text_22 fRX8_14 (hW.g 0 0 rfl) rfl ?_
  refine r_callS (st := []) [.ref (ad 1 0)] 20 400 dX8_text_25 kX8_firstFault nX8_firstFault lRX8_137 (c_X8_firstFault (sgb hW hb0) (fun k _ => rg_C hI.ch.1 k)) rfl rfl (Nat.le_of_ble_eq_true rfl) (Nat.le_refl _) (Nat.le_refl _) (fun _ _ h => h.elim) ?_
  refine cx_det (st2 := [.int (ffS (rg A 1 0 60) (A 0 0))]) rfl ?_
  refine r_iconst (v := (-1)) dX8_text_28 (by decide) ?_
  refine r_icmp_eq 42 dX8_text_29 (by decide) (fun c_1 => absurd c_1 hff) (fun c_1 => ?_)
  refine r_throw "java/lang/IllegalStateException" "the buffer is no text" dX8_text_32 dX8_text_35 dX8_text_36 dX8_text_38 dX8_text_41 rfl (by decide +kernel) t_212 t_31 (by decide +kernel) exS_at exS_ng (by decide +kernel) (by omega) (by decide) (by decide) (Nat.le_of_ble_eq_true rfl) ?_
  exact ⟨rfl, rfl⟩
set_option maxRecDepth 100000 in
set_option maxHeartbeats 4000000 in
theorem c_relate_0 {d b0 : Nat} {G : GH} {A B : ST} {ad : AD} (hW : World A B ad G) (hI : Inv A) (hP : Pag A) {c o k h : Nat} (hc : c < A 9 0) (ho : o < A 9 0) (hco : c ≠ o) (hk : k < 4) (hh : h < 3) : CT mX8_relate (d + 8) b0 G [.ref (ad 0 0), .int (nI c), .int (nI o), .int (nI k), .int (nI h)] 20 400 (OPo (nI (A 14 (100 * k + 10 * c + o))) (setA A 14 (100 * k + 10 * c + o) h) B ad A) (fun _ _ => False) := by
  have hb0 := hI.b0
  have hb2 := hI.b2
  have hb9 := hI.b9
  have hb15 := hI.b15
  have hb18 := hI.b18
  refine CT.intro (by decide +kernel) rfl (Nat.le_of_ble_eq_true rfl) ?_
  show WP mX8_relate _ _ _ _ _ 20 400 0 [(0, .ref (ad 0 0)), (1, .int (nI c)), (2, .int (nI o)), (3, .int (nI k)), (4, .int (nI h))] []
  refine r_aload_n dX8_relate_0 rfl 0 rfl ?_
  refine r_iload_n dX8_relate_1 rfl 1 rfl ?_
  refine r_callV (st := []) [.int (nI c)] 20 400 dX8_relate_2 kX8_clauseAt nX8_clauseAt lRX8_163 (hW.g 0 0 rfl) rfl (c_X8_clauseAt_t hW hI hc) rfl rfl (Nat.le_of_ble_eq_true rfl) (Nat.le_refl _) (Nat.le_refl _) (fun _ _ h => h.elim) ?_
  refine cx_det (st2 := [.ref (ad 21 c)]) rfl ?_
  refine r_astore [(5, .ref (ad 21 c)), (0, .ref (ad 0 0)), (1, .int (nI c)), (2, .int (nI o)), (3, .int (nI k)), (4, .int (nI h))] dX8_relate_5 (by decide) rfl ?_
  refine r_aload dX8_relate_7 0 rfl ?_
  refine r_ifnullR dX8_relate_9 ?_
  refine r_aload_n dX8_relate_12 rfl 1 rfl ?_
  refine r_iload_n dX8_relate_13 rfl 3 rfl ?_
  refine r_callV (st := []) [.int (nI o)] 20 400 dX8_relate_14 kX8_clauseAt nX8_clauseAt lRX8_163 (hW.g 0 0 rfl) rfl (c_X8_clauseAt_t hW hI ho) rfl rfl (Nat.le_of_ble_eq_true rfl) (Nat.le_refl _) (Nat.le_refl _) (fun _ _ h => h.elim) ?_
  refine cx_det (st2 := [.ref (ad 21 o)]) rfl ?_
  refine r_ifnonnullR 30 dX8_relate_17 (by decide) ?_
  refine r_iload_n dX8_relate_30 rfl 2 rfl ?_
  refine r_iload_n dX8_relate_31 rfl 3 rfl ?_
  refine r_icmp_eq 54 dX8_relate_32 (by decide) (fun c_1 => absurd c_1 (fun e => hco (ni_eq (by omega) (by omega) e))) (fun c_1 => ?_)
  refine r_iload_n dX8_relate_35 rfl 4 rfl ?_
  refine r_iconst (v := 4) dX8_relate_36 (by decide) ?_
  refine r_callS (st := []) [.int (nI k), .int 4] 20 400 dX8_relate_37 kX8_isBelow nX8_isBelow lRX8_104 (c_isB (nI k) 4) rfl rfl (Nat.le_of_ble_eq_true rfl) (Nat.le_refl _) (Nat.le_refl _) (fun _ _ h => h.elim) ?_
  refine cx_det (st2 := [.int (b2i (inB (nI k) 4))]) rfl ?_
  refine r_if_eq 54 dX8_relate_40 (by decide) (fun c_2 => absurd c_2 (b2i_no (inB_k hk (by decide)))) (fun c_2 => ?_)
  refine r_iload dX8_relate_43 5 rfl ?_
  refine r_if_lt 54 dX8_relate_45 (by decide) (fun c_3 => absurd c_3 (nI_pos (by omega))) (fun c_3 => ?_)
  refine r_iload dX8_relate_48 5 rfl ?_
  refine r_iconst (v := 2) dX8_relate_50 (by decide) ?_
  refine r_icmp_le 64 dX8_relate_51 (by decide) (fun c_4 => ?_) (fun c_4 => absurd ((nI_leI (by omega) (by decide)).mpr (show h ≤ 2 by omega)) c_4)
  refine r_aload dX8_relate_64 0 rfl ?_
  refine r_iload_n dX8_relate_66 rfl 3 rfl ?_
  refine r_iload_n dX8_relate_67 rfl 4 rfl ?_
  refine r_callV (st := []) [.int (nI o), .int (nI k)] 20 400 dX8_relate_68 kX0_how nX0_how lRX8_171 (hW.g 21 c hc) rfl (c_X0_how hW hI hc (show o < 10 by omega) hk) rfl rfl (Nat.le_of_ble_eq_true rfl) (Nat.le_refl _) (Nat.le_refl _) (fun _ _ h => h.elim) ?_
  refine cx_det (st2 := [.int (nI (A 14 (100 * k + 10 * c + o)))]) rfl ?_
  refine r_istore [(6, .int (nI (A 14 (100 * k + 10 * c + o)))), (5, .ref (ad 21 c)), (0, .ref (ad 0 0)), (1, .int (nI c)), (2, .int (nI o)), (3, .int (nI k)), (4, .int (nI h))] dX8_relate_71 (by decide) rfl ?_
  refine r_aload dX8_relate_73 1 rfl ?_
  refine r_iload_n dX8_relate_75 rfl 4 rfl ?_
  refine r_iload_n dX8_relate_76 rfl 5 rfl ?_
  refine r_iload dX8_relate_77 6 rfl ?_
  refine r_callV (st := []) [.int (nI o), .int (nI k), .int (nI h)] 20 400 dX8_relate_79 kX0_setHow nX0_setHow lRX8_175 (hW.g 21 c hc) rfl (c_X0_setHow (h := h) hW hI hc (show o < 10 by omega) hk) rfl rfl (Nat.le_of_ble_eq_true rfl) (Nat.le_refl _) (Nat.le_refl _) (fun _ _ h => h.elim) ?_
  refine cx_det (st2 := []) rfl ?_
  have hW_6 : World (setA A 14 (100 * k + 10 * c + o) h) B ad (va_up G (ad 23 c) (some (inA 40 (upd (fun j => if j < 40 then nI (A 14 (100 * (j % 4) + 10 * c + j / 4)) else 0) (4 * o + k) (nI h))))) := w_ho hW hc hb9 (show o < 10 by omega) hk
  refine r_heap (G' := va_up G (ad 23 c) (some (inA 40 (upd (fun j => if j < 40 then nI (A 14 (100 * (j % 4) + 10 * c + j / 4)) else 0) (4 * o + k) (nI h))))) rfl ?_
  refine r_iload dX8_relate_82 0 rfl ?_
  refine r_ireti dX8_relate_84 rfl ?_
  exact ⟨rfl, (setA A 14 (100 * k + 10 * c + o) h), ad, hW_6, fun _ _ _ => rfl, hP, fun f hf => rfl⟩
set_option maxRecDepth 100000 in
set_option maxHeartbeats 4000000 in
theorem c_relate_1a {d b0 : Nat} {G : GH} {A B : ST} {ad : AD} (hW : World A B ad G) (hI : Inv A) {x y z u : Int32} (hx : inB x (A 9 0) = false) : CT mX8_relate (d + 8) b0 G [.ref (ad 0 0), .int x, .int y, .int z, .int u] 20 400 (fun _ _ => False) (fun E G' => E = "java/lang/IndexOutOfBoundsException" ∧ G' = G) := by
  have hb0 := hI.b0
  have hb2 := hI.b2
  have hb9 := hI.b9
  have hb15 := hI.b15
  have hb18 := hI.b18
  refine CT.intro (by decide +kernel) rfl (Nat.le_of_ble_eq_true rfl) ?_
  show WP mX8_relate _ _ _ _ _ 20 400 0 [(0, .ref (ad 0 0)), (1, .int x), (2, .int y), (3, .int z), (4, .int u)] []
  refine r_aload_n dX8_relate_0 rfl 0 rfl ?_
  refine r_iload_n dX8_relate_1 rfl 1 rfl ?_
  refine r_callV (st := []) [.int x] 20 400 dX8_relate_2 kX8_clauseAt nX8_clauseAt lRX8_163 (hW.g 0 0 rfl) rfl (c_X8_clauseAt_f hW hI hx) rfl rfl (Nat.le_of_ble_eq_true rfl) (Nat.le_refl _) (Nat.le_refl _) (fun _ _ h => h.elim) ?_
  refine cx_det (st2 := [.null]) rfl ?_
  refine r_astoreN [(5, .null), (0, .ref (ad 0 0)), (1, .int x), (2, .int y), (3, .int z), (4, .int u)] dX8_relate_5 (by decide) rfl ?_
  refine r_aloadN dX8_relate_7 0 rfl ?_
  refine r_ifnullN 20 dX8_relate_9 (by decide) ?_
  refine r_throw "java/lang/IndexOutOfBoundsException" "no such clause" dX8_relate_20 dX8_relate_23 dX8_relate_24 dX8_relate_26 dX8_relate_29 rfl (by decide +kernel) t_321 t_32 (by decide +kernel) exB_at exB_ng (by decide +kernel) (by omega) (by decide) (by decide) (Nat.le_of_ble_eq_true rfl) ?_
  exact ⟨rfl, rfl⟩
set_option maxRecDepth 100000 in
set_option maxHeartbeats 4000000 in
theorem c_relate_1b {d b0 : Nat} {G : GH} {A B : ST} {ad : AD} (hW : World A B ad G) (hI : Inv A) {c : Nat} {y z u : Int32} (hc : c < A 9 0) (hy : inB y (A 9 0) = false) : CT mX8_relate (d + 8) b0 G [.ref (ad 0 0), .int (nI c), .int y, .int z, .int u] 20 400 (fun _ _ => False) (fun E G' => E = "java/lang/IndexOutOfBoundsException" ∧ G' = G) := by
  have hb0 := hI.b0
  have hb2 := hI.b2
  have hb9 := hI.b9
  have hb15 := hI.b15
  have hb18 := hI.b18
  refine CT.intro (by decide +kernel) rfl (Nat.le_of_ble_eq_true rfl) ?_
  show WP mX8_relate _ _ _ _ _ 20 400 0 [(0, .ref (ad 0 0)), (1, .int (nI c)), (2, .int y), (3, .int z), (4, .int u)] []
  refine r_aload_n dX8_relate_0 rfl 0 rfl ?_
  refine r_iload_n dX8_relate_1 rfl 1 rfl ?_
  refine r_callV (st := []) [.int (nI c)] 20 400 dX8_relate_2 kX8_clauseAt nX8_clauseAt lRX8_163 (hW.g 0 0 rfl) rfl (c_X8_clauseAt_t hW hI hc) rfl rfl (Nat.le_of_ble_eq_true rfl) (Nat.le_refl _) (Nat.le_refl _) (fun _ _ h => h.elim) ?_
  refine cx_det (st2 := [.ref (ad 21 c)]) rfl ?_
  refine r_astore [(5, .ref (ad 21 c)), (0, .ref (ad 0 0)), (1, .int (nI c)), (2, .int y), (3, .int z), (4, .int u)] dX8_relate_5 (by decide) rfl ?_
  refine r_aload dX8_relate_7 0 rfl ?_
  refine r_ifnullR dX8_relate_9 ?_
  refine r_aload_n dX8_relate_12 rfl 1 rfl ?_
  refine r_iload_n dX8_relate_13 rfl 3 rfl ?_
  refine r_callV (st := []) [.int y] 20 400 dX8_relate_14 kX8_clauseAt nX8_clauseAt lRX8_163 (hW.g 0 0 rfl) rfl (c_X8_clauseAt_f hW hI hy) rfl rfl (Nat.le_of_ble_eq_true rfl) (Nat.le_refl _) (Nat.le_refl _) (fun _ _ h => h.elim) ?_
  refine cx_det (st2 := [.null]) rfl ?_
  refine r_ifnonnullN dX8_relate_17 ?_
  refine r_throw "java/lang/IndexOutOfBoundsException" "no such clause" dX8_relate_20 dX8_relate_23 dX8_relate_24 dX8_relate_26 dX8_relate_29 rfl (by decide +kernel) t_321 t_32 (by decide +kernel) exB_at exB_ng (by decide +kernel) (by omega) (by decide) (by decide) (Nat.le_of_ble_eq_true rfl) ?_
  exact ⟨rfl, rfl⟩
set_option maxRecDepth 100000 in
set_option maxHeartbeats 4000000 in
theorem c_relate_2a {d b0 : Nat} {G : GH} {A B : ST} {ad : AD} (hW : World A B ad G) (hI : Inv A) {c : Nat} {z u : Int32} (hc : c < A 9 0) : CT mX8_relate (d + 8) b0 G [.ref (ad 0 0), .int (nI c), .int (nI c), .int z, .int u] 20 400 (fun _ _ => False) (fun E G' => E = "java/lang/IllegalArgumentException" ∧ G' = G) := by
  have hb0 := hI.b0
  have hb2 := hI.b2
  have hb9 := hI.b9
  have hb15 := hI.b15
  have hb18 := hI.b18
  refine CT.intro (by decide +kernel) rfl (Nat.le_of_ble_eq_true rfl) ?_
  show WP mX8_relate _ _ _ _ _ 20 400 0 [(0, .ref (ad 0 0)), (1, .int (nI c)), (2, .int (nI c)), (3, .int z), (4, .int u)] []
  refine r_aload_n dX8_relate_0 rfl 0 rfl ?_
  refine r_iload_n dX8_relate_1 rfl 1 rfl ?_
  refine r_callV (st := []) [.int (nI c)] 20 400 dX8_relate_2 kX8_clauseAt nX8_clauseAt lRX8_163 (hW.g 0 0 rfl) rfl (c_X8_clauseAt_t hW hI hc) rfl rfl (Nat.le_of_ble_eq_true rfl) (Nat.le_refl _) (Nat.le_refl _) (fun _ _ h => h.elim) ?_
  refine cx_det (st2 := [.ref (ad 21 c)]) rfl ?_
  refine r_astore [(5, .ref (ad 21 c)), (0, .ref (ad 0 0)), (1, .int (nI c)), (2, .int (nI c)), (3, .int z), (4, .int u)] dX8_relate_5 (by decide) rfl ?_
  refine r_aload dX8_relate_7 0 rfl ?_
  refine r_ifnullR dX8_relate_9 ?_
  refine r_aload_n dX8_relate_12 rfl 1 rfl ?_
  refine r_iload_n dX8_relate_13 rfl 3 rfl ?_
  refine r_callV (st := []) [.int (nI c)] 20 400 dX8_relate_14 kX8_clauseAt nX8_clauseAt lRX8_163 (hW.g 0 0 rfl) rfl (c_X8_clauseAt_t hW hI hc) rfl rfl (Nat.le_of_ble_eq_true rfl) (Nat.le_refl _) (Nat.le_refl _) (fun _ _ h => h.elim) ?_
  refine cx_det (st2 := [.ref (ad 21 c)]) rfl ?_
  refine r_ifnonnullR 30 dX8_relate_17 (by decide) ?_
  refine r_iload_n dX8_relate_30 rfl 2 rfl ?_
  refine r_iload_n dX8_relate_31 rfl 3 rfl ?_
  refine r_icmp_eq 54 dX8_relate_32 (by decide) (fun c_1 => ?_) (fun c_1 => absurd rfl c_1)
  refine r_throw "java/lang/IllegalArgumentException" "the same clause, or no such country or how" dX8_relate_54 dX8_relate_57 dX8_relate_58 dX8_relate_60 dX8_relate_63 rfl (by decide +kernel) t_337 t_33 (by decide +kernel) exA_at exA_ng (by decide +kernel) (by omega) (by decide) (by decide) (Nat.le_of_ble_eq_true rfl) ?_
  exact ⟨rfl, rfl⟩
set_option maxRecDepth 100000 in
set_option maxHeartbeats 4000000 in
theorem c_relate_2b {d b0 : Nat} {G : GH} {A B : ST} {ad : AD} (hW : World A B ad G) (hI : Inv A) {c o : Nat} (hc : c < A 9 0) (ho : o < A 9 0) {z u : Int32} (hco : c ≠ o) (hz : inB z 4 = false) : CT mX8_relate (d + 8) b0 G [.ref (ad 0 0), .int (nI c), .int (nI o), .int z, .int u] 20 400 (fun _ _ => False) (fun E G' => E = "java/lang/IllegalArgumentException" ∧ G' = G) := by
  have hb0 := hI.b0
  have hb2 := hI.b2
  have hb9 := hI.b9
  have hb15 := hI.b15
  have hb18 := hI.b18
  refine CT.intro (by decide +kernel) rfl (Nat.le_of_ble_eq_true rfl) ?_
  show WP mX8_relate _ _ _ _ _ 20 400 0 [(0, .ref (ad 0 0)), (1, .int (nI c)), (2, .int (nI o)), (3, .int z), (4, .int u)] []
  refine r_aload_n dX8_relate_0 rfl 0 rfl ?_
  refine r_iload_n dX8_relate_1 rfl 1 rfl ?_
  refine r_callV (st := []) [.int (nI c)] 20 400 dX8_relate_2 kX8_clauseAt nX8_clauseAt lRX8_163 (hW.g 0 0 rfl) rfl (c_X8_clauseAt_t hW hI hc) rfl rfl (Nat.le_of_ble_eq_true rfl) (Nat.le_refl _) (Nat.le_refl _) (fun _ _ h => h.elim) ?_
  refine cx_det (st2 := [.ref (ad 21 c)]) rfl ?_
  refine r_astore [(5, .ref (ad 21 c)), (0, .ref (ad 0 0)), (1, .int (nI c)), (2, .int (nI o)), (3, .int z), (4, .int u)] dX8_relate_5 (by decide) rfl ?_
  refine r_aload dX8_relate_7 0 rfl ?_
  refine r_ifnullR dX8_relate_9 ?_
  refine r_aload_n dX8_relate_12 rfl 1 rfl ?_
  refine r_iload_n dX8_relate_13 rfl 3 rfl ?_
  refine r_callV (st := []) [.int (nI o)] 20 400 dX8_relate_14 kX8_clauseAt nX8_clauseAt lRX8_163 (hW.g 0 0 rfl) rfl (c_X8_clauseAt_t hW hI ho) rfl rfl (Nat.le_of_ble_eq_true rfl) (Nat.le_refl _) (Nat.le_refl _) (fun _ _ h => h.elim) ?_
  refine cx_det (st2 := [.ref (ad 21 o)]) rfl ?_
  refine r_ifnonnullR 30 dX8_relate_17 (by decide) ?_
  refine r_iload_n dX8_relate_30 rfl 2 rfl ?_
  refine r_iload_n dX8_relate_31 rfl 3 rfl ?_
  refine r_icmp_eq 54 dX8_relate_32 (by decide) (fun c_1 => absurd c_1 (fun e => hco (ni_eq (by omega) (by omega) e))) (fun c_1 => ?_)
  refine r_iload_n dX8_relate_35 rfl 4 rfl ?_
  refine r_iconst (v := 4) dX8_relate_36 (by decide) ?_
  refine r_callS (st := []) [.int z, .int 4] 20 400 dX8_relate_37 kX8_isBelow nX8_isBelow lRX8_104 (c_isB z 4) rfl rfl (Nat.le_of_ble_eq_true rfl) (Nat.le_refl _) (Nat.le_refl _) (fun _ _ h => h.elim) ?_
  refine cx_det (st2 := [.int (b2i (inB z 4))]) rfl ?_
  refine r_if_eq 54 dX8_relate_40 (by decide) (fun c_2 => ?_) (fun c_2 => absurd (b2i_z hz) c_2)
  refine r_throw "java/lang/IllegalArgumentException" "the same clause, or no such country or how" dX8_relate_54 dX8_relate_57 dX8_relate_58 dX8_relate_60 dX8_relate_63 rfl (by decide +kernel) t_337 t_33 (by decide +kernel) exA_at exA_ng (by decide +kernel) (by omega) (by decide) (by decide) (Nat.le_of_ble_eq_true rfl) ?_
  exact ⟨rfl, rfl⟩
set_option maxRecDepth 100000 in
set_option maxHeartbeats 4000000 in
theorem c_relate_2c {d b0 : Nat} {G : GH} {A B : ST} {ad : AD} (hW : World A B ad G) (hI : Inv A) {c o : Nat} (hc : c < A 9 0) (ho : o < A 9 0) {k : Nat} {u : Int32} (hco : c ≠ o) (hk : k < 4) (hu : u < 0) : CT mX8_relate (d + 8) b0 G [.ref (ad 0 0), .int (nI c), .int (nI o), .int (nI k), .int u] 20 400 (fun _ _ => False) (fun E G' => E = "java/lang/IllegalArgumentException" ∧ G' = G) := by
  have hb0 := hI.b0
  have hb2 := hI.b2
  have hb9 := hI.b9
  have hb15 := hI.b15
  have hb18 := hI.b18
  refine CT.intro (by decide +kernel) rfl (Nat.le_of_ble_eq_true rfl) ?_
  show WP mX8_relate _ _ _ _ _ 20 400 0 [(0, .ref (ad 0 0)), (1, .int (nI c)), (2, .int (nI o)), (3, .int (nI k)), (4, .int u)] []
  refine r_aload_n dX8_relate_0 rfl 0 rfl ?_
  refine r_iload_n dX8_relate_1 rfl 1 rfl ?_
  refine r_callV (st := []) [.int (nI c)] 20 400 dX8_relate_2 kX8_clauseAt nX8_clauseAt lRX8_163 (hW.g 0 0 rfl) rfl (c_X8_clauseAt_t hW hI hc) rfl rfl (Nat.le_of_ble_eq_true rfl) (Nat.le_refl _) (Nat.le_refl _) (fun _ _ h => h.elim) ?_
  refine cx_det (st2 := [.ref (ad 21 c)]) rfl ?_
  refine r_astore [(5, .ref (ad 21 c)), (0, .ref (ad 0 0)), (1, .int (nI c)), (2, .int (nI o)), (3, .int (nI k)), (4, .int u)] dX8_relate_5 (by decide) rfl ?_
  refine r_aload dX8_relate_7 0 rfl ?_
  refine r_ifnullR dX8_relate_9 ?_
  refine r_aload_n dX8_relate_12 rfl 1 rfl ?_
  refine r_iload_n dX8_relate_13 rfl 3 rfl ?_
  refine r_callV (st := []) [.int (nI o)] 20 400 dX8_relate_14 kX8_clauseAt nX8_clauseAt lRX8_163 (hW.g 0 0 rfl) rfl (c_X8_clauseAt_t hW hI ho) rfl rfl (Nat.le_of_ble_eq_true rfl) (Nat.le_refl _) (Nat.le_refl _) (fun _ _ h => h.elim) ?_
  refine cx_det (st2 := [.ref (ad 21 o)]) rfl ?_
  refine r_ifnonnullR 30 dX8_relate_17 (by decide) ?_
  refine r_iload_n dX8_relate_30 rfl 2 rfl ?_
  refine r_iload_n dX8_relate_31 rfl 3 rfl ?_
  refine r_icmp_eq 54 dX8_relate_32 (by decide) (fun c_1 => absurd c_1 (fun e => hco (ni_eq (by omega) (by omega) e))) (fun c_1 => ?_)
  refine r_iload_n dX8_relate_35 rfl 4 rfl ?_
  refine r_iconst (v := 4) dX8_relate_36 (by decide) ?_
  refine r_callS (st := []) [.int (nI k), .int 4] 20 400 dX8_relate_37 kX8_isBelow nX8_isBelow lRX8_104 (c_isB (nI k) 4) rfl rfl (Nat.le_of_ble_eq_true rfl) (Nat.le_refl _) (Nat.le_refl _) (fun _ _ h => h.elim) ?_
  refine cx_det (st2 := [.int (b2i (inB (nI k) 4))]) rfl ?_
  refine r_if_eq 54 dX8_relate_40 (by decide) (fun c_2 => absurd c_2 (b2i_no (inB_k hk (by decide)))) (fun c_2 => ?_)
  refine r_iload dX8_relate_43 5 rfl ?_
  refine r_if_lt 54 dX8_relate_45 (by decide) (fun c_3 => ?_) (fun c_3 => absurd hu c_3)
  refine r_throw "java/lang/IllegalArgumentException" "the same clause, or no such country or how" dX8_relate_54 dX8_relate_57 dX8_relate_58 dX8_relate_60 dX8_relate_63 rfl (by decide +kernel) t_337 t_33 (by decide +kernel) exA_at exA_ng (by decide +kernel) (by omega) (by decide) (by decide) (Nat.le_of_ble_eq_true rfl) ?_
  exact ⟨rfl, rfl⟩
set_option maxRecDepth 100000 in
set_option maxHeartbeats 4000000 in
theorem c_relate_2d {d b0 : Nat} {G : GH} {A B : ST} {ad : AD} (hW : World A B ad G) (hI : Inv A) {c o : Nat} (hc : c < A 9 0) (ho : o < A 9 0) {k : Nat} {u : Int32} (hco : c ≠ o) (hk : k < 4) (hu : ¬ u < 0) (hu2 : ¬ u ≤ 2) : CT mX8_relate (d + 8) b0 G [.ref (ad 0 0), .int (nI c), .int (nI o), .int (nI k), .int u] 20 400 (fun _ _ => False) (fun E G' => E = "java/lang/IllegalArgumentException" ∧ G' = G) := by
  have hb0 := hI.b0
  have hb2 := hI.b2
  have hb9 := hI.b9
  have hb15 := hI.b15
  have hb18 := hI.b18
  refine CT.intro (by decide +kernel) rfl (Nat.le_of_ble_eq_true rfl) ?_
  show WP mX8_relate _ _ _ _ _ 20 400 0 [(0, .ref (ad 0 0)), (1, .int (nI c)), (2, .int (nI o)), (3, .int (nI k)), (4, .int u)] []
  refine r_aload_n dX8_relate_0 rfl 0 rfl ?_
  refine r_iload_n dX8_relate_1 rfl 1 rfl ?_
  refine r_callV (st := []) [.int (nI c)] 20 400 dX8_relate_2 kX8_clauseAt nX8_clauseAt lRX8_163 (hW.g 0 0 rfl) rfl (c_X8_clauseAt_t hW hI hc) rfl rfl (Nat.le_of_ble_eq_true rfl) (Nat.le_refl _) (Nat.le_refl _) (fun _ _ h => h.elim) ?_
  refine cx_det (st2 := [.ref (ad 21 c)]) rfl ?_
  refine r_astore [(5, .ref (ad 21 c)), (0, .ref (ad 0 0)), (1, .int (nI c)), (2, .int (nI o)), (3, .int (nI k)), (4, .int u)] dX8_relate_5 (by decide) rfl ?_
  refine r_aload dX8_relate_7 0 rfl ?_
  refine r_ifnullR dX8_relate_9 ?_
  refine r_aload_n dX8_relate_12 rfl 1 rfl ?_
  refine r_iload_n dX8_relate_13 rfl 3 rfl ?_
  refine r_callV (st := []) [.int (nI o)] 20 400 dX8_relate_14 kX8_clauseAt nX8_clauseAt lRX8_163 (hW.g 0 0 rfl) rfl (c_X8_clauseAt_t hW hI ho) rfl rfl (Nat.le_of_ble_eq_true rfl) (Nat.le_refl _) (Nat.le_refl _) (fun _ _ h => h.elim) ?_
  refine cx_det (st2 := [.ref (ad 21 o)]) rfl ?_
  refine r_ifnonnullR 30 dX8_relate_17 (by decide) ?_
  refine r_iload_n dX8_relate_30 rfl 2 rfl ?_
  refine r_iload_n dX8_relate_31 rfl 3 rfl ?_
  refine r_icmp_eq 54 dX8_relate_32 (by decide) (fun c_1 => absurd c_1 (fun e => hco (ni_eq (by omega) (by omega) e))) (fun c_1 => ?_)
  refine r_iload_n dX8_relate_35 rfl 4 rfl ?_
  refine r_iconst (v := 4) dX8_relate_36 (by decide) ?_
  refine r_callS (st := []) [.int (nI k), .int 4] 20 400 dX8_relate_37 kX8_isBelow nX8_isBelow lRX8_104 (c_isB (nI k) 4) rfl rfl (Nat.le_of_ble_eq_true rfl) (Nat.le_refl _) (Nat.le_refl _) (fun _ _ h => h.elim) ?_
  refine cx_det (st2 := [.int (b2i (inB (nI k) 4))]) rfl ?_
  refine r_if_eq 54 dX8_relate_40 (by decide) (fun c_2 => absurd c_2 (b2i_no (inB_k hk (by decide)))) (fun c_2 => ?_)
  refine r_iload dX8_relate_43 5 rfl ?_
  refine r_if_lt 54 dX8_relate_45 (by decide) (fun c_3 => absurd c_3 hu) (fun c_3 => ?_)
  refine r_iload dX8_relate_48 5 rfl ?_
  refine r_iconst (v := 2) dX8_relate_50 (by decide) ?_
  refine r_icmp_le 64 dX8_relate_51 (by decide) (fun c_4 => absurd c_4 hu2) (fun c_4 => ?_)
  refine r_throw "java/lang/IllegalArgumentException" "the same clause, or no such country or how" dX8_relate_54 dX8_relate_57 dX8_relate_58 dX8_relate_60 dX8_relate_63 rfl (by decide +kernel) t_337 t_33 (by decide +kernel) exA_at exA_ng (by decide +kernel) (by omega) (by decide) (by decide) (Nat.le_of_ble_eq_true rfl) ?_
  exact ⟨rfl, rfl⟩
set_option maxRecDepth 100000 in
set_option maxHeartbeats 4000000 in
theorem c_isLinked_0 {d b0 : Nat} {G : GH} {A B : ST} {ad : AD} (hW : World A B ad G) (hI : Inv A) (hP : Pag A) {c : Nat} (hc : c < A 9 0) : CT mX8_isLinked (d + 8) b0 G [.ref (ad 0 0), .int (nI c)] 20 400 (OPo (b2i (slk A c)) A B ad A) (fun _ _ => False) := by
  have hb0 := hI.b0
  have hb2 := hI.b2
  have hb9 := hI.b9
  have hb15 := hI.b15
  have hb18 := hI.b18
  refine CT.intro (by decide +kernel) rfl (Nat.le_of_ble_eq_true rfl) ?_
  show WP mX8_isLinked _ _ _ _ _ 20 400 0 [(0, .ref (ad 0 0)), (1, .int (nI c))] []
  refine r_aload_n dX8_isLinked_0 rfl 0 rfl ?_
  refine r_iload_n dX8_isLinked_1 rfl 1 rfl ?_
  refine r_callV (st := []) [.int (nI c)] 20 400 dX8_isLinked_2 kX8_clauseAt nX8_clauseAt lRX8_163 (hW.g 0 0 rfl) rfl (c_X8_clauseAt_t hW hI hc) rfl rfl (Nat.le_of_ble_eq_true rfl) (Nat.le_refl _) (Nat.le_refl _) (fun _ _ h => h.elim) ?_
  refine cx_det (st2 := [.ref (ad 21 c)]) rfl ?_
  refine r_astore_n [(2, .ref (ad 21 c)), (0, .ref (ad 0 0)), (1, .int (nI c))] dX8_isLinked_5 rfl (by decide) rfl ?_
  refine r_aload_n dX8_isLinked_6 rfl 0 rfl ?_
  refine r_ifnonnullR 20 dX8_isLinked_7 (by decide) ?_
  refine r_aload_n dX8_isLinked_20 rfl 0 rfl ?_
  refine r_callV (st := []) [] 20 400 dX8_isLinked_21 kX0_hasSameSlots nX0_hasSameSlots lRX8_179 (hW.g 21 c hc) rfl (c_X0_hasSameSlots hW hI hc) rfl rfl (Nat.le_of_ble_eq_true rfl) (Nat.le_refl _) (Nat.le_refl _) (fun _ _ h => h.elim) ?_
  refine cx_det (st2 := [.int (b2i (slk A c))]) rfl ?_
  refine r_ret .boolean dX8_isLinked_24 rfl b2i_Z ?_
  exact ⟨rfl, A, ad, hW, fun _ _ _ => rfl, hP, fun f hf => rfl⟩
set_option maxRecDepth 100000 in
set_option maxHeartbeats 4000000 in
theorem c_isLinked_1 {d b0 : Nat} {G : GH} {A B : ST} {ad : AD} (hW : World A B ad G) (hI : Inv A) {x : Int32} (hx : inB x (A 9 0) = false) : CT mX8_isLinked (d + 8) b0 G [.ref (ad 0 0), .int x] 20 400 (fun _ _ => False) (fun E G' => E = "java/lang/IndexOutOfBoundsException" ∧ G' = G) := by
  have hb0 := hI.b0
  have hb2 := hI.b2
  have hb9 := hI.b9
  have hb15 := hI.b15
  have hb18 := hI.b18
  refine CT.intro (by decide +kernel) rfl (Nat.le_of_ble_eq_true rfl) ?_
  show WP mX8_isLinked _ _ _ _ _ 20 400 0 [(0, .ref (ad 0 0)), (1, .int x)] []
  refine r_aload_n dX8_isLinked_0 rfl 0 rfl ?_
  refine r_iload_n dX8_isLinked_1 rfl 1 rfl ?_
  refine r_callV (st := []) [.int x] 20 400 dX8_isLinked_2 kX8_clauseAt nX8_clauseAt lRX8_163 (hW.g 0 0 rfl) rfl (c_X8_clauseAt_f hW hI hx) rfl rfl (Nat.le_of_ble_eq_true rfl) (Nat.le_refl _) (Nat.le_refl _) (fun _ _ h => h.elim) ?_
  refine cx_det (st2 := [.null]) rfl ?_
  refine r_astore_nN [(2, .null), (0, .ref (ad 0 0)), (1, .int x)] dX8_isLinked_5 rfl (by decide) rfl ?_
  refine r_aload_nN dX8_isLinked_6 rfl 0 rfl ?_
  refine r_ifnonnullN dX8_isLinked_7 ?_
  refine r_throw "java/lang/IndexOutOfBoundsException" "no such clause" dX8_isLinked_10 dX8_isLinked_13 dX8_isLinked_14 dX8_isLinked_16 dX8_isLinked_19 rfl (by decide +kernel) t_321 t_32 (by decide +kernel) exB_at exB_ng (by decide +kernel) (by omega) (by decide) (by decide) (Nat.le_of_ble_eq_true rfl) ?_
  exact ⟨rfl, rfl⟩
