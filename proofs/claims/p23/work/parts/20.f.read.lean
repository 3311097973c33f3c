/-- the letter, laid and built -/
abbrev rwL (A : ST) (i e g : Nat) : List Nat := ltA A i e g
abbrev tL (A : ST) (i e g : Nat) : List Nat := bld true (ltA A i e g)
abbrev fL (A : ST) (i e g : Nat) : Nat → Int32 := fun k => nI ((bld true (ltA A i e g)).getD k 0)
abbrev oL (A : ST) (i e g k : Nat) : Bool := opn true ((ltA A i e g).take k)
section RD
variable {A : ST}
theorem rw_raw (hI : Inv A) {i e g : Nat} (hi : i < A 15 0) (he : e < A 18 0) (hg : g < 3) : ∀ x ∈ ltA A i e g, rawS x := (ltL_ok hI hi he hg (A 17 i) (Nat.le_refl _)).1
theorem rw_len (hI : Inv A) {i e g : Nat} (hi : i < A 15 0) (he : e < A 18 0) (hg : g < 3) : (ltA A i e g).length ≤ 1013 := by
  have h1 := (ltL_ok hI hi he hg (A 17 i) (Nat.le_refl _)).2
  have h2 := hI.b15
  have h3 := (hI.ro i (by omega)).1
  show (ltL A i e g (A 17 i)).length ≤ 1013
  omega
theorem t_len {i e g : Nat} : (tL A i e g).length = (ltA A i e g).length := bld_len _ _
theorem t_get (hI : Inv A) {i e g k : Nat} (hi : i < A 15 0) (he : e < A 18 0) (hg : g < 3) (hk : k < (ltA A i e g).length) : (tL A i e g).getD k 0 = capN (oL A i e g k) ((ltA A i e g).getD k 0) ∧ rawS ((ltA A i e g).getD k 0) := ⟨bld_g2 _ _ _ hk, rw_raw hI hi he hg _ (getD_mem hk)⟩
/-- the four kinds of a sign -/
theorem t_kind (hI : Inv A) {i e g k : Nat} (hi : i < A 15 0) (he : e < A 18 0) (hg : g < 3) (hk : k < (ltA A i e g).length) : (oL A i e g k = true ∧ 65 ≤ (tL A i e g).getD k 0 ∧ (tL A i e g).getD k 0 ≤ 90 ∧ oL A i e g (k + 1) = false) ∨ (oL A i e g k = false ∧ 97 ≤ (tL A i e g).getD k 0 ∧ (tL A i e g).getD k 0 ≤ 122 ∧ oL A i e g (k + 1) = false) ∨ ((tL A i e g).getD k 0 = 32 ∧ oL A i e g (k + 1) = oL A i e g k) ∨ ((tL A i e g).getD k 0 = 46 ∧ oL A i e g (k + 1) = true) := by
  obtain ⟨h1, h2⟩ := t_get hI hi he hg hk
  have h3 : oL A i e g (k + 1) = nxo (oL A i e g k) ((ltA A i e g).getD k 0) := opn_take _ _ _ hk
  rw [h1, h3]
  generalize (ltA A i e g).getD k 0 = x at h2
  generalize oL A i e g k = o
  unfold rawS sml at h2
  rcases h2 with h2 | h2 | h2
  · have hs : smn x = true := decide_eq_true h2
    cases o with
    | true =>
      left
      unfold capN nxo
      rw [hs, decide_eq_false (show ¬ x = 46 by omega)]
      exact ⟨rfl, (show 65 ≤ x - 32 by omega), (show x - 32 ≤ 90 by omega), rfl⟩
    | false =>
      right; left
      unfold capN nxo
      rw [hs, decide_eq_false (show ¬ x = 46 by omega)]
      exact ⟨rfl, (show 97 ≤ x by omega), (show x ≤ 122 by omega), rfl⟩
  · right; right; left
    rw [h2]
    cases o <;> exact ⟨rfl, rfl⟩
  · right; right; right
    rw [h2]
    cases o <;> exact ⟨rfl, rfl⟩
theorem t_lt (hI : Inv A) {i e g : Nat} (hi : i < A 15 0) (he : e < A 18 0) (hg : g < 3) (k : Nat) : (tL A i e g).getD k 0 < 65536 ∧ ((tL A i e g).getD k 0 = 0 ↔ (ltA A i e g).length ≤ k) := by
  by_cases hk : k < (ltA A i e g).length
  · rcases t_kind hI hi he hg hk with h | h | h | h <;> exact ⟨by omega, by omega⟩
  · rw [getD_big (by rw [t_len]; omega)]
    exact ⟨by omega, by omega⟩
theorem wc_k (hI : Inv A) {i e g k : Nat} (hi : i < A 15 0) (he : e < A 18 0) (hg : g < 3) (hk : k ≤ (ltA A i e g).length) : (wcs (fL A i e g) k).1 ≤ wcL (tL A i e g) := by
  have := wcs_mono (fL A i e g) (tL A i e g).length k (by rw [t_len]; exact hk)
  exact this
theorem mul_lt {a b c d : Nat} (h1 : a ≤ c) (h2 : b ≤ d) : a * b ≤ c * d := Nat.mul_le_mul h1 h2
theorem costs_lt (hI : Inv A) {i e g : Nat} (hi : i < A 15 0) (he : e < A 18 0) (hg : g < 3) : wcL (tL A i e g) * A 21 g ≤ 1013000 := by
  have h1 := wcL_le (tL A i e g)
  rw [t_len] at h1
  have h2 := rw_len hI hi he hg
  have h3 := hI.pr g hg
  exact Nat.le_trans (Nat.mul_le_mul (show wcL (tL A i e g) ≤ 1013 by omega) h3) (by decide)
end RD
set_option maxRecDepth 100000 in
set_option maxHeartbeats 4000000 in
theorem l_rd_end {d b0 : Nat} {G : GH} {Q : Nat → Nat} {A B : ST} (hL : LW Q A B G) (hI : Inv A) (hR : Rl A B) {i e g cn x : Nat} (hi : i < A 15 0) (he : e < A 18 0) (hg : g < 3) (hcn : cn < 4) (hx : x < 2 ^ 31) {k : Nat} (hk : k ≤ 10) (hkl : k ≤ (ltA A i e g).length) : WP mL_isRead (d + 9) b0 (fun r G' => r = some (.int (nI 1)) ∧ LW Q A B G') NoX G 20 400 618 [(15, .int (nI 1)), (16, .int (nI (wcL (tL A i e g) * A 21 g))), (17, .int (nI ((tL A i e g).getD k 0))), (20, .int (nI ((wcs (fL A i e g) k).1))), (21, .int (nI k)), (0, .ref (Q 0)), (1, .ref (Q 1)), (2, .ref (Q 2)), (3, .ref (Q 3)), (4, .ref (Q 4)), (5, .ref (Q 5)), (6, .int (nI i)), (7, .int (nI e)), (8, .int (nI g)), (9, .int (nI cn)), (10, .int (nI x))] [] := by
  have hm0 := hR.m0
  have hm1 := hR.m1
  have hm2 := hR.m2
  have hm3 := hR.m3
  have hm4 := hR.m4
  have hn9 := hR.n9
  have hb0 := hI.b0
  have hb2 := hI.b2
  have hb15 := hI.b15
  have hb18 := hI.b18
  have hp5 := hR.p0 hg
  have hpr := hI.pr g hg
  have hcl := costs_lt hI hi he hg
  have hln := rw_len hI hi he hg
  have hq0 := hR.l0 (show i < 6 by omega)
  have hq2 := (hI.ro i (by omega)).1
  have hs := t_lt hI hi he hg k
  have hwk : (wcs (fL A i e g) k).1 * B 5 g ≤ wcL (tL A i e g) * A 21 g := by
    rw [hp5]; exact Nat.mul_le_mul (wc_k hI hi he hg hkl) (Nat.le_refl _)
  refine r_iload dL_isRead_618 0 rfl ?_
  refine n_if_eq 687 dL_isRead_620 (by decide) (by omega) (fun c1 => absurd c1 (by decide)) (fun c1 => ?_)
  refine r_iload dL_isRead_623 2 rfl ?_
  refine n_if_le 644 dL_isRead_625 (by decide) (by omega) (fun c625 => ?_) (fun c625 => ?_)
  · have hke : k = (ltA A i e g).length := by have := (t_lt hI hi he hg k).2; omega
    have heq : (wcs (fL A i e g) k).1 * B 5 g = wcL (tL A i e g) * A 21 g := by
      rw [hp5, hke, ← t_len]; rfl
    refine r_iload dL_isRead_644 3 rfl ?_
    refine r_aload dL_isRead_646 10 rfl ?_
    refine r_iload dL_isRead_648 13 rfl ?_
    refine n_iald dL_isRead_650 hL.r5 (by omega) (by decide) ?_
    refine n_imul dL_isRead_651 ?_
    refine r_iload dL_isRead_652 1 rfl ?_
    refine n_icmp_ne 687 dL_isRead_654 (by decide) (by omega) (by omega) (fun c3 => absurd c3 (fun q => q heq)) (fun c3 => ?_)
    refine r_iload dL_isRead_657 2 rfl ?_
    refine n_if_gt 683 dL_isRead_659 (by decide) (by omega) (fun c4 => absurd c4 (by omega)) (fun c4 => ?_)
    refine r_aload_n dL_isRead_662 rfl 5 rfl ?_
    refine r_iload dL_isRead_663 11 rfl ?_
    refine r_iload dL_isRead_665 12 rfl ?_
    refine r_iload dL_isRead_667 13 rfl ?_
    refine r_iload dL_isRead_669 4 rfl ?_
    refine r_iload dL_isRead_671 15 rfl ?_
    refine r_bipush (v := (nI 50)) dL_isRead_673 (by decide) ?_
    refine n_irem dL_isRead_675 (by omega) (by omega) (by omega) ?_
    refine n_iadd dL_isRead_676 ?_
    obtain ⟨fshq5, hq5⟩ := hL.r0
    refine r_callV (st := []) [.int (nI i), .int (nI e), .int (nI g), .int (nI (k + (x % 50)))] 0 0 dL_isRead_677 kX8_sign nX8_sign lRL_61 hq5 rfl (L_sign (k := k + x % 50) hL hI hi he hg (by omega)) rfl rfl (Nat.le_of_ble_eq_true rfl) (by omega) (by omega) (fun _ _ h => h.elim) ?_
    intro r G6 hr
    obtain ⟨rfl, hL7⟩ := hr
    show WP mL_isRead _ _ _ _ _ _ _ 680 [(15, .int (nI 1)), (16, .int (nI (wcL (tL A i e g) * A 21 g))), (17, .int (nI ((tL A i e g).getD k 0))), (20, .int (nI ((wcs (fL A i e g) k).1))), (21, .int (nI k)), (0, .ref (Q 0)), (1, .ref (Q 1)), (2, .ref (Q 2)), (3, .ref (Q 3)), (4, .ref (Q 4)), (5, .ref (Q 5)), (6, .int (nI i)), (7, .int (nI e)), (8, .int (nI g)), (9, .int (nI cn)), (10, .int (nI x))] [.int (nI ((tL A i e g).getD (k + x % 50) 0))]
    refine n_if_ne 687 dL_isRead_680 (by decide) (by have := (t_lt hI hi he hg (k + x % 50)).1; omega) (fun c8 => absurd c8 (fun q => q (getD_big (by rw [t_len]; omega)))) (fun c8 => ?_)
    refine r_iconst (v := (nI 1)) dL_isRead_683 (by decide) ?_
    refine r_goto 688 dL_isRead_684 (by decide) ?_
    refine r_ret .boolean dL_isRead_688 rfl rfl ?_
    exact ⟨rfl, hL7⟩
  · refine r_iload dL_isRead_628 3 rfl ?_
    refine r_aload dL_isRead_630 10 rfl ?_
    refine r_iload dL_isRead_632 13 rfl ?_
    refine n_iald dL_isRead_634 hL.r5 (by omega) (by decide) ?_
    refine n_imul dL_isRead_635 ?_
    refine r_iload dL_isRead_636 1 rfl ?_
    refine n_icmp_gt 687 dL_isRead_638 (by decide) (by omega) (by omega) (fun c9 => absurd c9 (by omega)) (fun c9 => ?_)
    refine r_goto 657 dL_isRead_641 (by decide) ?_
    refine r_iload dL_isRead_657 2 rfl ?_
    refine n_if_gt 683 dL_isRead_659 (by decide) (by omega) (fun c10 => ?_) (fun c10 => absurd c10 (by omega))
    refine r_iconst (v := (nI 1)) dL_isRead_683 (by decide) ?_
    refine r_goto 688 dL_isRead_684 (by decide) ?_
    refine r_ret .boolean dL_isRead_688 rfl rfl ?_
    exact ⟨rfl, hL⟩
set_option maxRecDepth 100000 in
set_option maxHeartbeats 4000000 in
theorem l_rd_ten {d b0 : Nat} {Q : Nat → Nat} {A B : ST} (hI : Inv A) (hR : Rl A B) {i e g cn x : Nat} (hi : i < A 15 0) (he : e < A 18 0) (hg : g < 3) (hcn : cn < 4) (hx : x < 2 ^ 31) : ∀ (fu : Nat) (k : Nat) (G : GH), (LW Q A B G ∧ k ≤ 10 ∧ k ≤ (ltA A i e g).length) → 10 - k < fu → WP mL_isRead (d + 9) b0 (fun r G' => r = some (.int (nI 1)) ∧ LW Q A B G') NoX G (40 * (10 - k) + 20) (800 * (10 - k) + 400) 392 [(22, .int (nI k)), (21, .int (nI k)), (20, .int (nI ((wcs (fL A i e g) k).1))), (19, .int (b2i ((wcs (fL A i e g) k).2))), (18, .int (b2i (oL A i e g k))), (17, .int (nI ((tL A i e g).getD k 0))), (16, .int (nI (wcL (tL A i e g) * A 21 g))), (15, .int (nI 1)), (0, .ref (Q 0)), (1, .ref (Q 1)), (2, .ref (Q 2)), (3, .ref (Q 3)), (4, .ref (Q 4)), (5, .ref (Q 5)), (6, .int (nI i)), (7, .int (nI e)), (8, .int (nI g)), (9, .int (nI cn)), (10, .int (nI x))] [] := by
  intro fu
  induction fu with
  | zero => intro k G hinv hn; exact absurd hn (Nat.not_lt_zero _)
  | succ fu ih =>
    intro k G hinv hn
    obtain ⟨hL, hk, hkl⟩ := hinv
    have hm0 := hR.m0
    have hm1 := hR.m1
    have hm2 := hR.m2
    have hm3 := hR.m3
    have hm4 := hR.m4
    have hn9 := hR.n9
    have hb0 := hI.b0
    have hb2 := hI.b2
    have hb15 := hI.b15
    have hb18 := hI.b18
    have hp5 := hR.p0 hg
    have hpr := hI.pr g hg
    have hcl := costs_lt hI hi he hg
    have hln := rw_len hI hi he hg
    have hq0 := hR.l0 (show i < 6 by omega)
    have hq2 := (hI.ro i (by omega)).1
    have hs := t_lt hI hi he hg k
    refine r_iload dL_isRead_392 0 rfl ?_
    refine r_bipush (v := (nI 10)) dL_isRead_394 (by decide) ?_
    refine n_icmp_ge 618 dL_isRead_396 (by decide) (by omega) (by omega) (fun c396 => ?_) (fun c396 => ?_)
    · exact WP.loc [7, 6, 5, 2, 1, 8, 9, 10, 11, 12, 13, 14, 15, 16, 17, 18] rfl (WP.bud (by omega) (by omega) (l_rd_end hL hI hR hi he hg hcn hx (k := k) (by omega) (by omega)))
    · refine WP.bud (bc' := 40 * (10 - (k + 1)) + 60) (bs' := 800 * (10 - (k + 1)) + 1200) (by omega) (by omega) ?_
      refine r_iload dL_isRead_399 7 rfl ?_
      refine n_if_eq 618 dL_isRead_401 (by decide) (by omega) (fun c2 => absurd c2 (by decide)) (fun c2 => ?_)
      refine r_iload dL_isRead_404 5 rfl ?_
      refine n_if_le 618 dL_isRead_406 (by decide) (by omega) (fun c406 => ?_) (fun c406 => ?_)
      · exact WP.loc [7, 6, 5, 2, 1, 8, 9, 10, 11, 12, 13, 14, 15, 16, 17, 18] rfl (WP.bud (by omega) (by omega) (l_rd_end hL hI hR hi he hg hcn hx (k := k) (by omega) (by omega)))
      · have hkl2 : k < (ltA A i e g).length := by have := hs.2; omega
        rcases t_kind hI hi he hg hkl2 with ⟨ho, hs1, hs2, hn2⟩ | ⟨ho, hs1, hs2, hn2⟩ | ⟨hs1, hn2⟩ | ⟨hs1, hn2⟩
        · have hlb : (wcs (fL A i e g) (k + 1)).2 = true := by
            show lB (nI ((tL A i e g).getD k 0)) = true
            rw [lB_n (by omega)]
            unfold ltN
            rw [decide_eq_true (by omega), decide_eq_true (by omega)]; rfl
          have hwn : (wcs (fL A i e g) (k + 1)).2 = true := hlb
          have hw1 : (wcs (fL A i e g) (k + 1)).1 = (wcs (fL A i e g) k).1 + (if true && !(wcs (fL A i e g) k).2 then 1 else 0) := by
            have h9 : (wcs (fL A i e g) (k + 1)).1 = (wcs (fL A i e g) k).1 + (if lB (fL A i e g k) && !(wcs (fL A i e g) k).2 then 1 else 0) := rfl
            rw [h9, show lB (fL A i e g k) = true from hlb]
          refine r_iload dL_isRead_409 5 rfl ?_
          refine r_bipush (v := (nI 65)) dL_isRead_411 (by decide) ?_
          refine n_icmp_lt 427 dL_isRead_413 (by decide) (by omega) (by omega) (fun c4 => absurd c4 (by omega)) (fun c4 => ?_)
          refine r_iload dL_isRead_416 5 rfl ?_
          refine r_bipush (v := (nI 90)) dL_isRead_418 (by decide) ?_
          refine n_icmp_gt 427 dL_isRead_420 (by decide) (by omega) (by omega) (fun c5 => absurd c5 (by omega)) (fun c5 => ?_)
          refine r_iconst (v := (nI 1)) dL_isRead_423 (by decide) ?_
          refine r_goto 428 dL_isRead_424 (by decide) ?_
          refine r_istore [(23, .int (nI 1)), (22, .int (nI k)), (21, .int (nI k)), (20, .int (nI ((wcs (fL A i e g) k).1))), (19, .int (b2i ((wcs (fL A i e g) k).2))), (18, .int (b2i (oL A i e g k))), (17, .int (nI ((tL A i e g).getD k 0))), (16, .int (nI (wcL (tL A i e g) * A 21 g))), (15, .int (nI 1)), (0, .ref (Q 0)), (1, .ref (Q 1)), (2, .ref (Q 2)), (3, .ref (Q 3)), (4, .ref (Q 4)), (5, .ref (Q 5)), (6, .int (nI i)), (7, .int (nI e)), (8, .int (nI g)), (9, .int (nI cn)), (10, .int (nI x))] dL_isRead_428 (by decide) rfl ?_
          refine r_iload dL_isRead_430 6 rfl ?_
          refine r_bipush (v := (nI 97)) dL_isRead_432 (by decide) ?_
          refine n_icmp_lt 448 dL_isRead_434 (by decide) (by omega) (by omega) (fun c6 => ?_) (fun c6 => absurd c6 (by omega))
          refine r_iconst (v := (nI 0)) dL_isRead_448 (by decide) ?_
          refine r_istore [(24, .int (nI 0)), (23, .int (nI 1)), (22, .int (nI k)), (21, .int (nI k)), (20, .int (nI ((wcs (fL A i e g) k).1))), (19, .int (b2i ((wcs (fL A i e g) k).2))), (18, .int (b2i (oL A i e g k))), (17, .int (nI ((tL A i e g).getD k 0))), (16, .int (nI (wcL (tL A i e g) * A 21 g))), (15, .int (nI 1)), (0, .ref (Q 0)), (1, .ref (Q 1)), (2, .ref (Q 2)), (3, .ref (Q 3)), (4, .ref (Q 4)), (5, .ref (Q 5)), (6, .int (nI i)), (7, .int (nI e)), (8, .int (nI g)), (9, .int (nI cn)), (10, .int (nI x))] dL_isRead_449 (by decide) rfl ?_
          refine r_iload dL_isRead_451 1 rfl ?_
          refine n_if_ne 475 dL_isRead_453 (by decide) (by omega) (fun c7 => ?_) (fun c7 => absurd c7 (by decide))
          refine r_iload dL_isRead_475 1 rfl ?_
          refine n_if_eq 485 dL_isRead_477 (by decide) (by omega) (fun c8 => absurd c8 (by decide)) (fun c8 => ?_)
          refine r_iload dL_isRead_480 6 rfl ?_
          refine n_bif_eq 524 dL_isRead_482 (by decide) (fun c9 => absurd c9 (by rw [ho]; decide)) (fun c9 => ?_)
          refine r_iload dL_isRead_485 0 rfl ?_
          refine n_if_eq 495 dL_isRead_487 (by decide) (by omega) (fun c10 => ?_) (fun c10 => absurd c10 (by decide))
          refine r_iload dL_isRead_495 2 rfl ?_
          refine r_bipush (v := (nI 8)) dL_isRead_497 (by decide) ?_
          refine n_irem dL_isRead_499 (by omega) (by omega) (by omega) ?_
          refine n_if_gt 520 dL_isRead_500 (by decide) (by omega) (fun c500 => ?_) (fun c500 => ?_)
          · refine r_iconst (v := (nI 1)) dL_isRead_520 (by decide) ?_
            refine r_goto 525 dL_isRead_521 (by decide) ?_
            refine r_istore [(15, .int (nI 1)), (24, .int (nI 0)), (23, .int (nI 1)), (22, .int (nI k)), (21, .int (nI k)), (20, .int (nI ((wcs (fL A i e g) k).1))), (19, .int (b2i ((wcs (fL A i e g) k).2))), (18, .int (b2i (oL A i e g k))), (17, .int (nI ((tL A i e g).getD k 0))), (16, .int (nI (wcL (tL A i e g) * A 21 g))), (0, .ref (Q 0)), (1, .ref (Q 1)), (2, .ref (Q 2)), (3, .ref (Q 3)), (4, .ref (Q 4)), (5, .ref (Q 5)), (6, .int (nI i)), (7, .int (nI e)), (8, .int (nI g)), (9, .int (nI cn)), (10, .int (nI x))] dL_isRead_525 (by decide) rfl ?_
            refine r_iload dL_isRead_527 5 rfl ?_
            refine r_iload dL_isRead_529 2 rfl ?_
            refine n_if_ne 539 dL_isRead_531 (by decide) (by omega) (fun c12 => ?_) (fun c12 => absurd c12 (by decide))
            refine r_iload dL_isRead_539 6 rfl ?_
            refine n_bif_ne 548 dL_isRead_541 (by decide) (fun c541 => ?_) (fun c541 => ?_)
            · refine r_iconst (v := (nI 0)) dL_isRead_548 (by decide) ?_
              refine n_iadd dL_isRead_549 ?_
              refine r_top (nI ((wcs (fL A i e g) (k + 1)).1)) (by rw [hw1, c541]; rfl) ?_
              refine r_istore [(20, .int (nI ((wcs (fL A i e g) (k + 1)).1))), (15, .int (nI 1)), (24, .int (nI 0)), (23, .int (nI 1)), (22, .int (nI k)), (21, .int (nI k)), (19, .int (b2i ((wcs (fL A i e g) k).2))), (18, .int (b2i (oL A i e g k))), (17, .int (nI ((tL A i e g).getD k 0))), (16, .int (nI (wcL (tL A i e g) * A 21 g))), (0, .ref (Q 0)), (1, .ref (Q 1)), (2, .ref (Q 2)), (3, .ref (Q 3)), (4, .ref (Q 4)), (5, .ref (Q 5)), (6, .int (nI i)), (7, .int (nI e)), (8, .int (nI g)), (9, .int (nI cn)), (10, .int (nI x))] dL_isRead_550 (by decide) rfl ?_
              refine r_iload dL_isRead_552 3 rfl ?_
              refine n_if_ne 562 dL_isRead_554 (by decide) (by omega) (fun c14 => ?_) (fun c14 => absurd c14 (by decide))
              refine r_iconst (v := (nI 1)) dL_isRead_562 (by decide) ?_
              refine r_goto 567 dL_isRead_563 (by decide) ?_
              refine r_top (b2i ((wcs (fL A i e g) (k + 1)).2)) (by rw [hlb]; rfl) ?_
              refine r_istore [(19, .int (b2i ((wcs (fL A i e g) (k + 1)).2))), (20, .int (nI ((wcs (fL A i e g) (k + 1)).1))), (15, .int (nI 1)), (24, .int (nI 0)), (23, .int (nI 1)), (22, .int (nI k)), (21, .int (nI k)), (18, .int (b2i (oL A i e g k))), (17, .int (nI ((tL A i e g).getD k 0))), (16, .int (nI (wcL (tL A i e g) * A 21 g))), (0, .ref (Q 0)), (1, .ref (Q 1)), (2, .ref (Q 2)), (3, .ref (Q 3)), (4, .ref (Q 4)), (5, .ref (Q 5)), (6, .int (nI i)), (7, .int (nI e)), (8, .int (nI g)), (9, .int (nI cn)), (10, .int (nI x))] dL_isRead_567 (by decide) rfl ?_
              refine r_iload dL_isRead_569 8 rfl ?_
              refine r_bipush (v := (nI 46)) dL_isRead_571 (by decide) ?_
              refine n_icmp_eq 586 dL_isRead_573 (by decide) (by omega) (by omega) (fun c15 => absurd c15 (by omega)) (fun c15 => ?_)
              refine r_iload dL_isRead_576 7 rfl ?_
              refine n_bif_eq 590 dL_isRead_578 (by decide) (fun c16 => absurd c16 (by rw [ho]; decide)) (fun c16 => ?_)
              refine r_iload dL_isRead_581 0 rfl ?_
              refine n_bif_ne 590 dL_isRead_583 (by decide) (fun c17 => ?_) (fun c17 => absurd c17 (by rw [hwn]; decide))
              refine r_iconst (v := (nI 0)) dL_isRead_590 (by decide) ?_
              refine r_top (b2i (oL A i e g (k + 1))) (by rw [hn2]; rfl) ?_
              refine r_istore [(18, .int (b2i (oL A i e g (k + 1)))), (19, .int (b2i ((wcs (fL A i e g) (k + 1)).2))), (20, .int (nI ((wcs (fL A i e g) (k + 1)).1))), (15, .int (nI 1)), (24, .int (nI 0)), (23, .int (nI 1)), (22, .int (nI k)), (21, .int (nI k)), (17, .int (nI ((tL A i e g).getD k 0))), (16, .int (nI (wcL (tL A i e g) * A 21 g))), (0, .ref (Q 0)), (1, .ref (Q 1)), (2, .ref (Q 2)), (3, .ref (Q 3)), (4, .ref (Q 4)), (5, .ref (Q 5)), (6, .int (nI i)), (7, .int (nI e)), (8, .int (nI g)), (9, .int (nI cn)), (10, .int (nI x))] dL_isRead_591 (by decide) rfl ?_
              refine r_iinc (nI (k + 1)) [(21, .int (nI (k + 1))), (18, .int (b2i (oL A i e g (k + 1)))), (19, .int (b2i ((wcs (fL A i e g) (k + 1)).2))), (20, .int (nI ((wcs (fL A i e g) (k + 1)).1))), (15, .int (nI 1)), (24, .int (nI 0)), (23, .int (nI 1)), (22, .int (nI k)), (17, .int (nI ((tL A i e g).getD k 0))), (16, .int (nI (wcL (tL A i e g) * A 21 g))), (0, .ref (Q 0)), (1, .ref (Q 1)), (2, .ref (Q 2)), (3, .ref (Q 3)), (4, .ref (Q 4)), (5, .ref (Q 5)), (6, .int (nI i)), (7, .int (nI e)), (8, .int (nI g)), (9, .int (nI cn)), (10, .int (nI x))] dL_isRead_593 7 rfl (nI_add k 1) (by decide) rfl ?_
              refine r_aload_n dL_isRead_596 rfl 10 rfl ?_
              refine r_iload dL_isRead_597 16 rfl ?_
              refine r_iload dL_isRead_599 17 rfl ?_
              refine r_iload dL_isRead_601 18 rfl ?_
              refine r_iload dL_isRead_603 7 rfl ?_
              refine r_iconst (v := (nI 1)) dL_isRead_605 (by decide) ?_
              refine n_iadd dL_isRead_606 ?_
              obtain ⟨fshq18, hq18⟩ := hL.r0
              refine r_callV (st := []) [.int (nI i), .int (nI e), .int (nI g), .int (nI (k + 1))] (40 * (10 - (k + 1)) + 40) (800 * (10 - (k + 1)) + 800) dL_isRead_607 kX8_sign nX8_sign lRL_61 hq18 rfl (L_sign (k := k + 1) hL hI hi he hg (by omega)) rfl rfl (Nat.le_of_ble_eq_true rfl) (by omega) (by omega) (fun _ _ h => h.elim) ?_
              intro r G19 hr
              obtain ⟨rfl, hL20⟩ := hr
              show WP mL_isRead _ _ _ _ _ _ _ 610 [(21, .int (nI (k + 1))), (18, .int (b2i (oL A i e g (k + 1)))), (19, .int (b2i ((wcs (fL A i e g) (k + 1)).2))), (20, .int (nI ((wcs (fL A i e g) (k + 1)).1))), (15, .int (nI 1)), (24, .int (nI 0)), (23, .int (nI 1)), (22, .int (nI k)), (17, .int (nI ((tL A i e g).getD k 0))), (16, .int (nI (wcL (tL A i e g) * A 21 g))), (0, .ref (Q 0)), (1, .ref (Q 1)), (2, .ref (Q 2)), (3, .ref (Q 3)), (4, .ref (Q 4)), (5, .ref (Q 5)), (6, .int (nI i)), (7, .int (nI e)), (8, .int (nI g)), (9, .int (nI cn)), (10, .int (nI x))] [.int (nI ((tL A i e g).getD (k + 1) 0))]
              refine r_istore [(17, .int (nI ((tL A i e g).getD (k + 1) 0))), (21, .int (nI (k + 1))), (18, .int (b2i (oL A i e g (k + 1)))), (19, .int (b2i ((wcs (fL A i e g) (k + 1)).2))), (20, .int (nI ((wcs (fL A i e g) (k + 1)).1))), (15, .int (nI 1)), (24, .int (nI 0)), (23, .int (nI 1)), (22, .int (nI k)), (16, .int (nI (wcL (tL A i e g) * A 21 g))), (0, .ref (Q 0)), (1, .ref (Q 1)), (2, .ref (Q 2)), (3, .ref (Q 3)), (4, .ref (Q 4)), (5, .ref (Q 5)), (6, .int (nI i)), (7, .int (nI e)), (8, .int (nI g)), (9, .int (nI cn)), (10, .int (nI x))] dL_isRead_610 (by decide) rfl ?_
              refine r_iinc (nI (k + 1)) [(22, .int (nI (k + 1))), (17, .int (nI ((tL A i e g).getD (k + 1) 0))), (21, .int (nI (k + 1))), (18, .int (b2i (oL A i e g (k + 1)))), (19, .int (b2i ((wcs (fL A i e g) (k + 1)).2))), (20, .int (nI ((wcs (fL A i e g) (k + 1)).1))), (15, .int (nI 1)), (24, .int (nI 0)), (23, .int (nI 1)), (16, .int (nI (wcL (tL A i e g) * A 21 g))), (0, .ref (Q 0)), (1, .ref (Q 1)), (2, .ref (Q 2)), (3, .ref (Q 3)), (4, .ref (Q 4)), (5, .ref (Q 5)), (6, .int (nI i)), (7, .int (nI e)), (8, .int (nI g)), (9, .int (nI cn)), (10, .int (nI x))] dL_isRead_612 8 rfl (nI_add k 1) (by decide) rfl ?_
              refine r_goto 392 dL_isRead_615 (by decide) ?_
              exact WP.loc [0, 2, 5, 4, 3, 1, 9, 6, 10, 11, 12, 13, 14, 15, 16, 17, 18, 19, 20] rfl (WP.bud (by omega) (by omega) (ih (k + 1) _ ⟨hL20, by omega, by omega⟩ (by omega)))
            · refine r_iconst (v := (nI 1)) dL_isRead_544 (by decide) ?_
              refine r_goto 549 dL_isRead_545 (by decide) ?_
              refine n_iadd dL_isRead_549 ?_
              refine r_top (nI ((wcs (fL A i e g) (k + 1)).1)) (by rw [hw1, c541]; rfl) ?_
              refine r_istore [(20, .int (nI ((wcs (fL A i e g) (k + 1)).1))), (15, .int (nI 1)), (24, .int (nI 0)), (23, .int (nI 1)), (22, .int (nI k)), (21, .int (nI k)), (19, .int (b2i ((wcs (fL A i e g) k).2))), (18, .int (b2i (oL A i e g k))), (17, .int (nI ((tL A i e g).getD k 0))), (16, .int (nI (wcL (tL A i e g) * A 21 g))), (0, .ref (Q 0)), (1, .ref (Q 1)), (2, .ref (Q 2)), (3, .ref (Q 3)), (4, .ref (Q 4)), (5, .ref (Q 5)), (6, .int (nI i)), (7, .int (nI e)), (8, .int (nI g)), (9, .int (nI cn)), (10, .int (nI x))] dL_isRead_550 (by decide) rfl ?_
              refine r_iload dL_isRead_552 3 rfl ?_
              refine n_if_ne 562 dL_isRead_554 (by decide) (by omega) (fun c21 => ?_) (fun c21 => absurd c21 (by decide))
              refine r_iconst (v := (nI 1)) dL_isRead_562 (by decide) ?_
              refine r_goto 567 dL_isRead_563 (by decide) ?_
              refine r_top (b2i ((wcs (fL A i e g) (k + 1)).2)) (by rw [hlb]; rfl) ?_
              refine r_istore [(19, .int (b2i ((wcs (fL A i e g) (k + 1)).2))), (20, .int (nI ((wcs (fL A i e g) (k + 1)).1))), (15, .int (nI 1)), (24, .int (nI 0)), (23, .int (nI 1)), (22, .int (nI k)), (21, .int (nI k)), (18, .int (b2i (oL A i e g k))), (17, .int (nI ((tL A i e g).getD k 0))), (16, .int (nI (wcL (tL A i e g) * A 21 g))), (0, .ref (Q 0)), (1, .ref (Q 1)), (2, .ref (Q 2)), (3, .ref (Q 3)), (4, .ref (Q 4)), (5, .ref (Q 5)), (6, .int (nI i)), (7, .int (nI e)), (8, .int (nI g)), (9, .int (nI cn)), (10, .int (nI x))] dL_isRead_567 (by decide) rfl ?_
              refine r_iload dL_isRead_569 8 rfl ?_
              refine r_bipush (v := (nI 46)) dL_isRead_571 (by decide) ?_
              refine n_icmp_eq 586 dL_isRead_573 (by decide) (by omega) (by omega) (fun c22 => absurd c22 (by omega)) (fun c22 => ?_)
              refine r_iload dL_isRead_576 7 rfl ?_
              refine n_bif_eq 590 dL_isRead_578 (by decide) (fun c23 => absurd c23 (by rw [ho]; decide)) (fun c23 => ?_)
              refine r_iload dL_isRead_581 0 rfl ?_
              refine n_bif_ne 590 dL_isRead_583 (by decide) (fun c24 => ?_) (fun c24 => absurd c24 (by rw [hwn]; decide))
              refine r_iconst (v := (nI 0)) dL_isRead_590 (by decide) ?_
              refine r_top (b2i (oL A i e g (k + 1))) (by rw [hn2]; rfl) ?_
              refine r_istore [(18, .int (b2i (oL A i e g (k + 1)))), (19, .int (b2i ((wcs (fL A i e g) (k + 1)).2))), (20, .int (nI ((wcs (fL A i e g) (k + 1)).1))), (15, .int (nI 1)), (24, .int (nI 0)), (23, .int (nI 1)), (22, .int (nI k)), (21, .int (nI k)), (17, .int (nI ((tL A i e g).getD k 0))), (16, .int (nI (wcL (tL A i e g) * A 21 g))), (0, .ref (Q 0)), (1, .ref (Q 1)), (2, .ref (Q 2)), (3, .ref (Q 3)), (4, .ref (Q 4)), (5, .ref (Q 5)), (6, .int (nI i)), (7, .int (nI e)), (8, .int (nI g)), (9, .int (nI cn)), (10, .int (nI x))] dL_isRead_591 (by decide) rfl ?_
              refine r_iinc (nI (k + 1)) [(21, .int (nI (k + 1))), (18, .int (b2i (oL A i e g (k + 1)))), (19, .int (b2i ((wcs (fL A i e g) (k + 1)).2))), (20, .int (nI ((wcs (fL A i e g) (k + 1)).1))), (15, .int (nI 1)), (24, .int (nI 0)), (23, .int (nI 1)), (22, .int (nI k)), (17, .int (nI ((tL A i e g).getD k 0))), (16, .int (nI (wcL (tL A i e g) * A 21 g))), (0, .ref (Q 0)), (1, .ref (Q 1)), (2, .ref (Q 2)), (3, .ref (Q 3)), (4, .ref (Q 4)), (5, .ref (Q 5)), (6, .int (nI i)), (7, .int (nI e)), (8, .int (nI g)), (9, .int (nI cn)), (10, .int (nI x))] dL_isRead_593 7 rfl (nI_add k 1) (by decide) rfl ?_
              refine r_aload_n dL_isRead_596 rfl 10 rfl ?_
              refine r_iload dL_isRead_597 16 rfl ?_
              refine r_iload dL_isRead_599 17 rfl ?_
              refine r_iload dL_isRead_601 18 rfl ?_
              refine r_iload dL_isRead_603 7 rfl ?_
              refine r_iconst (v := (nI 1)) dL_isRead_605 (by decide) ?_
              refine n_iadd dL_isRead_606 ?_
              obtain ⟨fshq25, hq25⟩ := hL.r0
              refine r_callV (st := []) [.int (nI i), .int (nI e), .int (nI g), .int (nI (k + 1))] (40 * (10 - (k + 1)) + 40) (800 * (10 - (k + 1)) + 800) dL_isRead_607 kX8_sign nX8_sign lRL_61 hq25 rfl (L_sign (k := k + 1) hL hI hi he hg (by omega)) rfl rfl (Nat.le_of_ble_eq_true rfl) (by omega) (by omega) (fun _ _ h => h.elim) ?_
              intro r G26 hr
              obtain ⟨rfl, hL27⟩ := hr
              show WP mL_isRead _ _ _ _ _ _ _ 610 [(21, .int (nI (k + 1))), (18, .int (b2i (oL A i e g (k + 1)))), (19, .int (b2i ((wcs (fL A i e g) (k + 1)).2))), (20, .int (nI ((wcs (fL A i e g) (k + 1)).1))), (15, .int (nI 1)), (24, .int (nI 0)), (23, .int (nI 1)), (22, .int (nI k)), (17, .int (nI ((tL A i e g).getD k 0))), (16, .int (nI (wcL (tL A i e g) * A 21 g))), (0, .ref (Q 0)), (1, .ref (Q 1)), (2, .ref (Q 2)), (3, .ref (Q 3)), (4, .ref (Q 4)), (5, .ref (Q 5)), (6, .int (nI i)), (7, .int (nI e)), (8, .int (nI g)), (9, .int (nI cn)), (10, .int (nI x))] [.int (nI ((tL A i e g).getD (k + 1) 0))]
              refine r_istore [(17, .int (nI ((tL A i e g).getD (k + 1) 0))), (21, .int (nI (k + 1))), (18, .int (b2i (oL A i e g (k + 1)))), (19, .int (b2i ((wcs (fL A i e g) (k + 1)).2))), (20, .int (nI ((wcs (fL A i e g) (k + 1)).1))), (15, .int (nI 1)), (24, .int (nI 0)), (23, .int (nI 1)), (22, .int (nI k)), (16, .int (nI (wcL (tL A i e g) * A 21 g))), (0, .ref (Q 0)), (1, .ref (Q 1)), (2, .ref (Q 2)), (3, .ref (Q 3)), (4, .ref (Q 4)), (5, .ref (Q 5)), (6, .int (nI i)), (7, .int (nI e)), (8, .int (nI g)), (9, .int (nI cn)), (10, .int (nI x))] dL_isRead_610 (by decide) rfl ?_
              refine r_iinc (nI (k + 1)) [(22, .int (nI (k + 1))), (17, .int (nI ((tL A i e g).getD (k + 1) 0))), (21, .int (nI (k + 1))), (18, .int (b2i (oL A i e g (k + 1)))), (19, .int (b2i ((wcs (fL A i e g) (k + 1)).2))), (20, .int (nI ((wcs (fL A i e g) (k + 1)).1))), (15, .int (nI 1)), (24, .int (nI 0)), (23, .int (nI 1)), (16, .int (nI (wcL (tL A i e g) * A 21 g))), (0, .ref (Q 0)), (1, .ref (Q 1)), (2, .ref (Q 2)), (3, .ref (Q 3)), (4, .ref (Q 4)), (5, .ref (Q 5)), (6, .int (nI i)), (7, .int (nI e)), (8, .int (nI g)), (9, .int (nI cn)), (10, .int (nI x))] dL_isRead_612 8 rfl (nI_add k 1) (by decide) rfl ?_
              refine r_goto 392 dL_isRead_615 (by decide) ?_
              exact WP.loc [0, 2, 5, 4, 3, 1, 9, 6, 10, 11, 12, 13, 14, 15, 16, 17, 18, 19, 20] rfl (WP.bud (by omega) (by omega) (ih (k + 1) _ ⟨hL27, by omega, by omega⟩ (by omega)))
          · refine r_aload_n dL_isRead_503 rfl 10 rfl ?_
            refine r_iload dL_isRead_504 16 rfl ?_
            refine r_iload dL_isRead_506 17 rfl ?_
            refine r_iload dL_isRead_508 18 rfl ?_
            refine r_iload dL_isRead_510 2 rfl ?_
            obtain ⟨fshq28, hq28⟩ := hL.r0
            refine r_callV (st := []) [.int (nI i), .int (nI e), .int (nI g), .int (nI k)] (40 * (10 - (k + 1)) + 40) (800 * (10 - (k + 1)) + 800) dL_isRead_512 kX8_signAnew nX8_signAnew lRL_65 hq28 rfl (L_signAnew (k := k) hL hI hi he hg (by omega)) rfl rfl (Nat.le_of_ble_eq_true rfl) (by omega) (by omega) (fun _ _ h => h.elim) ?_
            intro r G29 hr
            obtain ⟨rfl, hL30⟩ := hr
            show WP mL_isRead _ _ _ _ _ _ _ 515 [(24, .int (nI 0)), (23, .int (nI 1)), (22, .int (nI k)), (21, .int (nI k)), (20, .int (nI ((wcs (fL A i e g) k).1))), (19, .int (b2i ((wcs (fL A i e g) k).2))), (18, .int (b2i (oL A i e g k))), (17, .int (nI ((tL A i e g).getD k 0))), (16, .int (nI (wcL (tL A i e g) * A 21 g))), (15, .int (nI 1)), (0, .ref (Q 0)), (1, .ref (Q 1)), (2, .ref (Q 2)), (3, .ref (Q 3)), (4, .ref (Q 4)), (5, .ref (Q 5)), (6, .int (nI i)), (7, .int (nI e)), (8, .int (nI g)), (9, .int (nI cn)), (10, .int (nI x))] [.int (nI ((tL A i e g).getD k 0))]
            refine r_iload dL_isRead_515 7 rfl ?_
            refine n_icmp_ne 524 dL_isRead_517 (by decide) (by omega) (by omega) (fun c31 => absurd c31 (fun q => q rfl)) (fun c31 => ?_)
            refine r_iconst (v := (nI 1)) dL_isRead_520 (by decide) ?_
            refine r_goto 525 dL_isRead_521 (by decide) ?_
            refine r_istore [(15, .int (nI 1)), (24, .int (nI 0)), (23, .int (nI 1)), (22, .int (nI k)), (21, .int (nI k)), (20, .int (nI ((wcs (fL A i e g) k).1))), (19, .int (b2i ((wcs (fL A i e g) k).2))), (18, .int (b2i (oL A i e g k))), (17, .int (nI ((tL A i e g).getD k 0))), (16, .int (nI (wcL (tL A i e g) * A 21 g))), (0, .ref (Q 0)), (1, .ref (Q 1)), (2, .ref (Q 2)), (3, .ref (Q 3)), (4, .ref (Q 4)), (5, .ref (Q 5)), (6, .int (nI i)), (7, .int (nI e)), (8, .int (nI g)), (9, .int (nI cn)), (10, .int (nI x))] dL_isRead_525 (by decide) rfl ?_
            refine r_iload dL_isRead_527 5 rfl ?_
            refine r_iload dL_isRead_529 2 rfl ?_
            refine n_if_ne 539 dL_isRead_531 (by decide) (by omega) (fun c32 => ?_) (fun c32 => absurd c32 (by decide))
            refine r_iload dL_isRead_539 6 rfl ?_
            refine n_bif_ne 548 dL_isRead_541 (by decide) (fun c541 => ?_) (fun c541 => ?_)
            · refine r_iconst (v := (nI 0)) dL_isRead_548 (by decide) ?_
              refine n_iadd dL_isRead_549 ?_
              refine r_top (nI ((wcs (fL A i e g) (k + 1)).1)) (by rw [hw1, c541]; rfl) ?_
              refine r_istore [(20, .int (nI ((wcs (fL A i e g) (k + 1)).1))), (15, .int (nI 1)), (24, .int (nI 0)), (23, .int (nI 1)), (22, .int (nI k)), (21, .int (nI k)), (19, .int (b2i ((wcs (fL A i e g) k).2))), (18, .int (b2i (oL A i e g k))), (17, .int (nI ((tL A i e g).getD k 0))), (16, .int (nI (wcL (tL A i e g) * A 21 g))), (0, .ref (Q 0)), (1, .ref (Q 1)), (2, .ref (Q 2)), (3, .ref (Q 3)), (4, .ref (Q 4)), (5, .ref (Q 5)), (6, .int (nI i)), (7, .int (nI e)), (8, .int (nI g)), (9, .int (nI cn)), (10, .int (nI x))] dL_isRead_550 (by decide) rfl ?_
              refine r_iload dL_isRead_552 3 rfl ?_
              refine n_if_ne 562 dL_isRead_554 (by decide) (by omega) (fun c34 => ?_) (fun c34 => absurd c34 (by decide))
              refine r_iconst (v := (nI 1)) dL_isRead_562 (by decide) ?_
              refine r_goto 567 dL_isRead_563 (by decide) ?_
              refine r_top (b2i ((wcs (fL A i e g) (k + 1)).2)) (by rw [hlb]; rfl) ?_
              refine r_istore [(19, .int (b2i ((wcs (fL A i e g) (k + 1)).2))), (20, .int (nI ((wcs (fL A i e g) (k + 1)).1))), (15, .int (nI 1)), (24, .int (nI 0)), (23, .int (nI 1)), (22, .int (nI k)), (21, .int (nI k)), (18, .int (b2i (oL A i e g k))), (17, .int (nI ((tL A i e g).getD k 0))), (16, .int (nI (wcL (tL A i e g) * A 21 g))), (0, .ref (Q 0)), (1, .ref (Q 1)), (2, .ref (Q 2)), (3, .ref (Q 3)), (4, .ref (Q 4)), (5, .ref (Q 5)), (6, .int (nI i)), (7, .int (nI e)), (8, .int (nI g)), (9, .int (nI cn)), (10, .int (nI x))] dL_isRead_567 (by decide) rfl ?_
              refine r_iload dL_isRead_569 8 rfl ?_
              refine r_bipush (v := (nI 46)) dL_isRead_571 (by decide) ?_
              refine n_icmp_eq 586 dL_isRead_573 (by decide) (by omega) (by omega) (fun c35 => absurd c35 (by omega)) (fun c35 => ?_)
              refine r_iload dL_isRead_576 7 rfl ?_
              refine n_bif_eq 590 dL_isRead_578 (by decide) (fun c36 => absurd c36 (by rw [ho]; decide)) (fun c36 => ?_)
              refine r_iload dL_isRead_581 0 rfl ?_
              refine n_bif_ne 590 dL_isRead_583 (by decide) (fun c37 => ?_) (fun c37 => absurd c37 (by rw [hwn]; decide))
              refine r_iconst (v := (nI 0)) dL_isRead_590 (by decide) ?_
              refine r_top (b2i (oL A i e g (k + 1))) (by rw [hn2]; rfl) ?_
              refine r_istore [(18, .int (b2i (oL A i e g (k + 1)))), (19, .int (b2i ((wcs (fL A i e g) (k + 1)).2))), (20, .int (nI ((wcs (fL A i e g) (k + 1)).1))), (15, .int (nI 1)), (24, .int (nI 0)), (23, .int (nI 1)), (22, .int (nI k)), (21, .int (nI k)), (17, .int (nI ((tL A i e g).getD k 0))), (16, .int (nI (wcL (tL A i e g) * A 21 g))), (0, .ref (Q 0)), (1, .ref (Q 1)), (2, .ref (Q 2)), (3, .ref (Q 3)), (4, .ref (Q 4)), (5, .ref (Q 5)), (6, .int (nI i)), (7, .int (nI e)), (8, .int (nI g)), (9, .int (nI cn)), (10, .int (nI x))] dL_isRead_591 (by decide) rfl ?_
              refine r_iinc (nI (k + 1)) [(21, .int (nI (k + 1))), (18, .int (b2i (oL A i e g (k + 1)))), (19, .int (b2i ((wcs (fL A i e g) (k + 1)).2))), (20, .int (nI ((wcs (fL A i e g) (k + 1)).1))), (15, .int (nI 1)), (24, .int (nI 0)), (23, .int (nI 1)), (22, .int (nI k)), (17, .int (nI ((tL A i e g).getD k 0))), (16, .int (nI (wcL (tL A i e g) * A 21 g))), (0, .ref (Q 0)), (1, .ref (Q 1)), (2, .ref (Q 2)), (3, .ref (Q 3)), (4, .ref (Q 4)), (5, .ref (Q 5)), (6, .int (nI i)), (7, .int (nI e)), (8, .int (nI g)), (9, .int (nI cn)), (10, .int (nI x))] dL_isRead_593 7 rfl (nI_add k 1) (by decide) rfl ?_
              refine r_aload_n dL_isRead_596 rfl 10 rfl ?_
              refine r_iload dL_isRead_597 16 rfl ?_
              refine r_iload dL_isRead_599 17 rfl ?_
              refine r_iload dL_isRead_601 18 rfl ?_
              refine r_iload dL_isRead_603 7 rfl ?_
              refine r_iconst (v := (nI 1)) dL_isRead_605 (by decide) ?_
              refine n_iadd dL_isRead_606 ?_
              obtain ⟨fshq38, hq38⟩ := hL30.r0
              refine r_callV (st := []) [.int (nI i), .int (nI e), .int (nI g), .int (nI (k + 1))] (40 * (10 - (k + 1)) + 20) (800 * (10 - (k + 1)) + 400) dL_isRead_607 kX8_sign nX8_sign lRL_61 hq38 rfl (L_sign (k := k + 1) hL30 hI hi he hg (by omega)) rfl rfl (Nat.le_of_ble_eq_true rfl) (by omega) (by omega) (fun _ _ h => h.elim) ?_
              intro r G39 hr
              obtain ⟨rfl, hL40⟩ := hr
              show WP mL_isRead _ _ _ _ _ _ _ 610 [(21, .int (nI (k + 1))), (18, .int (b2i (oL A i e g (k + 1)))), (19, .int (b2i ((wcs (fL A i e g) (k + 1)).2))), (20, .int (nI ((wcs (fL A i e g) (k + 1)).1))), (15, .int (nI 1)), (24, .int (nI 0)), (23, .int (nI 1)), (22, .int (nI k)), (17, .int (nI ((tL A i e g).getD k 0))), (16, .int (nI (wcL (tL A i e g) * A 21 g))), (0, .ref (Q 0)), (1, .ref (Q 1)), (2, .ref (Q 2)), (3, .ref (Q 3)), (4, .ref (Q 4)), (5, .ref (Q 5)), (6, .int (nI i)), (7, .int (nI e)), (8, .int (nI g)), (9, .int (nI cn)), (10, .int (nI x))] [.int (nI ((tL A i e g).getD (k + 1) 0))]
              refine r_istore [(17, .int (nI ((tL A i e g).getD (k + 1) 0))), (21, .int (nI (k + 1))), (18, .int (b2i (oL A i e g (k + 1)))), (19, .int (b2i ((wcs (fL A i e g) (k + 1)).2))), (20, .int (nI ((wcs (fL A i e g) (k + 1)).1))), (15, .int (nI 1)), (24, .int (nI 0)), (23, .int (nI 1)), (22, .int (nI k)), (16, .int (nI (wcL (tL A i e g) * A 21 g))), (0, .ref (Q 0)), (1, .ref (Q 1)), (2, .ref (Q 2)), (3, .ref (Q 3)), (4, .ref (Q 4)), (5, .ref (Q 5)), (6, .int (nI i)), (7, .int (nI e)), (8, .int (nI g)), (9, .int (nI cn)), (10, .int (nI x))] dL_isRead_610 (by decide) rfl ?_
              refine r_iinc (nI (k + 1)) [(22, .int (nI (k + 1))), (17, .int (nI ((tL A i e g).getD (k + 1) 0))), (21, .int (nI (k + 1))), (18, .int (b2i (oL A i e g (k + 1)))), (19, .int (b2i ((wcs (fL A i e g) (k + 1)).2))), (20, .int (nI ((wcs (fL A i e g) (k + 1)).1))), (15, .int (nI 1)), (24, .int (nI 0)), (23, .int (nI 1)), (16, .int (nI (wcL (tL A i e g) * A 21 g))), (0, .ref (Q 0)), (1, .ref (Q 1)), (2, .ref (Q 2)), (3, .ref (Q 3)), (4, .ref (Q 4)), (5, .ref (Q 5)), (6, .int (nI i)), (7, .int (nI e)), (8, .int (nI g)), (9, .int (nI cn)), (10, .int (nI x))] dL_isRead_612 8 rfl (nI_add k 1) (by decide) rfl ?_
              refine r_goto 392 dL_isRead_615 (by decide) ?_
              exact WP.loc [0, 2, 5, 4, 3, 1, 9, 6, 10, 11, 12, 13, 14, 15, 16, 17, 18, 19, 20] rfl (WP.bud (by omega) (by omega) (ih (k + 1) _ ⟨hL40, by omega, by omega⟩ (by omega)))
            · refine r_iconst (v := (nI 1)) dL_isRead_544 (by decide) ?_
              refine r_goto 549 dL_isRead_545 (by decide) ?_
              refine n_iadd dL_isRead_549 ?_
              refine r_top (nI ((wcs (fL A i e g) (k + 1)).1)) (by rw [hw1, c541]; rfl) ?_
              refine r_istore [(20, .int (nI ((wcs (fL A i e g) (k + 1)).1))), (15, .int (nI 1)), (24, .int (nI 0)), (23, .int (nI 1)), (22, .int (nI k)), (21, .int (nI k)), (19, .int (b2i ((wcs (fL A i e g) k).2))), (18, .int (b2i (oL A i e g k))), (17, .int (nI ((tL A i e g).getD k 0))), (16, .int (nI (wcL (tL A i e g) * A 21 g))), (0, .ref (Q 0)), (1, .ref (Q 1)), (2, .ref (Q 2)), (3, .ref (Q 3)), (4, .ref (Q 4)), (5, .ref (Q 5)), (6, .int (nI i)), (7, .int (nI e)), (8, .int (nI g)), (9, .int (nI cn)), (10, .int (nI x))] dL_isRead_550 (by decide) rfl ?_
              refine r_iload dL_isRead_552 3 rfl ?_
              refine n_if_ne 562 dL_isRead_554 (by decide) (by omega) (fun c41 => ?_) (fun c41 => absurd c41 (by decide))
              refine r_iconst (v := (nI 1)) dL_isRead_562 (by decide) ?_
              refine r_goto 567 dL_isRead_563 (by decide) ?_
              refine r_top (b2i ((wcs (fL A i e g) (k + 1)).2)) (by rw [hlb]; rfl) ?_
              refine r_istore [(19, .int (b2i ((wcs (fL A i e g) (k + 1)).2))), (20, .int (nI ((wcs (fL A i e g) (k + 1)).1))), (15, .int (nI 1)), (24, .int (nI 0)), (23, .int (nI 1)), (22, .int (nI k)), (21, .int (nI k)), (18, .int (b2i (oL A i e g k))), (17, .int (nI ((tL A i e g).getD k 0))), (16, .int (nI (wcL (tL A i e g) * A 21 g))), (0, .ref (Q 0)), (1, .ref (Q 1)), (2, .ref (Q 2)), (3, .ref (Q 3)), (4, .ref (Q 4)), (5, .ref (Q 5)), (6, .int (nI i)), (7, .int (nI e)), (8, .int (nI g)), (9, .int (nI cn)), (10, .int (nI x))] dL_isRead_567 (by decide) rfl ?_
              refine r_iload dL_isRead_569 8 rfl ?_
              refine r_bipush (v := (nI 46)) dL_isRead_571 (by decide) ?_
              refine n_icmp_eq 586 dL_isRead_573 (by decide) (by omega) (by omega) (fun c42 => absurd c42 (by omega)) (fun c42 => ?_)
              refine r_iload dL_isRead_576 7 rfl ?_
              refine n_bif_eq 590 dL_isRead_578 (by decide) (fun c43 => absurd c43 (by rw [ho]; decide)) (fun c43 => ?_)
              refine r_iload dL_isRead_581 0 rfl ?_
              refine n_bif_ne 590 dL_isRead_583 (by decide) (fun c44 => ?_) (fun c44 => absurd c44 (by rw [hwn]; decide))
              refine r_iconst (v := (nI 0)) dL_isRead_590 (by decide) ?_
              refine r_top (b2i (oL A i e g (k + 1))) (by rw [hn2]; rfl) ?_
              refine r_istore [(18, .int (b2i (oL A i e g (k + 1)))), (19, .int (b2i ((wcs (fL A i e g) (k + 1)).2))), (20, .int (nI ((wcs (fL A i e g) (k + 1)).1))), (15, .int (nI 1)), (24, .int (nI 0)), (23, .int (nI 1)), (22, .int (nI k)), (21, .int (nI k)), (17, .int (nI ((tL A i e g).getD k 0))), (16, .int (nI (wcL (tL A i e g) * A 21 g))), (0, .ref (Q 0)), (1, .ref (Q 1)), (2, .ref (Q 2)), (3, .ref (Q 3)), (4, .ref (Q 4)), (5, .ref (Q 5)), (6, .int (nI i)), (7, .int (nI e)), (8, .int (nI g)), (9, .int (nI cn)), (10, .int (nI x))] dL_isRead_591 (by decide) rfl ?_
              refine r_iinc (nI (k + 1)) [(21, .int (nI (k + 1))), (18, .int (b2i (oL A i e g (k + 1)))), (19, .int (b2i ((wcs (fL A i e g) (k + 1)).2))), (20, .int (nI ((wcs (fL A i e g) (k + 1)).1))), (15, .int (nI 1)), (24, .int (nI 0)), (23, .int (nI 1)), (22, .int (nI k)), (17, .int (nI ((tL A i e g).getD k 0))), (16, .int (nI (wcL (tL A i e g) * A 21 g))), (0, .ref (Q 0)), (1, .ref (Q 1)), (2, .ref (Q 2)), (3, .ref (Q 3)), (4, .ref (Q 4)), (5, .ref (Q 5)), (6, .int (nI i)), (7, .int (nI e)), (8, .int (nI g)), (9, .int (nI cn)), (10, .int (nI x))] dL_isRead_593 7 rfl (nI_add k 1) (by decide) rfl ?_
              refine r_aload_n dL_isRead_596 rfl 10 rfl ?_
              refine r_iload dL_isRead_597 16 rfl ?_
              refine r_iload dL_isRead_599 17 rfl ?_
              refine r_iload dL_isRead_601 18 rfl ?_
              refine r_iload dL_isRead_603 7 rfl ?_
              refine r_iconst (v := (nI 1)) dL_isRead_605 (by decide) ?_
              refine n_iadd dL_isRead_606 ?_
              obtain ⟨fshq45, hq45⟩ := hL30.r0
              refine r_callV (st := []) [.int (nI i), .int (nI e), .int (nI g), .int (nI (k + 1))] (40 * (10 - (k + 1)) + 20) (800 * (10 - (k + 1)) + 400) dL_isRead_607 kX8_sign nX8_sign lRL_61 hq45 rfl (L_sign (k := k + 1) hL30 hI hi he hg (by omega)) rfl rfl (Nat.le_of_ble_eq_true rfl) (by omega) (by omega) (fun _ _ h => h.elim) ?_
              intro r G46 hr
              obtain ⟨rfl, hL47⟩ := hr
              show WP mL_isRead _ _ _ _ _ _ _ 610 [(21, .int (nI (k + 1))), (18, .int (b2i (oL A i e g (k + 1)))), (19, .int (b2i ((wcs (fL A i e g) (k + 1)).2))), (20, .int (nI ((wcs (fL A i e g) (k + 1)).1))), (15, .int (nI 1)), (24, .int (nI 0)), (23, .int (nI 1)), (22, .int (nI k)), (17, .int (nI ((tL A i e g).getD k 0))), (16, .int (nI (wcL (tL A i e g) * A 21 g))), (0, .ref (Q 0)), (1, .ref (Q 1)), (2, .ref (Q 2)), (3, .ref (Q 3)), (4, .ref (Q 4)), (5, .ref (Q 5)), (6, .int (nI i)), (7, .int (nI e)), (8, .int (nI g)), (9, .int (nI cn)), (10, .int (nI x))] [.int (nI ((tL A i e g).getD (k + 1) 0))]
              refine r_istore [(17, .int (nI ((tL A i e g).getD (k + 1) 0))), (21, .int (nI (k + 1))), (18, .int (b2i (oL A i e g (k + 1)))), (19, .int (b2i ((wcs (fL A i e g) (k + 1)).2))), (20, .int (nI ((wcs (fL A i e g) (k + 1)).1))), (15, .int (nI 1)), (24, .int (nI 0)), (23, .int (nI 1)), (22, .int (nI k)), (16, .int (nI (wcL (tL A i e g) * A 21 g))), (0, .ref (Q 0)), (1, .ref (Q 1)), (2, .ref (Q 2)), (3, .ref (Q 3)), (4, .ref (Q 4)), (5, .ref (Q 5)), (6, .int (nI i)), (7, .int (nI e)), (8, .int (nI g)), (9, .int (nI cn)), (10, .int (nI x))] dL_isRead_610 (by decide) rfl ?_
              refine r_iinc (nI (k + 1)) [(22, .int (nI (k + 1))), (17, .int (nI ((tL A i e g).getD (k + 1) 0))), (21, .int (nI (k + 1))), (18, .int (b2i (oL A i e g (k + 1)))), (19, .int (b2i ((wcs (fL A i e g) (k + 1)).2))), (20, .int (nI ((wcs (fL A i e g) (k + 1)).1))), (15, .int (nI 1)), (24, .int (nI 0)), (23, .int (nI 1)), (16, .int (nI (wcL (tL A i e g) * A 21 g))), (0, .ref (Q 0)), (1, .ref (Q 1)), (2, .ref (Q 2)), (3, .ref (Q 3)), (4, .ref (Q 4)), (5, .ref (Q 5)), (6, .int (nI i)), (7, .int (nI e)), (8, .int (nI g)), (9, .int (nI cn)), (10, .int (nI x))] dL_isRead_612 8 rfl (nI_add k 1) (by decide) rfl ?_
              refine r_goto 392 dL_isRead_615 (by decide) ?_
              exact WP.loc [0, 2, 5, 4, 3, 1, 9, 6, 10, 11, 12, 13, 14, 15, 16, 17, 18, 19, 20] rfl (WP.bud (by omega) (by omega) (ih (k + 1) _ ⟨hL47, by omega, by omega⟩ (by omega)))
        · have hlb : (wcs (fL A i e g) (k + 1)).2 = true := by
            show lB (nI ((tL A i e g).getD k 0)) = true
            rw [lB_n (by omega)]
            unfold ltN
            rw [decide_eq_true (by omega), decide_eq_true (by omega)]; rfl
          have hwn : (wcs (fL A i e g) (k + 1)).2 = true := hlb
          have hw1 : (wcs (fL A i e g) (k + 1)).1 = (wcs (fL A i e g) k).1 + (if true && !(wcs (fL A i e g) k).2 then 1 else 0) := by
            have h9 : (wcs (fL A i e g) (k + 1)).1 = (wcs (fL A i e g) k).1 + (if lB (fL A i e g k) && !(wcs (fL A i e g) k).2 then 1 else 0) := rfl
            rw [h9, show lB (fL A i e g k) = true from hlb]
          refine r_iload dL_isRead_409 5 rfl ?_
          refine r_bipush (v := (nI 65)) dL_isRead_411 (by decide) ?_
          refine n_icmp_lt 427 dL_isRead_413 (by decide) (by omega) (by omega) (fun c48 => absurd c48 (by omega)) (fun c48 => ?_)
          refine r_iload dL_isRead_416 5 rfl ?_
          refine r_bipush (v := (nI 90)) dL_isRead_418 (by decide) ?_
          refine n_icmp_gt 427 dL_isRead_420 (by decide) (by omega) (by omega) (fun c49 => ?_) (fun c49 => absurd c49 (by omega))
          refine r_iconst (v := (nI 0)) dL_isRead_427 (by decide) ?_
          refine r_istore [(23, .int (nI 0)), (22, .int (nI k)), (21, .int (nI k)), (20, .int (nI ((wcs (fL A i e g) k).1))), (19, .int (b2i ((wcs (fL A i e g) k).2))), (18, .int (b2i (oL A i e g k))), (17, .int (nI ((tL A i e g).getD k 0))), (16, .int (nI (wcL (tL A i e g) * A 21 g))), (15, .int (nI 1)), (0, .ref (Q 0)), (1, .ref (Q 1)), (2, .ref (Q 2)), (3, .ref (Q 3)), (4, .ref (Q 4)), (5, .ref (Q 5)), (6, .int (nI i)), (7, .int (nI e)), (8, .int (nI g)), (9, .int (nI cn)), (10, .int (nI x))] dL_isRead_428 (by decide) rfl ?_
          refine r_iload dL_isRead_430 6 rfl ?_
          refine r_bipush (v := (nI 97)) dL_isRead_432 (by decide) ?_
          refine n_icmp_lt 448 dL_isRead_434 (by decide) (by omega) (by omega) (fun c50 => absurd c50 (by omega)) (fun c50 => ?_)
          refine r_iload dL_isRead_437 6 rfl ?_
          refine r_bipush (v := (nI 122)) dL_isRead_439 (by decide) ?_
          refine n_icmp_gt 448 dL_isRead_441 (by decide) (by omega) (by omega) (fun c51 => absurd c51 (by omega)) (fun c51 => ?_)
          refine r_iconst (v := (nI 1)) dL_isRead_444 (by decide) ?_
          refine r_goto 449 dL_isRead_445 (by decide) ?_
          refine r_istore [(24, .int (nI 1)), (23, .int (nI 0)), (22, .int (nI k)), (21, .int (nI k)), (20, .int (nI ((wcs (fL A i e g) k).1))), (19, .int (b2i ((wcs (fL A i e g) k).2))), (18, .int (b2i (oL A i e g k))), (17, .int (nI ((tL A i e g).getD k 0))), (16, .int (nI (wcL (tL A i e g) * A 21 g))), (15, .int (nI 1)), (0, .ref (Q 0)), (1, .ref (Q 1)), (2, .ref (Q 2)), (3, .ref (Q 3)), (4, .ref (Q 4)), (5, .ref (Q 5)), (6, .int (nI i)), (7, .int (nI e)), (8, .int (nI g)), (9, .int (nI cn)), (10, .int (nI x))] dL_isRead_449 (by decide) rfl ?_
          refine r_iload dL_isRead_451 1 rfl ?_
          refine n_if_ne 475 dL_isRead_453 (by decide) (by omega) (fun c52 => absurd c52 (by decide)) (fun c52 => ?_)
          refine r_iload dL_isRead_456 0 rfl ?_
          refine n_if_ne 475 dL_isRead_458 (by decide) (by omega) (fun c53 => ?_) (fun c53 => absurd c53 (by decide))
          refine r_iload dL_isRead_475 1 rfl ?_
          refine n_if_eq 485 dL_isRead_477 (by decide) (by omega) (fun c54 => ?_) (fun c54 => absurd c54 (by decide))
          refine r_iload dL_isRead_485 0 rfl ?_
          refine n_if_eq 495 dL_isRead_487 (by decide) (by omega) (fun c55 => absurd c55 (by decide)) (fun c55 => ?_)
          refine r_iload dL_isRead_490 6 rfl ?_
          refine n_bif_ne 524 dL_isRead_492 (by decide) (fun c56 => absurd c56 (by rw [ho]; decide)) (fun c56 => ?_)
          refine r_iload dL_isRead_495 2 rfl ?_
          refine r_bipush (v := (nI 8)) dL_isRead_497 (by decide) ?_
          refine n_irem dL_isRead_499 (by omega) (by omega) (by omega) ?_
          refine n_if_gt 520 dL_isRead_500 (by decide) (by omega) (fun c500 => ?_) (fun c500 => ?_)
          · refine r_iconst (v := (nI 1)) dL_isRead_520 (by decide) ?_
            refine r_goto 525 dL_isRead_521 (by decide) ?_
            refine r_istore [(15, .int (nI 1)), (24, .int (nI 1)), (23, .int (nI 0)), (22, .int (nI k)), (21, .int (nI k)), (20, .int (nI ((wcs (fL A i e g) k).1))), (19, .int (b2i ((wcs (fL A i e g) k).2))), (18, .int (b2i (oL A i e g k))), (17, .int (nI ((tL A i e g).getD k 0))), (16, .int (nI (wcL (tL A i e g) * A 21 g))), (0, .ref (Q 0)), (1, .ref (Q 1)), (2, .ref (Q 2)), (3, .ref (Q 3)), (4, .ref (Q 4)), (5, .ref (Q 5)), (6, .int (nI i)), (7, .int (nI e)), (8, .int (nI g)), (9, .int (nI cn)), (10, .int (nI x))] dL_isRead_525 (by decide) rfl ?_
            refine r_iload dL_isRead_527 5 rfl ?_
            refine r_iload dL_isRead_529 2 rfl ?_
            refine n_if_ne 539 dL_isRead_531 (by decide) (by omega) (fun c58 => absurd c58 (by decide)) (fun c58 => ?_)
            refine r_iload dL_isRead_534 1 rfl ?_
            refine n_if_eq 548 dL_isRead_536 (by decide) (by omega) (fun c59 => absurd c59 (by decide)) (fun c59 => ?_)
            refine r_iload dL_isRead_539 6 rfl ?_
            refine n_bif_ne 548 dL_isRead_541 (by decide) (fun c541 => ?_) (fun c541 => ?_)
            · refine r_iconst (v := (nI 0)) dL_isRead_548 (by decide) ?_
              refine n_iadd dL_isRead_549 ?_
              refine r_top (nI ((wcs (fL A i e g) (k + 1)).1)) (by rw [hw1, c541]; rfl) ?_
              refine r_istore [(20, .int (nI ((wcs (fL A i e g) (k + 1)).1))), (15, .int (nI 1)), (24, .int (nI 1)), (23, .int (nI 0)), (22, .int (nI k)), (21, .int (nI k)), (19, .int (b2i ((wcs (fL A i e g) k).2))), (18, .int (b2i (oL A i e g k))), (17, .int (nI ((tL A i e g).getD k 0))), (16, .int (nI (wcL (tL A i e g) * A 21 g))), (0, .ref (Q 0)), (1, .ref (Q 1)), (2, .ref (Q 2)), (3, .ref (Q 3)), (4, .ref (Q 4)), (5, .ref (Q 5)), (6, .int (nI i)), (7, .int (nI e)), (8, .int (nI g)), (9, .int (nI cn)), (10, .int (nI x))] dL_isRead_550 (by decide) rfl ?_
              refine r_iload dL_isRead_552 3 rfl ?_
              refine n_if_ne 562 dL_isRead_554 (by decide) (by omega) (fun c61 => absurd c61 (by decide)) (fun c61 => ?_)
              refine r_iload dL_isRead_557 2 rfl ?_
              refine n_if_eq 566 dL_isRead_559 (by decide) (by omega) (fun c62 => absurd c62 (by decide)) (fun c62 => ?_)
              refine r_iconst (v := (nI 1)) dL_isRead_562 (by decide) ?_
              refine r_goto 567 dL_isRead_563 (by decide) ?_
              refine r_top (b2i ((wcs (fL A i e g) (k + 1)).2)) (by rw [hlb]; rfl) ?_
              refine r_istore [(19, .int (b2i ((wcs (fL A i e g) (k + 1)).2))), (20, .int (nI ((wcs (fL A i e g) (k + 1)).1))), (15, .int (nI 1)), (24, .int (nI 1)), (23, .int (nI 0)), (22, .int (nI k)), (21, .int (nI k)), (18, .int (b2i (oL A i e g k))), (17, .int (nI ((tL A i e g).getD k 0))), (16, .int (nI (wcL (tL A i e g) * A 21 g))), (0, .ref (Q 0)), (1, .ref (Q 1)), (2, .ref (Q 2)), (3, .ref (Q 3)), (4, .ref (Q 4)), (5, .ref (Q 5)), (6, .int (nI i)), (7, .int (nI e)), (8, .int (nI g)), (9, .int (nI cn)), (10, .int (nI x))] dL_isRead_567 (by decide) rfl ?_
              refine r_iload dL_isRead_569 8 rfl ?_
              refine r_bipush (v := (nI 46)) dL_isRead_571 (by decide) ?_
              refine n_icmp_eq 586 dL_isRead_573 (by decide) (by omega) (by omega) (fun c63 => absurd c63 (by omega)) (fun c63 => ?_)
              refine r_iload dL_isRead_576 7 rfl ?_
              refine n_bif_eq 590 dL_isRead_578 (by decide) (fun c64 => ?_) (fun c64 => absurd c64 (by rw [ho]; decide))
              refine r_iconst (v := (nI 0)) dL_isRead_590 (by decide) ?_
              refine r_top (b2i (oL A i e g (k + 1))) (by rw [hn2]; rfl) ?_
              refine r_istore [(18, .int (b2i (oL A i e g (k + 1)))), (19, .int (b2i ((wcs (fL A i e g) (k + 1)).2))), (20, .int (nI ((wcs (fL A i e g) (k + 1)).1))), (15, .int (nI 1)), (24, .int (nI 1)), (23, .int (nI 0)), (22, .int (nI k)), (21, .int (nI k)), (17, .int (nI ((tL A i e g).getD k 0))), (16, .int (nI (wcL (tL A i e g) * A 21 g))), (0, .ref (Q 0)), (1, .ref (Q 1)), (2, .ref (Q 2)), (3, .ref (Q 3)), (4, .ref (Q 4)), (5, .ref (Q 5)), (6, .int (nI i)), (7, .int (nI e)), (8, .int (nI g)), (9, .int (nI cn)), (10, .int (nI x))] dL_isRead_591 (by decide) rfl ?_
              refine r_iinc (nI (k + 1)) [(21, .int (nI (k + 1))), (18, .int (b2i (oL A i e g (k + 1)))), (19, .int (b2i ((wcs (fL A i e g) (k + 1)).2))), (20, .int (nI ((wcs (fL A i e g) (k + 1)).1))), (15, .int (nI 1)), (24, .int (nI 1)), (23, .int (nI 0)), (22, .int (nI k)), (17, .int (nI ((tL A i e g).getD k 0))), (16, .int (nI (wcL (tL A i e g) * A 21 g))), (0, .ref (Q 0)), (1, .ref (Q 1)), (2, .ref (Q 2)), (3, .ref (Q 3)), (4, .ref (Q 4)), (5, .ref (Q 5)), (6, .int (nI i)), (7, .int (nI e)), (8, .int (nI g)), (9, .int (nI cn)), (10, .int (nI x))] dL_isRead_593 7 rfl (nI_add k 1) (by decide) rfl ?_
              refine r_aload_n dL_isRead_596 rfl 10 rfl ?_
              refine r_iload dL_isRead_597 16 rfl ?_
              refine r_iload dL_isRead_599 17 rfl ?_
              refine r_iload dL_isRead_601 18 rfl ?_
              refine r_iload dL_isRead_603 7 rfl ?_
              refine r_iconst (v := (nI 1)) dL_isRead_605 (by decide) ?_
              refine n_iadd dL_isRead_606 ?_
              obtain ⟨fshq65, hq65⟩ := hL.r0
              refine r_callV (st := []) [.int (nI i), .int (nI e), .int (nI g), .int (nI (k + 1))] (40 * (10 - (k + 1)) + 40) (800 * (10 - (k + 1)) + 800) dL_isRead_607 kX8_sign nX8_sign lRL_61 hq65 rfl (L_sign (k := k + 1) hL hI hi he hg (by omega)) rfl rfl (Nat.le_of_ble_eq_true rfl) (by omega) (by omega) (fun _ _ h => h.elim) ?_
              intro r G66 hr
              obtain ⟨rfl, hL67⟩ := hr
              show WP mL_isRead _ _ _ _ _ _ _ 610 [(21, .int (nI (k + 1))), (18, .int (b2i (oL A i e g (k + 1)))), (19, .int (b2i ((wcs (fL A i e g) (k + 1)).2))), (20, .int (nI ((wcs (fL A i e g) (k + 1)).1))), (15, .int (nI 1)), (24, .int (nI 1)), (23, .int (nI 0)), (22, .int (nI k)), (17, .int (nI ((tL A i e g).getD k 0))), (16, .int (nI (wcL (tL A i e g) * A 21 g))), (0, .ref (Q 0)), (1, .ref (Q 1)), (2, .ref (Q 2)), (3, .ref (Q 3)), (4, .ref (Q 4)), (5, .ref (Q 5)), (6, .int (nI i)), (7, .int (nI e)), (8, .int (nI g)), (9, .int (nI cn)), (10, .int (nI x))] [.int (nI ((tL A i e g).getD (k + 1) 0))]
              refine r_istore [(17, .int (nI ((tL A i e g).getD (k + 1) 0))), (21, .int (nI (k + 1))), (18, .int (b2i (oL A i e g (k + 1)))), (19, .int (b2i ((wcs (fL A i e g) (k + 1)).2))), (20, .int (nI ((wcs (fL A i e g) (k + 1)).1))), (15, .int (nI 1)), (24, .int (nI 1)), (23, .int (nI 0)), (22, .int (nI k)), (16, .int (nI (wcL (tL A i e g) * A 21 g))), (0, .ref (Q 0)), (1, .ref (Q 1)), (2, .ref (Q 2)), (3, .ref (Q 3)), (4, .ref (Q 4)), (5, .ref (Q 5)), (6, .int (nI i)), (7, .int (nI e)), (8, .int (nI g)), (9, .int (nI cn)), (10, .int (nI x))] dL_isRead_610 (by decide) rfl ?_
              refine r_iinc (nI (k + 1)) [(22, .int (nI (k + 1))), (17, .int (nI ((tL A i e g).getD (k + 1) 0))), (21, .int (nI (k + 1))), (18, .int (b2i (oL A i e g (k + 1)))), (19, .int (b2i ((wcs (fL A i e g) (k + 1)).2))), (20, .int (nI ((wcs (fL A i e g) (k + 1)).1))), (15, .int (nI 1)), (24, .int (nI 1)), (23, .int (nI 0)), (16, .int (nI (wcL (tL A i e g) * A 21 g))), (0, .ref (Q 0)), (1, .ref (Q 1)), (2, .ref (Q 2)), (3, .ref (Q 3)), (4, .ref (Q 4)), (5, .ref (Q 5)), (6, .int (nI i)), (7, .int (nI e)), (8, .int (nI g)), (9, .int (nI cn)), (10, .int (nI x))] dL_isRead_612 8 rfl (nI_add k 1) (by decide) rfl ?_
              refine r_goto 392 dL_isRead_615 (by decide) ?_
              exact WP.loc [0, 2, 5, 4, 3, 1, 9, 6, 10, 11, 12, 13, 14, 15, 16, 17, 18, 19, 20] rfl (WP.bud (by omega) (by omega) (ih (k + 1) _ ⟨hL67, by omega, by omega⟩ (by omega)))
            · refine r_iconst (v := (nI 1)) dL_isRead_544 (by decide) ?_
              refine r_goto 549 dL_isRead_545 (by decide) ?_
              refine n_iadd dL_isRead_549 ?_
              refine r_top (nI ((wcs (fL A i e g) (k + 1)).1)) (by rw [hw1, c541]; rfl) ?_
              refine r_istore [(20, .int (nI ((wcs (fL A i e g) (k + 1)).1))), (15, .int (nI 1)), (24, .int (nI 1)), (23, .int (nI 0)), (22, .int (nI k)), (21, .int (nI k)), (19, .int (b2i ((wcs (fL A i e g) k).2))), (18, .int (b2i (oL A i e g k))), (17, .int (nI ((tL A i e g).getD k 0))), (16, .int (nI (wcL (tL A i e g) * A 21 g))), (0, .ref (Q 0)), (1, .ref (Q 1)), (2, .ref (Q 2)), (3, .ref (Q 3)), (4, .ref (Q 4)), (5, .ref (Q 5)), (6, .int (nI i)), (7, .int (nI e)), (8, .int (nI g)), (9, .int (nI cn)), (10, .int (nI x))] dL_isRead_550 (by decide) rfl ?_
              refine r_iload dL_isRead_552 3 rfl ?_
              refine n_if_ne 562 dL_isRead_554 (by decide) (by omega) (fun c68 => absurd c68 (by decide)) (fun c68 => ?_)
              refine r_iload dL_isRead_557 2 rfl ?_
              refine n_if_eq 566 dL_isRead_559 (by decide) (by omega) (fun c69 => absurd c69 (by decide)) (fun c69 => ?_)
              refine r_iconst (v := (nI 1)) dL_isRead_562 (by decide) ?_
              refine r_goto 567 dL_isRead_563 (by decide) ?_
              refine r_top (b2i ((wcs (fL A i e g) (k + 1)).2)) (by rw [hlb]; rfl) ?_
              refine r_istore [(19, .int (b2i ((wcs (fL A i e g) (k + 1)).2))), (20, .int (nI ((wcs (fL A i e g) (k + 1)).1))), (15, .int (nI 1)), (24, .int (nI 1)), (23, .int (nI 0)), (22, .int (nI k)), (21, .int (nI k)), (18, .int (b2i (oL A i e g k))), (17, .int (nI ((tL A i e g).getD k 0))), (16, .int (nI (wcL (tL A i e g) * A 21 g))), (0, .ref (Q 0)), (1, .ref (Q 1)), (2, .ref (Q 2)), (3, .ref (Q 3)), (4, .ref (Q 4)), (5, .ref (Q 5)), (6, .int (nI i)), (7, .int (nI e)), (8, .int (nI g)), (9, .int (nI cn)), (10, .int (nI x))] dL_isRead_567 (by decide) rfl ?_
              refine r_iload dL_isRead_569 8 rfl ?_
              refine r_bipush (v := (nI 46)) dL_isRead_571 (by decide) ?_
              refine n_icmp_eq 586 dL_isRead_573 (by decide) (by omega) (by omega) (fun c70 => absurd c70 (by omega)) (fun c70 => ?_)
              refine r_iload dL_isRead_576 7 rfl ?_
              refine n_bif_eq 590 dL_isRead_578 (by decide) (fun c71 => ?_) (fun c71 => absurd c71 (by rw [ho]; decide))
              refine r_iconst (v := (nI 0)) dL_isRead_590 (by decide) ?_
              refine r_top (b2i (oL A i e g (k + 1))) (by rw [hn2]; rfl) ?_
              refine r_istore [(18, .int (b2i (oL A i e g (k + 1)))), (19, .int (b2i ((wcs (fL A i e g) (k + 1)).2))), (20, .int (nI ((wcs (fL A i e g) (k + 1)).1))), (15, .int (nI 1)), (24, .int (nI 1)), (23, .int (nI 0)), (22, .int (nI k)), (21, .int (nI k)), (17, .int (nI ((tL A i e g).getD k 0))), (16, .int (nI (wcL (tL A i e g) * A 21 g))), (0, .ref (Q 0)), (1, .ref (Q 1)), (2, .ref (Q 2)), (3, .ref (Q 3)), (4, .ref (Q 4)), (5, .ref (Q 5)), (6, .int (nI i)), (7, .int (nI e)), (8, .int (nI g)), (9, .int (nI cn)), (10, .int (nI x))] dL_isRead_591 (by decide) rfl ?_
              refine r_iinc (nI (k + 1)) [(21, .int (nI (k + 1))), (18, .int (b2i (oL A i e g (k + 1)))), (19, .int (b2i ((wcs (fL A i e g) (k + 1)).2))), (20, .int (nI ((wcs (fL A i e g) (k + 1)).1))), (15, .int (nI 1)), (24, .int (nI 1)), (23, .int (nI 0)), (22, .int (nI k)), (17, .int (nI ((tL A i e g).getD k 0))), (16, .int (nI (wcL (tL A i e g) * A 21 g))), (0, .ref (Q 0)), (1, .ref (Q 1)), (2, .ref (Q 2)), (3, .ref (Q 3)), (4, .ref (Q 4)), (5, .ref (Q 5)), (6, .int (nI i)), (7, .int (nI e)), (8, .int (nI g)), (9, .int (nI cn)), (10, .int (nI x))] dL_isRead_593 7 rfl (nI_add k 1) (by decide) rfl ?_
              refine r_aload_n dL_isRead_596 rfl 10 rfl ?_
              refine r_iload dL_isRead_597 16 rfl ?_
              refine r_iload dL_isRead_599 17 rfl ?_
              refine r_iload dL_isRead_601 18 rfl ?_
              refine r_iload dL_isRead_603 7 rfl ?_
              refine r_iconst (v := (nI 1)) dL_isRead_605 (by decide) ?_
              refine n_iadd dL_isRead_606 ?_
              obtain ⟨fshq72, hq72⟩ := hL.r0
              refine r_callV (st := []) [.int (nI i), .int (nI e), .int (nI g), .int (nI (k + 1))] (40 * (10 - (k + 1)) + 40) (800 * (10 - (k + 1)) + 800) dL_isRead_607 kX8_sign nX8_sign lRL_61 hq72 rfl (L_sign (k := k + 1) hL hI hi he hg (by omega)) rfl rfl (Nat.le_of_ble_eq_true rfl) (by omega) (by omega) (fun _ _ h => h.elim) ?_
              intro r G73 hr
              obtain ⟨rfl, hL74⟩ := hr
              show WP mL_isRead _ _ _ _ _ _ _ 610 [(21, .int (nI (k + 1))), (18, .int (b2i (oL A i e g (k + 1)))), (19, .int (b2i ((wcs (fL A i e g) (k + 1)).2))), (20, .int (nI ((wcs (fL A i e g) (k + 1)).1))), (15, .int (nI 1)), (24, .int (nI 1)), (23, .int (nI 0)), (22, .int (nI k)), (17, .int (nI ((tL A i e g).getD k 0))), (16, .int (nI (wcL (tL A i e g) * A 21 g))), (0, .ref (Q 0)), (1, .ref (Q 1)), (2, .ref (Q 2)), (3, .ref (Q 3)), (4, .ref (Q 4)), (5, .ref (Q 5)), (6, .int (nI i)), (7, .int (nI e)), (8, .int (nI g)), (9, .int (nI cn)), (10, .int (nI x))] [.int (nI ((tL A i e g).getD (k + 1) 0))]
              refine r_istore [(17, .int (nI ((tL A i e g).getD (k + 1) 0))), (21, .int (nI (k + 1))), (18, .int (b2i (oL A i e g (k + 1)))), (19, .int (b2i ((wcs (fL A i e g) (k + 1)).2))), (20, .int (nI ((wcs (fL A i e g) (k + 1)).1))), (15, .int (nI 1)), (24, .int (nI 1)), (23, .int (nI 0)), (22, .int (nI k)), (16, .int (nI (wcL (tL A i e g) * A 21 g))), (0, .ref (Q 0)), (1, .ref (Q 1)), (2, .ref (Q 2)), (3, .ref (Q 3)), (4, .ref (Q 4)), (5, .ref (Q 5)), (6, .int (nI i)), (7, .int (nI e)), (8, .int (nI g)), (9, .int (nI cn)), (10, .int (nI x))] dL_isRead_610 (by decide) rfl ?_
              refine r_iinc (nI (k + 1)) [(22, .int (nI (k + 1))), (17, .int (nI ((tL A i e g).getD (k + 1) 0))), (21, .int (nI (k + 1))), (18, .int (b2i (oL A i e g (k + 1)))), (19, .int (b2i ((wcs (fL A i e g) (k + 1)).2))), (20, .int (nI ((wcs (fL A i e g) (k + 1)).1))), (15, .int (nI 1)), (24, .int (nI 1)), (23, .int (nI 0)), (16, .int (nI (wcL (tL A i e g) * A 21 g))), (0, .ref (Q 0)), (1, .ref (Q 1)), (2, .ref (Q 2)), (3, .ref (Q 3)), (4, .ref (Q 4)), (5, .ref (Q 5)), (6, .int (nI i)), (7, .int (nI e)), (8, .int (nI g)), (9, .int (nI cn)), (10, .int (nI x))] dL_isRead_612 8 rfl (nI_add k 1) (by decide) rfl ?_
              refine r_goto 392 dL_isRead_615 (by decide) ?_
              exact WP.loc [0, 2, 5, 4, 3, 1, 9, 6, 10, 11, 12, 13, 14, 15, 16, 17, 18, 19, 20] rfl (WP.bud (by omega) (by omega) (ih (k + 1) _ ⟨hL74, by omega, by omega⟩ (by omega)))
          · refine r_aload_n dL_isRead_503 rfl 10 rfl ?_
            refine r_iload dL_isRead_504 16 rfl ?_
            refine r_iload dL_isRead_506 17 rfl ?_
            refine r_iload dL_isRead_508 18 rfl ?_
            refine r_iload dL_isRead_510 2 rfl ?_
            obtain ⟨fshq75, hq75⟩ := hL.r0
            refine r_callV (st := []) [.int (nI i), .int (nI e), .int (nI g), .int (nI k)] (40 * (10 - (k + 1)) + 40) (800 * (10 - (k + 1)) + 800) dL_isRead_512 kX8_signAnew nX8_signAnew lRL_65 hq75 rfl (L_signAnew (k := k) hL hI hi he hg (by omega)) rfl rfl (Nat.le_of_ble_eq_true rfl) (by omega) (by omega) (fun _ _ h => h.elim) ?_
            intro r G76 hr
            obtain ⟨rfl, hL77⟩ := hr
            show WP mL_isRead _ _ _ _ _ _ _ 515 [(24, .int (nI 1)), (23, .int (nI 0)), (22, .int (nI k)), (21, .int (nI k)), (20, .int (nI ((wcs (fL A i e g) k).1))), (19, .int (b2i ((wcs (fL A i e g) k).2))), (18, .int (b2i (oL A i e g k))), (17, .int (nI ((tL A i e g).getD k 0))), (16, .int (nI (wcL (tL A i e g) * A 21 g))), (15, .int (nI 1)), (0, .ref (Q 0)), (1, .ref (Q 1)), (2, .ref (Q 2)), (3, .ref (Q 3)), (4, .ref (Q 4)), (5, .ref (Q 5)), (6, .int (nI i)), (7, .int (nI e)), (8, .int (nI g)), (9, .int (nI cn)), (10, .int (nI x))] [.int (nI ((tL A i e g).getD k 0))]
            refine r_iload dL_isRead_515 7 rfl ?_
            refine n_icmp_ne 524 dL_isRead_517 (by decide) (by omega) (by omega) (fun c78 => absurd c78 (fun q => q rfl)) (fun c78 => ?_)
            refine r_iconst (v := (nI 1)) dL_isRead_520 (by decide) ?_
            refine r_goto 525 dL_isRead_521 (by decide) ?_
            refine r_istore [(15, .int (nI 1)), (24, .int (nI 1)), (23, .int (nI 0)), (22, .int (nI k)), (21, .int (nI k)), (20, .int (nI ((wcs (fL A i e g) k).1))), (19, .int (b2i ((wcs (fL A i e g) k).2))), (18, .int (b2i (oL A i e g k))), (17, .int (nI ((tL A i e g).getD k 0))), (16, .int (nI (wcL (tL A i e g) * A 21 g))), (0, .ref (Q 0)), (1, .ref (Q 1)), (2, .ref (Q 2)), (3, .ref (Q 3)), (4, .ref (Q 4)), (5, .ref (Q 5)), (6, .int (nI i)), (7, .int (nI e)), (8, .int (nI g)), (9, .int (nI cn)), (10, .int (nI x))] dL_isRead_525 (by decide) rfl ?_
            refine r_iload dL_isRead_527 5 rfl ?_
            refine r_iload dL_isRead_529 2 rfl ?_
            refine n_if_ne 539 dL_isRead_531 (by decide) (by omega) (fun c79 => absurd c79 (by decide)) (fun c79 => ?_)
            refine r_iload dL_isRead_534 1 rfl ?_
            refine n_if_eq 548 dL_isRead_536 (by decide) (by omega) (fun c80 => absurd c80 (by decide)) (fun c80 => ?_)
            refine r_iload dL_isRead_539 6 rfl ?_
            refine n_bif_ne 548 dL_isRead_541 (by decide) (fun c541 => ?_) (fun c541 => ?_)
            · refine r_iconst (v := (nI 0)) dL_isRead_548 (by decide) ?_
              refine n_iadd dL_isRead_549 ?_
              refine r_top (nI ((wcs (fL A i e g) (k + 1)).1)) (by rw [hw1, c541]; rfl) ?_
              refine r_istore [(20, .int (nI ((wcs (fL A i e g) (k + 1)).1))), (15, .int (nI 1)), (24, .int (nI 1)), (23, .int (nI 0)), (22, .int (nI k)), (21, .int (nI k)), (19, .int (b2i ((wcs (fL A i e g) k).2))), (18, .int (b2i (oL A i e g k))), (17, .int (nI ((tL A i e g).getD k 0))), (16, .int (nI (wcL (tL A i e g) * A 21 g))), (0, .ref (Q 0)), (1, .ref (Q 1)), (2, .ref (Q 2)), (3, .ref (Q 3)), (4, .ref (Q 4)), (5, .ref (Q 5)), (6, .int (nI i)), (7, .int (nI e)), (8, .int (nI g)), (9, .int (nI cn)), (10, .int (nI x))] dL_isRead_550 (by decide) rfl ?_
              refine r_iload dL_isRead_552 3 rfl ?_
              refine n_if_ne 562 dL_isRead_554 (by decide) (by omega) (fun c82 => absurd c82 (by decide)) (fun c82 => ?_)
              refine r_iload dL_isRead_557 2 rfl ?_
              refine n_if_eq 566 dL_isRead_559 (by decide) (by omega) (fun c83 => absurd c83 (by decide)) (fun c83 => ?_)
              refine r_iconst (v := (nI 1)) dL_isRead_562 (by decide) ?_
              refine r_goto 567 dL_isRead_563 (by decide) ?_
              refine r_top (b2i ((wcs (fL A i e g) (k + 1)).2)) (by rw [hlb]; rfl) ?_
              refine r_istore [(19, .int (b2i ((wcs (fL A i e g) (k + 1)).2))), (20, .int (nI ((wcs (fL A i e g) (k + 1)).1))), (15, .int (nI 1)), (24, .int (nI 1)), (23, .int (nI 0)), (22, .int (nI k)), (21, .int (nI k)), (18, .int (b2i (oL A i e g k))), (17, .int (nI ((tL A i e g).getD k 0))), (16, .int (nI (wcL (tL A i e g) * A 21 g))), (0, .ref (Q 0)), (1, .ref (Q 1)), (2, .ref (Q 2)), (3, .ref (Q 3)), (4, .ref (Q 4)), (5, .ref (Q 5)), (6, .int (nI i)), (7, .int (nI e)), (8, .int (nI g)), (9, .int (nI cn)), (10, .int (nI x))] dL_isRead_567 (by decide) rfl ?_
              refine r_iload dL_isRead_569 8 rfl ?_
              refine r_bipush (v := (nI 46)) dL_isRead_571 (by decide) ?_
              refine n_icmp_eq 586 dL_isRead_573 (by decide) (by omega) (by omega) (fun c84 => absurd c84 (by omega)) (fun c84 => ?_)
              refine r_iload dL_isRead_576 7 rfl ?_
              refine n_bif_eq 590 dL_isRead_578 (by decide) (fun c85 => ?_) (fun c85 => absurd c85 (by rw [ho]; decide))
              refine r_iconst (v := (nI 0)) dL_isRead_590 (by decide) ?_
              refine r_top (b2i (oL A i e g (k + 1))) (by rw [hn2]; rfl) ?_
              refine r_istore [(18, .int (b2i (oL A i e g (k + 1)))), (19, .int (b2i ((wcs (fL A i e g) (k + 1)).2))), (20, .int (nI ((wcs (fL A i e g) (k + 1)).1))), (15, .int (nI 1)), (24, .int (nI 1)), (23, .int (nI 0)), (22, .int (nI k)), (21, .int (nI k)), (17, .int (nI ((tL A i e g).getD k 0))), (16, .int (nI (wcL (tL A i e g) * A 21 g))), (0, .ref (Q 0)), (1, .ref (Q 1)), (2, .ref (Q 2)), (3, .ref (Q 3)), (4, .ref (Q 4)), (5, .ref (Q 5)), (6, .int (nI i)), (7, .int (nI e)), (8, .int (nI g)), (9, .int (nI cn)), (10, .int (nI x))] dL_isRead_591 (by decide) rfl ?_
              refine r_iinc (nI (k + 1)) [(21, .int (nI (k + 1))), (18, .int (b2i (oL A i e g (k + 1)))), (19, .int (b2i ((wcs (fL A i e g) (k + 1)).2))), (20, .int (nI ((wcs (fL A i e g) (k + 1)).1))), (15, .int (nI 1)), (24, .int (nI 1)), (23, .int (nI 0)), (22, .int (nI k)), (17, .int (nI ((tL A i e g).getD k 0))), (16, .int (nI (wcL (tL A i e g) * A 21 g))), (0, .ref (Q 0)), (1, .ref (Q 1)), (2, .ref (Q 2)), (3, .ref (Q 3)), (4, .ref (Q 4)), (5, .ref (Q 5)), (6, .int (nI i)), (7, .int (nI e)), (8, .int (nI g)), (9, .int (nI cn)), (10, .int (nI x))] dL_isRead_593 7 rfl (nI_add k 1) (by decide) rfl ?_
              refine r_aload_n dL_isRead_596 rfl 10 rfl ?_
              refine r_iload dL_isRead_597 16 rfl ?_
              refine r_iload dL_isRead_599 17 rfl ?_
              refine r_iload dL_isRead_601 18 rfl ?_
              refine r_iload dL_isRead_603 7 rfl ?_
              refine r_iconst (v := (nI 1)) dL_isRead_605 (by decide) ?_
              refine n_iadd dL_isRead_606 ?_
              obtain ⟨fshq86, hq86⟩ := hL77.r0
              refine r_callV (st := []) [.int (nI i), .int (nI e), .int (nI g), .int (nI (k + 1))] (40 * (10 - (k + 1)) + 20) (800 * (10 - (k + 1)) + 400) dL_isRead_607 kX8_sign nX8_sign lRL_61 hq86 rfl (L_sign (k := k + 1) hL77 hI hi he hg (by omega)) rfl rfl (Nat.le_of_ble_eq_true rfl) (by omega) (by omega) (fun _ _ h => h.elim) ?_
              intro r G87 hr
              obtain ⟨rfl, hL88⟩ := hr
              show WP mL_isRead _ _ _ _ _ _ _ 610 [(21, .int (nI (k + 1))), (18, .int (b2i (oL A i e g (k + 1)))), (19, .int (b2i ((wcs (fL A i e g) (k + 1)).2))), (20, .int (nI ((wcs (fL A i e g) (k + 1)).1))), (15, .int (nI 1)), (24, .int (nI 1)), (23, .int (nI 0)), (22, .int (nI k)), (17, .int (nI ((tL A i e g).getD k 0))), (16, .int (nI (wcL (tL A i e g) * A 21 g))), (0, .ref (Q 0)), (1, .ref (Q 1)), (2, .ref (Q 2)), (3, .ref (Q 3)), (4, .ref (Q 4)), (5, .ref (Q 5)), (6, .int (nI i)), (7, .int (nI e)), (8, .int (nI g)), (9, .int (nI cn)), (10, .int (nI x))] [.int (nI ((tL A i e g).getD (k + 1) 0))]
              refine r_istore [(17, .int (nI ((tL A i e g).getD (k + 1) 0))), (21, .int (nI (k + 1))), (18, .int (b2i (oL A i e g (k + 1)))), (19, .int (b2i ((wcs (fL A i e g) (k + 1)).2))), (20, .int (nI ((wcs (fL A i e g) (k + 1)).1))), (15, .int (nI 1)), (24, .int (nI 1)), (23, .int (nI 0)), (22, .int (nI k)), (16, .int (nI (wcL (tL A i e g) * A 21 g))), (0, .ref (Q 0)), (1, .ref (Q 1)), (2, .ref (Q 2)), (3, .ref (Q 3)), (4, .ref (Q 4)), (5, .ref (Q 5)), (6, .int (nI i)), (7, .int (nI e)), (8, .int (nI g)), (9, .int (nI cn)), (10, .int (nI x))] dL_isRead_610 (by decide) rfl ?_
              refine r_iinc (nI (k + 1)) [(22, .int (nI (k + 1))), (17, .int (nI ((tL A i e g).getD (k + 1) 0))), (21, .int (nI (k + 1))), (18, .int (b2i (oL A i e g (k + 1)))), (19, .int (b2i ((wcs (fL A i e g) (k + 1)).2))), (20, .int (nI ((wcs (fL A i e g) (k + 1)).1))), (15, .int (nI 1)), (24, .int (nI 1)), (23, .int (nI 0)), (16, .int (nI (wcL (tL A i e g) * A 21 g))), (0, .ref (Q 0)), (1, .ref (Q 1)), (2, .ref (Q 2)), (3, .ref (Q 3)), (4, .ref (Q 4)), (5, .ref (Q 5)), (6, .int (nI i)), (7, .int (nI e)), (8, .int (nI g)), (9, .int (nI cn)), (10, .int (nI x))] dL_isRead_612 8 rfl (nI_add k 1) (by decide) rfl ?_
              refine r_goto 392 dL_isRead_615 (by decide) ?_
              exact WP.loc [0, 2, 5, 4, 3, 1, 9, 6, 10, 11, 12, 13, 14, 15, 16, 17, 18, 19, 20] rfl (WP.bud (by omega) (by omega) (ih (k + 1) _ ⟨hL88, by omega, by omega⟩ (by omega)))
            · refine r_iconst (v := (nI 1)) dL_isRead_544 (by decide) ?_
              refine r_goto 549 dL_isRead_545 (by decide) ?_
              refine n_iadd dL_isRead_549 ?_
              refine r_top (nI ((wcs (fL A i e g) (k + 1)).1)) (by rw [hw1, c541]; rfl) ?_
              refine r_istore [(20, .int (nI ((wcs (fL A i e g) (k + 1)).1))), (15, .int (nI 1)), (24, .int (nI 1)), (23, .int (nI 0)), (22, .int (nI k)), (21, .int (nI k)), (19, .int (b2i ((wcs (fL A i e g) k).2))), (18, .int (b2i (oL A i e g k))), (17, .int (nI ((tL A i e g).getD k 0))), (16, .int (nI (wcL (tL A i e g) * A 21 g))), (0, .ref (Q 0)), (1, .ref (Q 1)), (2, .ref (Q 2)), (3, .ref (Q 3)), (4, .ref (Q 4)), (5, .ref (Q 5)), (6, .int (nI i)), (7, .int (nI e)), (8, .int (nI g)), (9, .int (nI cn)), (10, .int (nI x))] dL_isRead_550 (by decide) rfl ?_
              refine r_iload dL_isRead_552 3 rfl ?_
              refine n_if_ne 562 dL_isRead_554 (by decide) (by omega) (fun c89 => absurd c89 (by decide)) (fun c89 => ?_)
              refine r_iload dL_isRead_557 2 rfl ?_
              refine n_if_eq 566 dL_isRead_559 (by decide) (by omega) (fun c90 => absurd c90 (by decide)) (fun c90 => ?_)
              refine r_iconst (v := (nI 1)) dL_isRead_562 (by decide) ?_
              refine r_goto 567 dL_isRead_563 (by decide) ?_
              refine r_top (b2i ((wcs (fL A i e g) (k + 1)).2)) (by rw [hlb]; rfl) ?_
              refine r_istore [(19, .int (b2i ((wcs (fL A i e g) (k + 1)).2))), (20, .int (nI ((wcs (fL A i e g) (k + 1)).1))), (15, .int (nI 1)), (24, .int (nI 1)), (23, .int (nI 0)), (22, .int (nI k)), (21, .int (nI k)), (18, .int (b2i (oL A i e g k))), (17, .int (nI ((tL A i e g).getD k 0))), (16, .int (nI (wcL (tL A i e g) * A 21 g))), (0, .ref (Q 0)), (1, .ref (Q 1)), (2, .ref (Q 2)), (3, .ref (Q 3)), (4, .ref (Q 4)), (5, .ref (Q 5)), (6, .int (nI i)), (7, .int (nI e)), (8, .int (nI g)), (9, .int (nI cn)), (10, .int (nI x))] dL_isRead_567 (by decide) rfl ?_
              refine r_iload dL_isRead_569 8 rfl ?_
              refine r_bipush (v := (nI 46)) dL_isRead_571 (by decide) ?_
              refine n_icmp_eq 586 dL_isRead_573 (by decide) (by omega) (by omega) (fun c91 => absurd c91 (by omega)) (fun c91 => ?_)
              refine r_iload dL_isRead_576 7 rfl ?_
              refine n_bif_eq 590 dL_isRead_578 (by decide) (fun c92 => ?_) (fun c92 => absurd c92 (by rw [ho]; decide))
              refine r_iconst (v := (nI 0)) dL_isRead_590 (by decide) ?_
              refine r_top (b2i (oL A i e g (k + 1))) (by rw [hn2]; rfl) ?_
              refine r_istore [(18, .int (b2i (oL A i e g (k + 1)))), (19, .int (b2i ((wcs (fL A i e g) (k + 1)).2))), (20, .int (nI ((wcs (fL A i e g) (k + 1)).1))), (15, .int (nI 1)), (24, .int (nI 1)), (23, .int (nI 0)), (22, .int (nI k)), (21, .int (nI k)), (17, .int (nI ((tL A i e g).getD k 0))), (16, .int (nI (wcL (tL A i e g) * A 21 g))), (0, .ref (Q 0)), (1, .ref (Q 1)), (2, .ref (Q 2)), (3, .ref (Q 3)), (4, .ref (Q 4)), (5, .ref (Q 5)), (6, .int (nI i)), (7, .int (nI e)), (8, .int (nI g)), (9, .int (nI cn)), (10, .int (nI x))] dL_isRead_591 (by decide) rfl ?_
              refine r_iinc (nI (k + 1)) [(21, .int (nI (k + 1))), (18, .int (b2i (oL A i e g (k + 1)))), (19, .int (b2i ((wcs (fL A i e g) (k + 1)).2))), (20, .int (nI ((wcs (fL A i e g) (k + 1)).1))), (15, .int (nI 1)), (24, .int (nI 1)), (23, .int (nI 0)), (22, .int (nI k)), (17, .int (nI ((tL A i e g).getD k 0))), (16, .int (nI (wcL (tL A i e g) * A 21 g))), (0, .ref (Q 0)), (1, .ref (Q 1)), (2, .ref (Q 2)), (3, .ref (Q 3)), (4, .ref (Q 4)), (5, .ref (Q 5)), (6, .int (nI i)), (7, .int (nI e)), (8, .int (nI g)), (9, .int (nI cn)), (10, .int (nI x))] dL_isRead_593 7 rfl (nI_add k 1) (by decide) rfl ?_
              refine r_aload_n dL_isRead_596 rfl 10 rfl ?_
              refine r_iload dL_isRead_597 16 rfl ?_
              refine r_iload dL_isRead_599 17 rfl ?_
              refine r_iload dL_isRead_601 18 rfl ?_
              refine r_iload dL_isRead_603 7 rfl ?_
              refine r_iconst (v := (nI 1)) dL_isRead_605 (by decide) ?_
              refine n_iadd dL_isRead_606 ?_
              obtain ⟨fshq93, hq93⟩ := hL77.r0
              refine r_callV (st := []) [.int (nI i), .int (nI e), .int (nI g), .int (nI (k + 1))] (40 * (10 - (k + 1)) + 20) (800 * (10 - (k + 1)) + 400) dL_isRead_607 kX8_sign nX8_sign lRL_61 hq93 rfl (L_sign (k := k + 1) hL77 hI hi he hg (by omega)) rfl rfl (Nat.le_of_ble_eq_true rfl) (by omega) (by omega) (fun _ _ h => h.elim) ?_
              intro r G94 hr
              obtain ⟨rfl, hL95⟩ := hr
              show WP mL_isRead _ _ _ _ _ _ _ 610 [(21, .int (nI (k + 1))), (18, .int (b2i (oL A i e g (k + 1)))), (19, .int (b2i ((wcs (fL A i e g) (k + 1)).2))), (20, .int (nI ((wcs (fL A i e g) (k + 1)).1))), (15, .int (nI 1)), (24, .int (nI 1)), (23, .int (nI 0)), (22, .int (nI k)), (17, .int (nI ((tL A i e g).getD k 0))), (16, .int (nI (wcL (tL A i e g) * A 21 g))), (0, .ref (Q 0)), (1, .ref (Q 1)), (2, .ref (Q 2)), (3, .ref (Q 3)), (4, .ref (Q 4)), (5, .ref (Q 5)), (6, .int (nI i)), (7, .int (nI e)), (8, .int (nI g)), (9, .int (nI cn)), (10, .int (nI x))] [.int (nI ((tL A i e g).getD (k + 1) 0))]
              refine r_istore [(17, .int (nI ((tL A i e g).getD (k + 1) 0))), (21, .int (nI (k + 1))), (18, .int (b2i (oL A i e g (k + 1)))), (19, .int (b2i ((wcs (fL A i e g) (k + 1)).2))), (20, .int (nI ((wcs (fL A i e g) (k + 1)).1))), (15, .int (nI 1)), (24, .int (nI 1)), (23, .int (nI 0)), (22, .int (nI k)), (16, .int (nI (wcL (tL A i e g) * A 21 g))), (0, .ref (Q 0)), (1, .ref (Q 1)), (2, .ref (Q 2)), (3, .ref (Q 3)), (4, .ref (Q 4)), (5, .ref (Q 5)), (6, .int (nI i)), (7, .int (nI e)), (8, .int (nI g)), (9, .int (nI cn)), (10, .int (nI x))] dL_isRead_610 (by decide) rfl ?_
              refine r_iinc (nI (k + 1)) [(22, .int (nI (k + 1))), (17, .int (nI ((tL A i e g).getD (k + 1) 0))), (21, .int (nI (k + 1))), (18, .int (b2i (oL A i e g (k + 1)))), (19, .int (b2i ((wcs (fL A i e g) (k + 1)).2))), (20, .int (nI ((wcs (fL A i e g) (k + 1)).1))), (15, .int (nI 1)), (24, .int (nI 1)), (23, .int (nI 0)), (16, .int (nI (wcL (tL A i e g) * A 21 g))), (0, .ref (Q 0)), (1, .ref (Q 1)), (2, .ref (Q 2)), (3, .ref (Q 3)), (4, .ref (Q 4)), (5, .ref (Q 5)), (6, .int (nI i)), (7, .int (nI e)), (8, .int (nI g)), (9, .int (nI cn)), (10, .int (nI x))] dL_isRead_612 8 rfl (nI_add k 1) (by decide) rfl ?_
              refine r_goto 392 dL_isRead_615 (by decide) ?_
              exact WP.loc [0, 2, 5, 4, 3, 1, 9, 6, 10, 11, 12, 13, 14, 15, 16, 17, 18, 19, 20] rfl (WP.bud (by omega) (by omega) (ih (k + 1) _ ⟨hL95, by omega, by omega⟩ (by omega)))
        · have hlb : (wcs (fL A i e g) (k + 1)).2 = false := by
            show lB (nI ((tL A i e g).getD k 0)) = false
            rw [lB_n (by omega)]
            unfold ltN
            rw [hs1]; rfl
          have hwn : (wcs (fL A i e g) (k + 1)).2 = false := hlb
          have hw1 : (wcs (fL A i e g) (k + 1)).1 = (wcs (fL A i e g) k).1 + (if false && !(wcs (fL A i e g) k).2 then 1 else 0) := by
            have h9 : (wcs (fL A i e g) (k + 1)).1 = (wcs (fL A i e g) k).1 + (if lB (fL A i e g k) && !(wcs (fL A i e g) k).2 then 1 else 0) := rfl
            rw [h9, show lB (fL A i e g k) = false from hlb]
          refine r_iload dL_isRead_409 5 rfl ?_
          refine r_bipush (v := (nI 65)) dL_isRead_411 (by decide) ?_
          refine n_icmp_lt 427 dL_isRead_413 (by decide) (by omega) (by omega) (fun c96 => ?_) (fun c96 => absurd c96 (by omega))
          refine r_iconst (v := (nI 0)) dL_isRead_427 (by decide) ?_
          refine r_istore [(23, .int (nI 0)), (22, .int (nI k)), (21, .int (nI k)), (20, .int (nI ((wcs (fL A i e g) k).1))), (19, .int (b2i ((wcs (fL A i e g) k).2))), (18, .int (b2i (oL A i e g k))), (17, .int (nI ((tL A i e g).getD k 0))), (16, .int (nI (wcL (tL A i e g) * A 21 g))), (15, .int (nI 1)), (0, .ref (Q 0)), (1, .ref (Q 1)), (2, .ref (Q 2)), (3, .ref (Q 3)), (4, .ref (Q 4)), (5, .ref (Q 5)), (6, .int (nI i)), (7, .int (nI e)), (8, .int (nI g)), (9, .int (nI cn)), (10, .int (nI x))] dL_isRead_428 (by decide) rfl ?_
          refine r_iload dL_isRead_430 6 rfl ?_
          refine r_bipush (v := (nI 97)) dL_isRead_432 (by decide) ?_
          refine n_icmp_lt 448 dL_isRead_434 (by decide) (by omega) (by omega) (fun c97 => ?_) (fun c97 => absurd c97 (by omega))
          refine r_iconst (v := (nI 0)) dL_isRead_448 (by decide) ?_
          refine r_istore [(24, .int (nI 0)), (23, .int (nI 0)), (22, .int (nI k)), (21, .int (nI k)), (20, .int (nI ((wcs (fL A i e g) k).1))), (19, .int (b2i ((wcs (fL A i e g) k).2))), (18, .int (b2i (oL A i e g k))), (17, .int (nI ((tL A i e g).getD k 0))), (16, .int (nI (wcL (tL A i e g) * A 21 g))), (15, .int (nI 1)), (0, .ref (Q 0)), (1, .ref (Q 1)), (2, .ref (Q 2)), (3, .ref (Q 3)), (4, .ref (Q 4)), (5, .ref (Q 5)), (6, .int (nI i)), (7, .int (nI e)), (8, .int (nI g)), (9, .int (nI cn)), (10, .int (nI x))] dL_isRead_449 (by decide) rfl ?_
          refine r_iload dL_isRead_451 1 rfl ?_
          refine n_if_ne 475 dL_isRead_453 (by decide) (by omega) (fun c98 => absurd c98 (by decide)) (fun c98 => ?_)
          refine r_iload dL_isRead_456 0 rfl ?_
          refine n_if_ne 475 dL_isRead_458 (by decide) (by omega) (fun c99 => absurd c99 (by decide)) (fun c99 => ?_)
          refine r_iload dL_isRead_461 7 rfl ?_
          refine r_bipush (v := (nI 32)) dL_isRead_463 (by decide) ?_
          refine n_icmp_eq 475 dL_isRead_465 (by decide) (by omega) (by omega) (fun c100 => ?_) (fun c100 => absurd c100 (by omega))
          refine r_iload dL_isRead_475 1 rfl ?_
          refine n_if_eq 485 dL_isRead_477 (by decide) (by omega) (fun c101 => ?_) (fun c101 => absurd c101 (by decide))
          refine r_iload dL_isRead_485 0 rfl ?_
          refine n_if_eq 495 dL_isRead_487 (by decide) (by omega) (fun c102 => ?_) (fun c102 => absurd c102 (by decide))
          refine r_iload dL_isRead_495 2 rfl ?_
          refine r_bipush (v := (nI 8)) dL_isRead_497 (by decide) ?_
          refine n_irem dL_isRead_499 (by omega) (by omega) (by omega) ?_
          refine n_if_gt 520 dL_isRead_500 (by decide) (by omega) (fun c500 => ?_) (fun c500 => ?_)
          · refine r_iconst (v := (nI 1)) dL_isRead_520 (by decide) ?_
            refine r_goto 525 dL_isRead_521 (by decide) ?_
            refine r_istore [(15, .int (nI 1)), (24, .int (nI 0)), (23, .int (nI 0)), (22, .int (nI k)), (21, .int (nI k)), (20, .int (nI ((wcs (fL A i e g) k).1))), (19, .int (b2i ((wcs (fL A i e g) k).2))), (18, .int (b2i (oL A i e g k))), (17, .int (nI ((tL A i e g).getD k 0))), (16, .int (nI (wcL (tL A i e g) * A 21 g))), (0, .ref (Q 0)), (1, .ref (Q 1)), (2, .ref (Q 2)), (3, .ref (Q 3)), (4, .ref (Q 4)), (5, .ref (Q 5)), (6, .int (nI i)), (7, .int (nI e)), (8, .int (nI g)), (9, .int (nI cn)), (10, .int (nI x))] dL_isRead_525 (by decide) rfl ?_
            refine r_iload dL_isRead_527 5 rfl ?_
            refine r_iload dL_isRead_529 2 rfl ?_
            refine n_if_ne 539 dL_isRead_531 (by decide) (by omega) (fun c104 => absurd c104 (by decide)) (fun c104 => ?_)
            refine r_iload dL_isRead_534 1 rfl ?_
            refine n_if_eq 548 dL_isRead_536 (by decide) (by omega) (fun c105 => ?_) (fun c105 => absurd c105 (by decide))
            refine r_iconst (v := (nI 0)) dL_isRead_548 (by decide) ?_
            refine n_iadd dL_isRead_549 ?_
            refine r_top (nI ((wcs (fL A i e g) (k + 1)).1)) (by rw [hw1]; rfl) ?_
            refine r_istore [(20, .int (nI ((wcs (fL A i e g) (k + 1)).1))), (15, .int (nI 1)), (24, .int (nI 0)), (23, .int (nI 0)), (22, .int (nI k)), (21, .int (nI k)), (19, .int (b2i ((wcs (fL A i e g) k).2))), (18, .int (b2i (oL A i e g k))), (17, .int (nI ((tL A i e g).getD k 0))), (16, .int (nI (wcL (tL A i e g) * A 21 g))), (0, .ref (Q 0)), (1, .ref (Q 1)), (2, .ref (Q 2)), (3, .ref (Q 3)), (4, .ref (Q 4)), (5, .ref (Q 5)), (6, .int (nI i)), (7, .int (nI e)), (8, .int (nI g)), (9, .int (nI cn)), (10, .int (nI x))] dL_isRead_550 (by decide) rfl ?_
            refine r_iload dL_isRead_552 3 rfl ?_
            refine n_if_ne 562 dL_isRead_554 (by decide) (by omega) (fun c106 => absurd c106 (by decide)) (fun c106 => ?_)
            refine r_iload dL_isRead_557 2 rfl ?_
            refine n_if_eq 566 dL_isRead_559 (by decide) (by omega) (fun c107 => ?_) (fun c107 => absurd c107 (by decide))
            refine r_iconst (v := (nI 0)) dL_isRead_566 (by decide) ?_
            refine r_top (b2i ((wcs (fL A i e g) (k + 1)).2)) (by rw [hlb]; rfl) ?_
            refine r_istore [(19, .int (b2i ((wcs (fL A i e g) (k + 1)).2))), (20, .int (nI ((wcs (fL A i e g) (k + 1)).1))), (15, .int (nI 1)), (24, .int (nI 0)), (23, .int (nI 0)), (22, .int (nI k)), (21, .int (nI k)), (18, .int (b2i (oL A i e g k))), (17, .int (nI ((tL A i e g).getD k 0))), (16, .int (nI (wcL (tL A i e g) * A 21 g))), (0, .ref (Q 0)), (1, .ref (Q 1)), (2, .ref (Q 2)), (3, .ref (Q 3)), (4, .ref (Q 4)), (5, .ref (Q 5)), (6, .int (nI i)), (7, .int (nI e)), (8, .int (nI g)), (9, .int (nI cn)), (10, .int (nI x))] dL_isRead_567 (by decide) rfl ?_
            refine r_iload dL_isRead_569 8 rfl ?_
            refine r_bipush (v := (nI 46)) dL_isRead_571 (by decide) ?_
            refine n_icmp_eq 586 dL_isRead_573 (by decide) (by omega) (by omega) (fun c108 => absurd c108 (by omega)) (fun c108 => ?_)
            refine r_iload dL_isRead_576 7 rfl ?_
            refine n_bif_eq 590 dL_isRead_578 (by decide) (fun c578 => ?_) (fun c578 => ?_)
            · refine r_iconst (v := (nI 0)) dL_isRead_590 (by decide) ?_
              refine r_top (b2i (oL A i e g (k + 1))) (by rw [hn2, c578]; rfl) ?_
              refine r_istore [(18, .int (b2i (oL A i e g (k + 1)))), (19, .int (b2i ((wcs (fL A i e g) (k + 1)).2))), (20, .int (nI ((wcs (fL A i e g) (k + 1)).1))), (15, .int (nI 1)), (24, .int (nI 0)), (23, .int (nI 0)), (22, .int (nI k)), (21, .int (nI k)), (17, .int (nI ((tL A i e g).getD k 0))), (16, .int (nI (wcL (tL A i e g) * A 21 g))), (0, .ref (Q 0)), (1, .ref (Q 1)), (2, .ref (Q 2)), (3, .ref (Q 3)), (4, .ref (Q 4)), (5, .ref (Q 5)), (6, .int (nI i)), (7, .int (nI e)), (8, .int (nI g)), (9, .int (nI cn)), (10, .int (nI x))] dL_isRead_591 (by decide) rfl ?_
              refine r_iinc (nI (k + 1)) [(21, .int (nI (k + 1))), (18, .int (b2i (oL A i e g (k + 1)))), (19, .int (b2i ((wcs (fL A i e g) (k + 1)).2))), (20, .int (nI ((wcs (fL A i e g) (k + 1)).1))), (15, .int (nI 1)), (24, .int (nI 0)), (23, .int (nI 0)), (22, .int (nI k)), (17, .int (nI ((tL A i e g).getD k 0))), (16, .int (nI (wcL (tL A i e g) * A 21 g))), (0, .ref (Q 0)), (1, .ref (Q 1)), (2, .ref (Q 2)), (3, .ref (Q 3)), (4, .ref (Q 4)), (5, .ref (Q 5)), (6, .int (nI i)), (7, .int (nI e)), (8, .int (nI g)), (9, .int (nI cn)), (10, .int (nI x))] dL_isRead_593 7 rfl (nI_add k 1) (by decide) rfl ?_
              refine r_aload_n dL_isRead_596 rfl 10 rfl ?_
              refine r_iload dL_isRead_597 16 rfl ?_
              refine r_iload dL_isRead_599 17 rfl ?_
              refine r_iload dL_isRead_601 18 rfl ?_
              refine r_iload dL_isRead_603 7 rfl ?_
              refine r_iconst (v := (nI 1)) dL_isRead_605 (by decide) ?_
              refine n_iadd dL_isRead_606 ?_
              obtain ⟨fshq110, hq110⟩ := hL.r0
              refine r_callV (st := []) [.int (nI i), .int (nI e), .int (nI g), .int (nI (k + 1))] (40 * (10 - (k + 1)) + 40) (800 * (10 - (k + 1)) + 800) dL_isRead_607 kX8_sign nX8_sign lRL_61 hq110 rfl (L_sign (k := k + 1) hL hI hi he hg (by omega)) rfl rfl (Nat.le_of_ble_eq_true rfl) (by omega) (by omega) (fun _ _ h => h.elim) ?_
              intro r G111 hr
              obtain ⟨rfl, hL112⟩ := hr
              show WP mL_isRead _ _ _ _ _ _ _ 610 [(21, .int (nI (k + 1))), (18, .int (b2i (oL A i e g (k + 1)))), (19, .int (b2i ((wcs (fL A i e g) (k + 1)).2))), (20, .int (nI ((wcs (fL A i e g) (k + 1)).1))), (15, .int (nI 1)), (24, .int (nI 0)), (23, .int (nI 0)), (22, .int (nI k)), (17, .int (nI ((tL A i e g).getD k 0))), (16, .int (nI (wcL (tL A i e g) * A 21 g))), (0, .ref (Q 0)), (1, .ref (Q 1)), (2, .ref (Q 2)), (3, .ref (Q 3)), (4, .ref (Q 4)), (5, .ref (Q 5)), (6, .int (nI i)), (7, .int (nI e)), (8, .int (nI g)), (9, .int (nI cn)), (10, .int (nI x))] [.int (nI ((tL A i e g).getD (k + 1) 0))]
              refine r_istore [(17, .int (nI ((tL A i e g).getD (k + 1) 0))), (21, .int (nI (k + 1))), (18, .int (b2i (oL A i e g (k + 1)))), (19, .int (b2i ((wcs (fL A i e g) (k + 1)).2))), (20, .int (nI ((wcs (fL A i e g) (k + 1)).1))), (15, .int (nI 1)), (24, .int (nI 0)), (23, .int (nI 0)), (22, .int (nI k)), (16, .int (nI (wcL (tL A i e g) * A 21 g))), (0, .ref (Q 0)), (1, .ref (Q 1)), (2, .ref (Q 2)), (3, .ref (Q 3)), (4, .ref (Q 4)), (5, .ref (Q 5)), (6, .int (nI i)), (7, .int (nI e)), (8, .int (nI g)), (9, .int (nI cn)), (10, .int (nI x))] dL_isRead_610 (by decide) rfl ?_
              refine r_iinc (nI (k + 1)) [(22, .int (nI (k + 1))), (17, .int (nI ((tL A i e g).getD (k + 1) 0))), (21, .int (nI (k + 1))), (18, .int (b2i (oL A i e g (k + 1)))), (19, .int (b2i ((wcs (fL A i e g) (k + 1)).2))), (20, .int (nI ((wcs (fL A i e g) (k + 1)).1))), (15, .int (nI 1)), (24, .int (nI 0)), (23, .int (nI 0)), (16, .int (nI (wcL (tL A i e g) * A 21 g))), (0, .ref (Q 0)), (1, .ref (Q 1)), (2, .ref (Q 2)), (3, .ref (Q 3)), (4, .ref (Q 4)), (5, .ref (Q 5)), (6, .int (nI i)), (7, .int (nI e)), (8, .int (nI g)), (9, .int (nI cn)), (10, .int (nI x))] dL_isRead_612 8 rfl (nI_add k 1) (by decide) rfl ?_
              refine r_goto 392 dL_isRead_615 (by decide) ?_
              exact WP.loc [0, 2, 5, 4, 3, 1, 9, 6, 10, 11, 12, 13, 14, 15, 16, 17, 18, 19, 20] rfl (WP.bud (by omega) (by omega) (ih (k + 1) _ ⟨hL112, by omega, by omega⟩ (by omega)))
            · refine r_iload dL_isRead_581 0 rfl ?_
              refine n_bif_ne 590 dL_isRead_583 (by decide) (fun c113 => absurd c113 (by rw [hwn]; decide)) (fun c113 => ?_)
              refine r_iconst (v := (nI 1)) dL_isRead_586 (by decide) ?_
              refine r_goto 591 dL_isRead_587 (by decide) ?_
              refine r_top (b2i (oL A i e g (k + 1))) (by rw [hn2, c578]; rfl) ?_
              refine r_istore [(18, .int (b2i (oL A i e g (k + 1)))), (19, .int (b2i ((wcs (fL A i e g) (k + 1)).2))), (20, .int (nI ((wcs (fL A i e g) (k + 1)).1))), (15, .int (nI 1)), (24, .int (nI 0)), (23, .int (nI 0)), (22, .int (nI k)), (21, .int (nI k)), (17, .int (nI ((tL A i e g).getD k 0))), (16, .int (nI (wcL (tL A i e g) * A 21 g))), (0, .ref (Q 0)), (1, .ref (Q 1)), (2, .ref (Q 2)), (3, .ref (Q 3)), (4, .ref (Q 4)), (5, .ref (Q 5)), (6, .int (nI i)), (7, .int (nI e)), (8, .int (nI g)), (9, .int (nI cn)), (10, .int (nI x))] dL_isRead_591 (by decide) rfl ?_
              refine r_iinc (nI (k + 1)) [(21, .int (nI (k + 1))), (18, .int (b2i (oL A i e g (k + 1)))), (19, .int (b2i ((wcs (fL A i e g) (k + 1)).2))), (20, .int (nI ((wcs (fL A i e g) (k + 1)).1))), (15, .int (nI 1)), (24, .int (nI 0)), (23, .int (nI 0)), (22, .int (nI k)), (17, .int (nI ((tL A i e g).getD k 0))), (16, .int (nI (wcL (tL A i e g) * A 21 g))), (0, .ref (Q 0)), (1, .ref (Q 1)), (2, .ref (Q 2)), (3, .ref (Q 3)), (4, .ref (Q 4)), (5, .ref (Q 5)), (6, .int (nI i)), (7, .int (nI e)), (8, .int (nI g)), (9, .int (nI cn)), (10, .int (nI x))] dL_isRead_593 7 rfl (nI_add k 1) (by decide) rfl ?_
              refine r_aload_n dL_isRead_596 rfl 10 rfl ?_
              refine r_iload dL_isRead_597 16 rfl ?_
              refine r_iload dL_isRead_599 17 rfl ?_
              refine r_iload dL_isRead_601 18 rfl ?_
              refine r_iload dL_isRead_603 7 rfl ?_
              refine r_iconst (v := (nI 1)) dL_isRead_605 (by decide) ?_
              refine n_iadd dL_isRead_606 ?_
              obtain ⟨fshq114, hq114⟩ := hL.r0
              refine r_callV (st := []) [.int (nI i), .int (nI e), .int (nI g), .int (nI (k + 1))] (40 * (10 - (k + 1)) + 40) (800 * (10 - (k + 1)) + 800) dL_isRead_607 kX8_sign nX8_sign lRL_61 hq114 rfl (L_sign (k := k + 1) hL hI hi he hg (by omega)) rfl rfl (Nat.le_of_ble_eq_true rfl) (by omega) (by omega) (fun _ _ h => h.elim) ?_
              intro r G115 hr
              obtain ⟨rfl, hL116⟩ := hr
              show WP mL_isRead _ _ _ _ _ _ _ 610 [(21, .int (nI (k + 1))), (18, .int (b2i (oL A i e g (k + 1)))), (19, .int (b2i ((wcs (fL A i e g) (k + 1)).2))), (20, .int (nI ((wcs (fL A i e g) (k + 1)).1))), (15, .int (nI 1)), (24, .int (nI 0)), (23, .int (nI 0)), (22, .int (nI k)), (17, .int (nI ((tL A i e g).getD k 0))), (16, .int (nI (wcL (tL A i e g) * A 21 g))), (0, .ref (Q 0)), (1, .ref (Q 1)), (2, .ref (Q 2)), (3, .ref (Q 3)), (4, .ref (Q 4)), (5, .ref (Q 5)), (6, .int (nI i)), (7, .int (nI e)), (8, .int (nI g)), (9, .int (nI cn)), (10, .int (nI x))] [.int (nI ((tL A i e g).getD (k + 1) 0))]
              refine r_istore [(17, .int (nI ((tL A i e g).getD (k + 1) 0))), (21, .int (nI (k + 1))), (18, .int (b2i (oL A i e g (k + 1)))), (19, .int (b2i ((wcs (fL A i e g) (k + 1)).2))), (20, .int (nI ((wcs (fL A i e g) (k + 1)).1))), (15, .int (nI 1)), (24, .int (nI 0)), (23, .int (nI 0)), (22, .int (nI k)), (16, .int (nI (wcL (tL A i e g) * A 21 g))), (0, .ref (Q 0)), (1, .ref (Q 1)), (2, .ref (Q 2)), (3, .ref (Q 3)), (4, .ref (Q 4)), (5, .ref (Q 5)), (6, .int (nI i)), (7, .int (nI e)), (8, .int (nI g)), (9, .int (nI cn)), (10, .int (nI x))] dL_isRead_610 (by decide) rfl ?_
              refine r_iinc (nI (k + 1)) [(22, .int (nI (k + 1))), (17, .int (nI ((tL A i e g).getD (k + 1) 0))), (21, .int (nI (k + 1))), (18, .int (b2i (oL A i e g (k + 1)))), (19, .int (b2i ((wcs (fL A i e g) (k + 1)).2))), (20, .int (nI ((wcs (fL A i e g) (k + 1)).1))), (15, .int (nI 1)), (24, .int (nI 0)), (23, .int (nI 0)), (16, .int (nI (wcL (tL A i e g) * A 21 g))), (0, .ref (Q 0)), (1, .ref (Q 1)), (2, .ref (Q 2)), (3, .ref (Q 3)), (4, .ref (Q 4)), (5, .ref (Q 5)), (6, .int (nI i)), (7, .int (nI e)), (8, .int (nI g)), (9, .int (nI cn)), (10, .int (nI x))] dL_isRead_612 8 rfl (nI_add k 1) (by decide) rfl ?_
              refine r_goto 392 dL_isRead_615 (by decide) ?_
              exact WP.loc [0, 2, 5, 4, 3, 1, 9, 6, 10, 11, 12, 13, 14, 15, 16, 17, 18, 19, 20] rfl (WP.bud (by omega) (by omega) (ih (k + 1) _ ⟨hL116, by omega, by omega⟩ (by omega)))
          · refine r_aload_n dL_isRead_503 rfl 10 rfl ?_
            refine r_iload dL_isRead_504 16 rfl ?_
            refine r_iload dL_isRead_506 17 rfl ?_
            refine r_iload dL_isRead_508 18 rfl ?_
            refine r_iload dL_isRead_510 2 rfl ?_
            obtain ⟨fshq117, hq117⟩ := hL.r0
            refine r_callV (st := []) [.int (nI i), .int (nI e), .int (nI g), .int (nI k)] (40 * (10 - (k + 1)) + 40) (800 * (10 - (k + 1)) + 800) dL_isRead_512 kX8_signAnew nX8_signAnew lRL_65 hq117 rfl (L_signAnew (k := k) hL hI hi he hg (by omega)) rfl rfl (Nat.le_of_ble_eq_true rfl) (by omega) (by omega) (fun _ _ h => h.elim) ?_
            intro r G118 hr
            obtain ⟨rfl, hL119⟩ := hr
            show WP mL_isRead _ _ _ _ _ _ _ 515 [(24, .int (nI 0)), (23, .int (nI 0)), (22, .int (nI k)), (21, .int (nI k)), (20, .int (nI ((wcs (fL A i e g) k).1))), (19, .int (b2i ((wcs (fL A i e g) k).2))), (18, .int (b2i (oL A i e g k))), (17, .int (nI ((tL A i e g).getD k 0))), (16, .int (nI (wcL (tL A i e g) * A 21 g))), (15, .int (nI 1)), (0, .ref (Q 0)), (1, .ref (Q 1)), (2, .ref (Q 2)), (3, .ref (Q 3)), (4, .ref (Q 4)), (5, .ref (Q 5)), (6, .int (nI i)), (7, .int (nI e)), (8, .int (nI g)), (9, .int (nI cn)), (10, .int (nI x))] [.int (nI ((tL A i e g).getD k 0))]
            refine r_iload dL_isRead_515 7 rfl ?_
            refine n_icmp_ne 524 dL_isRead_517 (by decide) (by omega) (by omega) (fun c120 => absurd c120 (fun q => q rfl)) (fun c120 => ?_)
            refine r_iconst (v := (nI 1)) dL_isRead_520 (by decide) ?_
            refine r_goto 525 dL_isRead_521 (by decide) ?_
            refine r_istore [(15, .int (nI 1)), (24, .int (nI 0)), (23, .int (nI 0)), (22, .int (nI k)), (21, .int (nI k)), (20, .int (nI ((wcs (fL A i e g) k).1))), (19, .int (b2i ((wcs (fL A i e g) k).2))), (18, .int (b2i (oL A i e g k))), (17, .int (nI ((tL A i e g).getD k 0))), (16, .int (nI (wcL (tL A i e g) * A 21 g))), (0, .ref (Q 0)), (1, .ref (Q 1)), (2, .ref (Q 2)), (3, .ref (Q 3)), (4, .ref (Q 4)), (5, .ref (Q 5)), (6, .int (nI i)), (7, .int (nI e)), (8, .int (nI g)), (9, .int (nI cn)), (10, .int (nI x))] dL_isRead_525 (by decide) rfl ?_
            refine r_iload dL_isRead_527 5 rfl ?_
            refine r_iload dL_isRead_529 2 rfl ?_
            refine n_if_ne 539 dL_isRead_531 (by decide) (by omega) (fun c121 => absurd c121 (by decide)) (fun c121 => ?_)
            refine r_iload dL_isRead_534 1 rfl ?_
            refine n_if_eq 548 dL_isRead_536 (by decide) (by omega) (fun c122 => ?_) (fun c122 => absurd c122 (by decide))
            refine r_iconst (v := (nI 0)) dL_isRead_548 (by decide) ?_
            refine n_iadd dL_isRead_549 ?_
            refine r_top (nI ((wcs (fL A i e g) (k + 1)).1)) (by rw [hw1]; rfl) ?_
            refine r_istore [(20, .int (nI ((wcs (fL A i e g) (k + 1)).1))), (15, .int (nI 1)), (24, .int (nI 0)), (23, .int (nI 0)), (22, .int (nI k)), (21, .int (nI k)), (19, .int (b2i ((wcs (fL A i e g) k).2))), (18, .int (b2i (oL A i e g k))), (17, .int (nI ((tL A i e g).getD k 0))), (16, .int (nI (wcL (tL A i e g) * A 21 g))), (0, .ref (Q 0)), (1, .ref (Q 1)), (2, .ref (Q 2)), (3, .ref (Q 3)), (4, .ref (Q 4)), (5, .ref (Q 5)), (6, .int (nI i)), (7, .int (nI e)), (8, .int (nI g)), (9, .int (nI cn)), (10, .int (nI x))] dL_isRead_550 (by decide) rfl ?_
            refine r_iload dL_isRead_552 3 rfl ?_
            refine n_if_ne 562 dL_isRead_554 (by decide) (by omega) (fun c123 => absurd c123 (by decide)) (fun c123 => ?_)
            refine r_iload dL_isRead_557 2 rfl ?_
            refine n_if_eq 566 dL_isRead_559 (by decide) (by omega) (fun c124 => ?_) (fun c124 => absurd c124 (by decide))
            refine r_iconst (v := (nI 0)) dL_isRead_566 (by decide) ?_
            refine r_top (b2i ((wcs (fL A i e g) (k + 1)).2)) (by rw [hlb]; rfl) ?_
            refine r_istore [(19, .int (b2i ((wcs (fL A i e g) (k + 1)).2))), (20, .int (nI ((wcs (fL A i e g) (k + 1)).1))), (15, .int (nI 1)), (24, .int (nI 0)), (23, .int (nI 0)), (22, .int (nI k)), (21, .int (nI k)), (18, .int (b2i (oL A i e g k))), (17, .int (nI ((tL A i e g).getD k 0))), (16, .int (nI (wcL (tL A i e g) * A 21 g))), (0, .ref (Q 0)), (1, .ref (Q 1)), (2, .ref (Q 2)), (3, .ref (Q 3)), (4, .ref (Q 4)), (5, .ref (Q 5)), (6, .int (nI i)), (7, .int (nI e)), (8, .int (nI g)), (9, .int (nI cn)), (10, .int (nI x))] dL_isRead_567 (by decide) rfl ?_
            refine r_iload dL_isRead_569 8 rfl ?_
            refine r_bipush (v := (nI 46)) dL_isRead_571 (by decide) ?_
            refine n_icmp_eq 586 dL_isRead_573 (by decide) (by omega) (by omega) (fun c125 => absurd c125 (by omega)) (fun c125 => ?_)
            refine r_iload dL_isRead_576 7 rfl ?_
            refine n_bif_eq 590 dL_isRead_578 (by decide) (fun c578 => ?_) (fun c578 => ?_)
            · refine r_iconst (v := (nI 0)) dL_isRead_590 (by decide) ?_
              refine r_top (b2i (oL A i e g (k + 1))) (by rw [hn2, c578]; rfl) ?_
              refine r_istore [(18, .int (b2i (oL A i e g (k + 1)))), (19, .int (b2i ((wcs (fL A i e g) (k + 1)).2))), (20, .int (nI ((wcs (fL A i e g) (k + 1)).1))), (15, .int (nI 1)), (24, .int (nI 0)), (23, .int (nI 0)), (22, .int (nI k)), (21, .int (nI k)), (17, .int (nI ((tL A i e g).getD k 0))), (16, .int (nI (wcL (tL A i e g) * A 21 g))), (0, .ref (Q 0)), (1, .ref (Q 1)), (2, .ref (Q 2)), (3, .ref (Q 3)), (4, .ref (Q 4)), (5, .ref (Q 5)), (6, .int (nI i)), (7, .int (nI e)), (8, .int (nI g)), (9, .int (nI cn)), (10, .int (nI x))] dL_isRead_591 (by decide) rfl ?_
              refine r_iinc (nI (k + 1)) [(21, .int (nI (k + 1))), (18, .int (b2i (oL A i e g (k + 1)))), (19, .int (b2i ((wcs (fL A i e g) (k + 1)).2))), (20, .int (nI ((wcs (fL A i e g) (k + 1)).1))), (15, .int (nI 1)), (24, .int (nI 0)), (23, .int (nI 0)), (22, .int (nI k)), (17, .int (nI ((tL A i e g).getD k 0))), (16, .int (nI (wcL (tL A i e g) * A 21 g))), (0, .ref (Q 0)), (1, .ref (Q 1)), (2, .ref (Q 2)), (3, .ref (Q 3)), (4, .ref (Q 4)), (5, .ref (Q 5)), (6, .int (nI i)), (7, .int (nI e)), (8, .int (nI g)), (9, .int (nI cn)), (10, .int (nI x))] dL_isRead_593 7 rfl (nI_add k 1) (by decide) rfl ?_
              refine r_aload_n dL_isRead_596 rfl 10 rfl ?_
              refine r_iload dL_isRead_597 16 rfl ?_
              refine r_iload dL_isRead_599 17 rfl ?_
              refine r_iload dL_isRead_601 18 rfl ?_
              refine r_iload dL_isRead_603 7 rfl ?_
              refine r_iconst (v := (nI 1)) dL_isRead_605 (by decide) ?_
              refine n_iadd dL_isRead_606 ?_
              obtain ⟨fshq127, hq127⟩ := hL119.r0
              refine r_callV (st := []) [.int (nI i), .int (nI e), .int (nI g), .int (nI (k + 1))] (40 * (10 - (k + 1)) + 20) (800 * (10 - (k + 1)) + 400) dL_isRead_607 kX8_sign nX8_sign lRL_61 hq127 rfl (L_sign (k := k + 1) hL119 hI hi he hg (by omega)) rfl rfl (Nat.le_of_ble_eq_true rfl) (by omega) (by omega) (fun _ _ h => h.elim) ?_
              intro r G128 hr
              obtain ⟨rfl, hL129⟩ := hr
              show WP mL_isRead _ _ _ _ _ _ _ 610 [(21, .int (nI (k + 1))), (18, .int (b2i (oL A i e g (k + 1)))), (19, .int (b2i ((wcs (fL A i e g) (k + 1)).2))), (20, .int (nI ((wcs (fL A i e g) (k + 1)).1))), (15, .int (nI 1)), (24, .int (nI 0)), (23, .int (nI 0)), (22, .int (nI k)), (17, .int (nI ((tL A i e g).getD k 0))), (16, .int (nI (wcL (tL A i e g) * A 21 g))), (0, .ref (Q 0)), (1, .ref (Q 1)), (2, .ref (Q 2)), (3, .ref (Q 3)), (4, .ref (Q 4)), (5, .ref (Q 5)), (6, .int (nI i)), (7, .int (nI e)), (8, .int (nI g)), (9, .int (nI cn)), (10, .int (nI x))] [.int (nI ((tL A i e g).getD (k + 1) 0))]
              refine r_istore [(17, .int (nI ((tL A i e g).getD (k + 1) 0))), (21, .int (nI (k + 1))), (18, .int (b2i (oL A i e g (k + 1)))), (19, .int (b2i ((wcs (fL A i e g) (k + 1)).2))), (20, .int (nI ((wcs (fL A i e g) (k + 1)).1))), (15, .int (nI 1)), (24, .int (nI 0)), (23, .int (nI 0)), (22, .int (nI k)), (16, .int (nI (wcL (tL A i e g) * A 21 g))), (0, .ref (Q 0)), (1, .ref (Q 1)), (2, .ref (Q 2)), (3, .ref (Q 3)), (4, .ref (Q 4)), (5, .ref (Q 5)), (6, .int (nI i)), (7, .int (nI e)), (8, .int (nI g)), (9, .int (nI cn)), (10, .int (nI x))] dL_isRead_610 (by decide) rfl ?_
              refine r_iinc (nI (k + 1)) [(22, .int (nI (k + 1))), (17, .int (nI ((tL A i e g).getD (k + 1) 0))), (21, .int (nI (k + 1))), (18, .int (b2i (oL A i e g (k + 1)))), (19, .int (b2i ((wcs (fL A i e g) (k + 1)).2))), (20, .int (nI ((wcs (fL A i e g) (k + 1)).1))), (15, .int (nI 1)), (24, .int (nI 0)), (23, .int (nI 0)), (16, .int (nI (wcL (tL A i e g) * A 21 g))), (0, .ref (Q 0)), (1, .ref (Q 1)), (2, .ref (Q 2)), (3, .ref (Q 3)), (4, .ref (Q 4)), (5, .ref (Q 5)), (6, .int (nI i)), (7, .int (nI e)), (8, .int (nI g)), (9, .int (nI cn)), (10, .int (nI x))] dL_isRead_612 8 rfl (nI_add k 1) (by decide) rfl ?_
              refine r_goto 392 dL_isRead_615 (by decide) ?_
              exact WP.loc [0, 2, 5, 4, 3, 1, 9, 6, 10, 11, 12, 13, 14, 15, 16, 17, 18, 19, 20] rfl (WP.bud (by omega) (by omega) (ih (k + 1) _ ⟨hL129, by omega, by omega⟩ (by omega)))
            · refine r_iload dL_isRead_581 0 rfl ?_
              refine n_bif_ne 590 dL_isRead_583 (by decide) (fun c130 => absurd c130 (by rw [hwn]; decide)) (fun c130 => ?_)
              refine r_iconst (v := (nI 1)) dL_isRead_586 (by decide) ?_
              refine r_goto 591 dL_isRead_587 (by decide) ?_
              refine r_top (b2i (oL A i e g (k + 1))) (by rw [hn2, c578]; rfl) ?_
              refine r_istore [(18, .int (b2i (oL A i e g (k + 1)))), (19, .int (b2i ((wcs (fL A i e g) (k + 1)).2))), (20, .int (nI ((wcs (fL A i e g) (k + 1)).1))), (15, .int (nI 1)), (24, .int (nI 0)), (23, .int (nI 0)), (22, .int (nI k)), (21, .int (nI k)), (17, .int (nI ((tL A i e g).getD k 0))), (16, .int (nI (wcL (tL A i e g) * A 21 g))), (0, .ref (Q 0)), (1, .ref (Q 1)), (2, .ref (Q 2)), (3, .ref (Q 3)), (4, .ref (Q 4)), (5, .ref (Q 5)), (6, .int (nI i)), (7, .int (nI e)), (8, .int (nI g)), (9, .int (nI cn)), (10, .int (nI x))] dL_isRead_591 (by decide) rfl ?_
              refine r_iinc (nI (k + 1)) [(21, .int (nI (k + 1))), (18, .int (b2i (oL A i e g (k + 1)))), (19, .int (b2i ((wcs (fL A i e g) (k + 1)).2))), (20, .int (nI ((wcs (fL A i e g) (k + 1)).1))), (15, .int (nI 1)), (24, .int (nI 0)), (23, .int (nI 0)), (22, .int (nI k)), (17, .int (nI ((tL A i e g).getD k 0))), (16, .int (nI (wcL (tL A i e g) * A 21 g))), (0, .ref (Q 0)), (1, .ref (Q 1)), (2, .ref (Q 2)), (3, .ref (Q 3)), (4, .ref (Q 4)), (5, .ref (Q 5)), (6, .int (nI i)), (7, .int (nI e)), (8, .int (nI g)), (9, .int (nI cn)), (10, .int (nI x))] dL_isRead_593 7 rfl (nI_add k 1) (by decide) rfl ?_
              refine r_aload_n dL_isRead_596 rfl 10 rfl ?_
              refine r_iload dL_isRead_597 16 rfl ?_
              refine r_iload dL_isRead_599 17 rfl ?_
              refine r_iload dL_isRead_601 18 rfl ?_
              refine r_iload dL_isRead_603 7 rfl ?_
              refine r_iconst (v := (nI 1)) dL_isRead_605 (by decide) ?_
              refine n_iadd dL_isRead_606 ?_
              obtain ⟨fshq131, hq131⟩ := hL119.r0
              refine r_callV (st := []) [.int (nI i), .int (nI e), .int (nI g), .int (nI (k + 1))] (40 * (10 - (k + 1)) + 20) (800 * (10 - (k + 1)) + 400) dL_isRead_607 kX8_sign nX8_sign lRL_61 hq131 rfl (L_sign (k := k + 1) hL119 hI hi he hg (by omega)) rfl rfl (Nat.le_of_ble_eq_true rfl) (by omega) (by omega) (fun _ _ h => h.elim) ?_
              intro r G132 hr
              obtain ⟨rfl, hL133⟩ := hr
              show WP mL_isRead _ _ _ _ _ _ _ 610 [(21, .int (nI (k + 1))), (18, .int (b2i (oL A i e g (k + 1)))), (19, .int (b2i ((wcs (fL A i e g) (k + 1)).2))), (20, .int (nI ((wcs (fL A i e g) (k + 1)).1))), (15, .int (nI 1)), (24, .int (nI 0)), (23, .int (nI 0)), (22, .int (nI k)), (17, .int (nI ((tL A i e g).getD k 0))), (16, .int (nI (wcL (tL A i e g) * A 21 g))), (0, .ref (Q 0)), (1, .ref (Q 1)), (2, .ref (Q 2)), (3, .ref (Q 3)), (4, .ref (Q 4)), (5, .ref (Q 5)), (6, .int (nI i)), (7, .int (nI e)), (8, .int (nI g)), (9, .int (nI cn)), (10, .int (nI x))] [.int (nI ((tL A i e g).getD (k + 1) 0))]
              refine r_istore [(17, .int (nI ((tL A i e g).getD (k + 1) 0))), (21, .int (nI (k + 1))), (18, .int (b2i (oL A i e g (k + 1)))), (19, .int (b2i ((wcs (fL A i e g) (k + 1)).2))), (20, .int (nI ((wcs (fL A i e g) (k + 1)).1))), (15, .int (nI 1)), (24, .int (nI 0)), (23, .int (nI 0)), (22, .int (nI k)), (16, .int (nI (wcL (tL A i e g) * A 21 g))), (0, .ref (Q 0)), (1, .ref (Q 1)), (2, .ref (Q 2)), (3, .ref (Q 3)), (4, .ref (Q 4)), (5, .ref (Q 5)), (6, .int (nI i)), (7, .int (nI e)), (8, .int (nI g)), (9, .int (nI cn)), (10, .int (nI x))] dL_isRead_610 (by decide) rfl ?_
              refine r_iinc (nI (k + 1)) [(22, .int (nI (k + 1))), (17, .int (nI ((tL A i e g).getD (k + 1) 0))), (21, .int (nI (k + 1))), (18, .int (b2i (oL A i e g (k + 1)))), (19, .int (b2i ((wcs (fL A i e g) (k + 1)).2))), (20, .int (nI ((wcs (fL A i e g) (k + 1)).1))), (15, .int (nI 1)), (24, .int (nI 0)), (23, .int (nI 0)), (16, .int (nI (wcL (tL A i e g) * A 21 g))), (0, .ref (Q 0)), (1, .ref (Q 1)), (2, .ref (Q 2)), (3, .ref (Q 3)), (4, .ref (Q 4)), (5, .ref (Q 5)), (6, .int (nI i)), (7, .int (nI e)), (8, .int (nI g)), (9, .int (nI cn)), (10, .int (nI x))] dL_isRead_612 8 rfl (nI_add k 1) (by decide) rfl ?_
              refine r_goto 392 dL_isRead_615 (by decide) ?_
              exact WP.loc [0, 2, 5, 4, 3, 1, 9, 6, 10, 11, 12, 13, 14, 15, 16, 17, 18, 19, 20] rfl (WP.bud (by omega) (by omega) (ih (k + 1) _ ⟨hL133, by omega, by omega⟩ (by omega)))
        · have hlb : (wcs (fL A i e g) (k + 1)).2 = false := by
            show lB (nI ((tL A i e g).getD k 0)) = false
            rw [lB_n (by omega)]
            unfold ltN
            rw [hs1]; rfl
          have hwn : (wcs (fL A i e g) (k + 1)).2 = false := hlb
          have hw1 : (wcs (fL A i e g) (k + 1)).1 = (wcs (fL A i e g) k).1 + (if false && !(wcs (fL A i e g) k).2 then 1 else 0) := by
            have h9 : (wcs (fL A i e g) (k + 1)).1 = (wcs (fL A i e g) k).1 + (if lB (fL A i e g k) && !(wcs (fL A i e g) k).2 then 1 else 0) := rfl
            rw [h9, show lB (fL A i e g k) = false from hlb]
          refine r_iload dL_isRead_409 5 rfl ?_
          refine r_bipush (v := (nI 65)) dL_isRead_411 (by decide) ?_
          refine n_icmp_lt 427 dL_isRead_413 (by decide) (by omega) (by omega) (fun c134 => ?_) (fun c134 => absurd c134 (by omega))
          refine r_iconst (v := (nI 0)) dL_isRead_427 (by decide) ?_
          refine r_istore [(23, .int (nI 0)), (22, .int (nI k)), (21, .int (nI k)), (20, .int (nI ((wcs (fL A i e g) k).1))), (19, .int (b2i ((wcs (fL A i e g) k).2))), (18, .int (b2i (oL A i e g k))), (17, .int (nI ((tL A i e g).getD k 0))), (16, .int (nI (wcL (tL A i e g) * A 21 g))), (15, .int (nI 1)), (0, .ref (Q 0)), (1, .ref (Q 1)), (2, .ref (Q 2)), (3, .ref (Q 3)), (4, .ref (Q 4)), (5, .ref (Q 5)), (6, .int (nI i)), (7, .int (nI e)), (8, .int (nI g)), (9, .int (nI cn)), (10, .int (nI x))] dL_isRead_428 (by decide) rfl ?_
          refine r_iload dL_isRead_430 6 rfl ?_
          refine r_bipush (v := (nI 97)) dL_isRead_432 (by decide) ?_
          refine n_icmp_lt 448 dL_isRead_434 (by decide) (by omega) (by omega) (fun c135 => ?_) (fun c135 => absurd c135 (by omega))
          refine r_iconst (v := (nI 0)) dL_isRead_448 (by decide) ?_
          refine r_istore [(24, .int (nI 0)), (23, .int (nI 0)), (22, .int (nI k)), (21, .int (nI k)), (20, .int (nI ((wcs (fL A i e g) k).1))), (19, .int (b2i ((wcs (fL A i e g) k).2))), (18, .int (b2i (oL A i e g k))), (17, .int (nI ((tL A i e g).getD k 0))), (16, .int (nI (wcL (tL A i e g) * A 21 g))), (15, .int (nI 1)), (0, .ref (Q 0)), (1, .ref (Q 1)), (2, .ref (Q 2)), (3, .ref (Q 3)), (4, .ref (Q 4)), (5, .ref (Q 5)), (6, .int (nI i)), (7, .int (nI e)), (8, .int (nI g)), (9, .int (nI cn)), (10, .int (nI x))] dL_isRead_449 (by decide) rfl ?_
          refine r_iload dL_isRead_451 1 rfl ?_
          refine n_if_ne 475 dL_isRead_453 (by decide) (by omega) (fun c136 => absurd c136 (by decide)) (fun c136 => ?_)
          refine r_iload dL_isRead_456 0 rfl ?_
          refine n_if_ne 475 dL_isRead_458 (by decide) (by omega) (fun c137 => absurd c137 (by decide)) (fun c137 => ?_)
          refine r_iload dL_isRead_461 7 rfl ?_
          refine r_bipush (v := (nI 32)) dL_isRead_463 (by decide) ?_
          refine n_icmp_eq 475 dL_isRead_465 (by decide) (by omega) (by omega) (fun c138 => absurd c138 (by omega)) (fun c138 => ?_)
          refine r_iload dL_isRead_468 7 rfl ?_
          refine r_bipush (v := (nI 46)) dL_isRead_470 (by decide) ?_
          refine n_icmp_ne 524 dL_isRead_472 (by decide) (by omega) (by omega) (fun c139 => absurd c139 (by omega)) (fun c139 => ?_)
          refine r_iload dL_isRead_475 1 rfl ?_
          refine n_if_eq 485 dL_isRead_477 (by decide) (by omega) (fun c140 => ?_) (fun c140 => absurd c140 (by decide))
          refine r_iload dL_isRead_485 0 rfl ?_
          refine n_if_eq 495 dL_isRead_487 (by decide) (by omega) (fun c141 => ?_) (fun c141 => absurd c141 (by decide))
          refine r_iload dL_isRead_495 2 rfl ?_
          refine r_bipush (v := (nI 8)) dL_isRead_497 (by decide) ?_
          refine n_irem dL_isRead_499 (by omega) (by omega) (by omega) ?_
          refine n_if_gt 520 dL_isRead_500 (by decide) (by omega) (fun c500 => ?_) (fun c500 => ?_)
          · refine r_iconst (v := (nI 1)) dL_isRead_520 (by decide) ?_
            refine r_goto 525 dL_isRead_521 (by decide) ?_
            refine r_istore [(15, .int (nI 1)), (24, .int (nI 0)), (23, .int (nI 0)), (22, .int (nI k)), (21, .int (nI k)), (20, .int (nI ((wcs (fL A i e g) k).1))), (19, .int (b2i ((wcs (fL A i e g) k).2))), (18, .int (b2i (oL A i e g k))), (17, .int (nI ((tL A i e g).getD k 0))), (16, .int (nI (wcL (tL A i e g) * A 21 g))), (0, .ref (Q 0)), (1, .ref (Q 1)), (2, .ref (Q 2)), (3, .ref (Q 3)), (4, .ref (Q 4)), (5, .ref (Q 5)), (6, .int (nI i)), (7, .int (nI e)), (8, .int (nI g)), (9, .int (nI cn)), (10, .int (nI x))] dL_isRead_525 (by decide) rfl ?_
            refine r_iload dL_isRead_527 5 rfl ?_
            refine r_iload dL_isRead_529 2 rfl ?_
            refine n_if_ne 539 dL_isRead_531 (by decide) (by omega) (fun c143 => absurd c143 (by decide)) (fun c143 => ?_)
            refine r_iload dL_isRead_534 1 rfl ?_
            refine n_if_eq 548 dL_isRead_536 (by decide) (by omega) (fun c144 => ?_) (fun c144 => absurd c144 (by decide))
            refine r_iconst (v := (nI 0)) dL_isRead_548 (by decide) ?_
            refine n_iadd dL_isRead_549 ?_
            refine r_top (nI ((wcs (fL A i e g) (k + 1)).1)) (by rw [hw1]; rfl) ?_
            refine r_istore [(20, .int (nI ((wcs (fL A i e g) (k + 1)).1))), (15, .int (nI 1)), (24, .int (nI 0)), (23, .int (nI 0)), (22, .int (nI k)), (21, .int (nI k)), (19, .int (b2i ((wcs (fL A i e g) k).2))), (18, .int (b2i (oL A i e g k))), (17, .int (nI ((tL A i e g).getD k 0))), (16, .int (nI (wcL (tL A i e g) * A 21 g))), (0, .ref (Q 0)), (1, .ref (Q 1)), (2, .ref (Q 2)), (3, .ref (Q 3)), (4, .ref (Q 4)), (5, .ref (Q 5)), (6, .int (nI i)), (7, .int (nI e)), (8, .int (nI g)), (9, .int (nI cn)), (10, .int (nI x))] dL_isRead_550 (by decide) rfl ?_
            refine r_iload dL_isRead_552 3 rfl ?_
            refine n_if_ne 562 dL_isRead_554 (by decide) (by omega) (fun c145 => absurd c145 (by decide)) (fun c145 => ?_)
            refine r_iload dL_isRead_557 2 rfl ?_
            refine n_if_eq 566 dL_isRead_559 (by decide) (by omega) (fun c146 => ?_) (fun c146 => absurd c146 (by decide))
            refine r_iconst (v := (nI 0)) dL_isRead_566 (by decide) ?_
            refine r_top (b2i ((wcs (fL A i e g) (k + 1)).2)) (by rw [hlb]; rfl) ?_
            refine r_istore [(19, .int (b2i ((wcs (fL A i e g) (k + 1)).2))), (20, .int (nI ((wcs (fL A i e g) (k + 1)).1))), (15, .int (nI 1)), (24, .int (nI 0)), (23, .int (nI 0)), (22, .int (nI k)), (21, .int (nI k)), (18, .int (b2i (oL A i e g k))), (17, .int (nI ((tL A i e g).getD k 0))), (16, .int (nI (wcL (tL A i e g) * A 21 g))), (0, .ref (Q 0)), (1, .ref (Q 1)), (2, .ref (Q 2)), (3, .ref (Q 3)), (4, .ref (Q 4)), (5, .ref (Q 5)), (6, .int (nI i)), (7, .int (nI e)), (8, .int (nI g)), (9, .int (nI cn)), (10, .int (nI x))] dL_isRead_567 (by decide) rfl ?_
            refine r_iload dL_isRead_569 8 rfl ?_
            refine r_bipush (v := (nI 46)) dL_isRead_571 (by decide) ?_
            refine n_icmp_eq 586 dL_isRead_573 (by decide) (by omega) (by omega) (fun c147 => ?_) (fun c147 => absurd c147 (by omega))
            refine r_iconst (v := (nI 1)) dL_isRead_586 (by decide) ?_
            refine r_goto 591 dL_isRead_587 (by decide) ?_
            refine r_top (b2i (oL A i e g (k + 1))) (by rw [hn2]; rfl) ?_
            refine r_istore [(18, .int (b2i (oL A i e g (k + 1)))), (19, .int (b2i ((wcs (fL A i e g) (k + 1)).2))), (20, .int (nI ((wcs (fL A i e g) (k + 1)).1))), (15, .int (nI 1)), (24, .int (nI 0)), (23, .int (nI 0)), (22, .int (nI k)), (21, .int (nI k)), (17, .int (nI ((tL A i e g).getD k 0))), (16, .int (nI (wcL (tL A i e g) * A 21 g))), (0, .ref (Q 0)), (1, .ref (Q 1)), (2, .ref (Q 2)), (3, .ref (Q 3)), (4, .ref (Q 4)), (5, .ref (Q 5)), (6, .int (nI i)), (7, .int (nI e)), (8, .int (nI g)), (9, .int (nI cn)), (10, .int (nI x))] dL_isRead_591 (by decide) rfl ?_
            refine r_iinc (nI (k + 1)) [(21, .int (nI (k + 1))), (18, .int (b2i (oL A i e g (k + 1)))), (19, .int (b2i ((wcs (fL A i e g) (k + 1)).2))), (20, .int (nI ((wcs (fL A i e g) (k + 1)).1))), (15, .int (nI 1)), (24, .int (nI 0)), (23, .int (nI 0)), (22, .int (nI k)), (17, .int (nI ((tL A i e g).getD k 0))), (16, .int (nI (wcL (tL A i e g) * A 21 g))), (0, .ref (Q 0)), (1, .ref (Q 1)), (2, .ref (Q 2)), (3, .ref (Q 3)), (4, .ref (Q 4)), (5, .ref (Q 5)), (6, .int (nI i)), (7, .int (nI e)), (8, .int (nI g)), (9, .int (nI cn)), (10, .int (nI x))] dL_isRead_593 7 rfl (nI_add k 1) (by decide) rfl ?_
            refine r_aload_n dL_isRead_596 rfl 10 rfl ?_
            refine r_iload dL_isRead_597 16 rfl ?_
            refine r_iload dL_isRead_599 17 rfl ?_
            refine r_iload dL_isRead_601 18 rfl ?_
            refine r_iload dL_isRead_603 7 rfl ?_
            refine r_iconst (v := (nI 1)) dL_isRead_605 (by decide) ?_
            refine n_iadd dL_isRead_606 ?_
            obtain ⟨fshq148, hq148⟩ := hL.r0
            refine r_callV (st := []) [.int (nI i), .int (nI e), .int (nI g), .int (nI (k + 1))] (40 * (10 - (k + 1)) + 40) (800 * (10 - (k + 1)) + 800) dL_isRead_607 kX8_sign nX8_sign lRL_61 hq148 rfl (L_sign (k := k + 1) hL hI hi he hg (by omega)) rfl rfl (Nat.le_of_ble_eq_true rfl) (by omega) (by omega) (fun _ _ h => h.elim) ?_
            intro r G149 hr
            obtain ⟨rfl, hL150⟩ := hr
            show WP mL_isRead _ _ _ _ _ _ _ 610 [(21, .int (nI (k + 1))), (18, .int (b2i (oL A i e g (k + 1)))), (19, .int (b2i ((wcs (fL A i e g) (k + 1)).2))), (20, .int (nI ((wcs (fL A i e g) (k + 1)).1))), (15, .int (nI 1)), (24, .int (nI 0)), (23, .int (nI 0)), (22, .int (nI k)), (17, .int (nI ((tL A i e g).getD k 0))), (16, .int (nI (wcL (tL A i e g) * A 21 g))), (0, .ref (Q 0)), (1, .ref (Q 1)), (2, .ref (Q 2)), (3, .ref (Q 3)), (4, .ref (Q 4)), (5, .ref (Q 5)), (6, .int (nI i)), (7, .int (nI e)), (8, .int (nI g)), (9, .int (nI cn)), (10, .int (nI x))] [.int (nI ((tL A i e g).getD (k + 1) 0))]
            refine r_istore [(17, .int (nI ((tL A i e g).getD (k + 1) 0))), (21, .int (nI (k + 1))), (18, .int (b2i (oL A i e g (k + 1)))), (19, .int (b2i ((wcs (fL A i e g) (k + 1)).2))), (20, .int (nI ((wcs (fL A i e g) (k + 1)).1))), (15, .int (nI 1)), (24, .int (nI 0)), (23, .int (nI 0)), (22, .int (nI k)), (16, .int (nI (wcL (tL A i e g) * A 21 g))), (0, .ref (Q 0)), (1, .ref (Q 1)), (2, .ref (Q 2)), (3, .ref (Q 3)), (4, .ref (Q 4)), (5, .ref (Q 5)), (6, .int (nI i)), (7, .int (nI e)), (8, .int (nI g)), (9, .int (nI cn)), (10, .int (nI x))] dL_isRead_610 (by decide) rfl ?_
            refine r_iinc (nI (k + 1)) [(22, .int (nI (k + 1))), (17, .int (nI ((tL A i e g).getD (k + 1) 0))), (21, .int (nI (k + 1))), (18, .int (b2i (oL A i e g (k + 1)))), (19, .int (b2i ((wcs (fL A i e g) (k + 1)).2))), (20, .int (nI ((wcs (fL A i e g) (k + 1)).1))), (15, .int (nI 1)), (24, .int (nI 0)), (23, .int (nI 0)), (16, .int (nI (wcL (tL A i e g) * A 21 g))), (0, .ref (Q 0)), (1, .ref (Q 1)), (2, .ref (Q 2)), (3, .ref (Q 3)), (4, .ref (Q 4)), (5, .ref (Q 5)), (6, .int (nI i)), (7, .int (nI e)), (8, .int (nI g)), (9, .int (nI cn)), (10, .int (nI x))] dL_isRead_612 8 rfl (nI_add k 1) (by decide) rfl ?_
            refine r_goto 392 dL_isRead_615 (by decide) ?_
            exact WP.loc [0, 2, 5, 4, 3, 1, 9, 6, 10, 11, 12, 13, 14, 15, 16, 17, 18, 19, 20] rfl (WP.bud (by omega) (by omega) (ih (k + 1) _ ⟨hL150, by omega, by omega⟩ (by omega)))
          · refine r_aload_n dL_isRead_503 rfl 10 rfl ?_
            refine r_iload dL_isRead_504 16 rfl ?_
            refine r_iload dL_isRead_506 17 rfl ?_
            refine r_iload dL_isRead_508 18 rfl ?_
            refine r_iload dL_isRead_510 2 rfl ?_
            obtain ⟨fshq151, hq151⟩ := hL.r0
            refine r_callV (st := []) [.int (nI i), .int (nI e), .int (nI g), .int (nI k)] (40 * (10 - (k + 1)) + 40) (800 * (10 - (k + 1)) + 800) dL_isRead_512 kX8_signAnew nX8_signAnew lRL_65 hq151 rfl (L_signAnew (k := k) hL hI hi he hg (by omega)) rfl rfl (Nat.le_of_ble_eq_true rfl) (by omega) (by omega) (fun _ _ h => h.elim) ?_
            intro r G152 hr
            obtain ⟨rfl, hL153⟩ := hr
            show WP mL_isRead _ _ _ _ _ _ _ 515 [(24, .int (nI 0)), (23, .int (nI 0)), (22, .int (nI k)), (21, .int (nI k)), (20, .int (nI ((wcs (fL A i e g) k).1))), (19, .int (b2i ((wcs (fL A i e g) k).2))), (18, .int (b2i (oL A i e g k))), (17, .int (nI ((tL A i e g).getD k 0))), (16, .int (nI (wcL (tL A i e g) * A 21 g))), (15, .int (nI 1)), (0, .ref (Q 0)), (1, .ref (Q 1)), (2, .ref (Q 2)), (3, .ref (Q 3)), (4, .ref (Q 4)), (5, .ref (Q 5)), (6, .int (nI i)), (7, .int (nI e)), (8, .int (nI g)), (9, .int (nI cn)), (10, .int (nI x))] [.int (nI ((tL A i e g).getD k 0))]
            refine r_iload dL_isRead_515 7 rfl ?_
            refine n_icmp_ne 524 dL_isRead_517 (by decide) (by omega) (by omega) (fun c154 => absurd c154 (fun q => q rfl)) (fun c154 => ?_)
            refine r_iconst (v := (nI 1)) dL_isRead_520 (by decide) ?_
            refine r_goto 525 dL_isRead_521 (by decide) ?_
            refine r_istore [(15, .int (nI 1)), (24, .int (nI 0)), (23, .int (nI 0)), (22, .int (nI k)), (21, .int (nI k)), (20, .int (nI ((wcs (fL A i e g) k).1))), (19, .int (b2i ((wcs (fL A i e g) k).2))), (18, .int (b2i (oL A i e g k))), (17, .int (nI ((tL A i e g).getD k 0))), (16, .int (nI (wcL (tL A i e g) * A 21 g))), (0, .ref (Q 0)), (1, .ref (Q 1)), (2, .ref (Q 2)), (3, .ref (Q 3)), (4, .ref (Q 4)), (5, .ref (Q 5)), (6, .int (nI i)), (7, .int (nI e)), (8, .int (nI g)), (9, .int (nI cn)), (10, .int (nI x))] dL_isRead_525 (by decide) rfl ?_
            refine r_iload dL_isRead_527 5 rfl ?_
            refine r_iload dL_isRead_529 2 rfl ?_
            refine n_if_ne 539 dL_isRead_531 (by decide) (by omega) (fun c155 => absurd c155 (by decide)) (fun c155 => ?_)
            refine r_iload dL_isRead_534 1 rfl ?_
            refine n_if_eq 548 dL_isRead_536 (by decide) (by omega) (fun c156 => ?_) (fun c156 => absurd c156 (by decide))
            refine r_iconst (v := (nI 0)) dL_isRead_548 (by decide) ?_
            refine n_iadd dL_isRead_549 ?_
            refine r_top (nI ((wcs (fL A i e g) (k + 1)).1)) (by rw [hw1]; rfl) ?_
            refine r_istore [(20, .int (nI ((wcs (fL A i e g) (k + 1)).1))), (15, .int (nI 1)), (24, .int (nI 0)), (23, .int (nI 0)), (22, .int (nI k)), (21, .int (nI k)), (19, .int (b2i ((wcs (fL A i e g) k).2))), (18, .int (b2i (oL A i e g k))), (17, .int (nI ((tL A i e g).getD k 0))), (16, .int (nI (wcL (tL A i e g) * A 21 g))), (0, .ref (Q 0)), (1, .ref (Q 1)), (2, .ref (Q 2)), (3, .ref (Q 3)), (4, .ref (Q 4)), (5, .ref (Q 5)), (6, .int (nI i)), (7, .int (nI e)), (8, .int (nI g)), (9, .int (nI cn)), (10, .int (nI x))] dL_isRead_550 (by decide) rfl ?_
            refine r_iload dL_isRead_552 3 rfl ?_
            refine n_if_ne 562 dL_isRead_554 (by decide) (by omega) (fun c157 => absurd c157 (by decide)) (fun c157 => ?_)
            refine r_iload dL_isRead_557 2 rfl ?_
            refine n_if_eq 566 dL_isRead_559 (by decide) (by omega) (fun c158 => ?_) (fun c158 => absurd c158 (by decide))
            refine r_iconst (v := (nI 0)) dL_isRead_566 (by decide) ?_
            refine r_top (b2i ((wcs (fL A i e g) (k + 1)).2)) (by rw [hlb]; rfl) ?_
            refine r_istore [(19, .int (b2i ((wcs (fL A i e g) (k + 1)).2))), (20, .int (nI ((wcs (fL A i e g) (k + 1)).1))), (15, .int (nI 1)), (24, .int (nI 0)), (23, .int (nI 0)), (22, .int (nI k)), (21, .int (nI k)), (18, .int (b2i (oL A i e g k))), (17, .int (nI ((tL A i e g).getD k 0))), (16, .int (nI (wcL (tL A i e g) * A 21 g))), (0, .ref (Q 0)), (1, .ref (Q 1)), (2, .ref (Q 2)), (3, .ref (Q 3)), (4, .ref (Q 4)), (5, .ref (Q 5)), (6, .int (nI i)), (7, .int (nI e)), (8, .int (nI g)), (9, .int (nI cn)), (10, .int (nI x))] dL_isRead_567 (by decide) rfl ?_
            refine r_iload dL_isRead_569 8 rfl ?_
            refine r_bipush (v := (nI 46)) dL_isRead_571 (by decide) ?_
            refine n_icmp_eq 586 dL_isRead_573 (by decide) (by omega) (by omega) (fun c159 => ?_) (fun c159 => absurd c159 (by omega))
            refine r_iconst (v := (nI 1)) dL_isRead_586 (by decide) ?_
            refine r_goto 591 dL_isRead_587 (by decide) ?_
            refine r_top (b2i (oL A i e g (k + 1))) (by rw [hn2]; rfl) ?_
            refine r_istore [(18, .int (b2i (oL A i e g (k + 1)))), (19, .int (b2i ((wcs (fL A i e g) (k + 1)).2))), (20, .int (nI ((wcs (fL A i e g) (k + 1)).1))), (15, .int (nI 1)), (24, .int (nI 0)), (23, .int (nI 0)), (22, .int (nI k)), (21, .int (nI k)), (17, .int (nI ((tL A i e g).getD k 0))), (16, .int (nI (wcL (tL A i e g) * A 21 g))), (0, .ref (Q 0)), (1, .ref (Q 1)), (2, .ref (Q 2)), (3, .ref (Q 3)), (4, .ref (Q 4)), (5, .ref (Q 5)), (6, .int (nI i)), (7, .int (nI e)), (8, .int (nI g)), (9, .int (nI cn)), (10, .int (nI x))] dL_isRead_591 (by decide) rfl ?_
            refine r_iinc (nI (k + 1)) [(21, .int (nI (k + 1))), (18, .int (b2i (oL A i e g (k + 1)))), (19, .int (b2i ((wcs (fL A i e g) (k + 1)).2))), (20, .int (nI ((wcs (fL A i e g) (k + 1)).1))), (15, .int (nI 1)), (24, .int (nI 0)), (23, .int (nI 0)), (22, .int (nI k)), (17, .int (nI ((tL A i e g).getD k 0))), (16, .int (nI (wcL (tL A i e g) * A 21 g))), (0, .ref (Q 0)), (1, .ref (Q 1)), (2, .ref (Q 2)), (3, .ref (Q 3)), (4, .ref (Q 4)), (5, .ref (Q 5)), (6, .int (nI i)), (7, .int (nI e)), (8, .int (nI g)), (9, .int (nI cn)), (10, .int (nI x))] dL_isRead_593 7 rfl (nI_add k 1) (by decide) rfl ?_
            refine r_aload_n dL_isRead_596 rfl 10 rfl ?_
            refine r_iload dL_isRead_597 16 rfl ?_
            refine r_iload dL_isRead_599 17 rfl ?_
            refine r_iload dL_isRead_601 18 rfl ?_
            refine r_iload dL_isRead_603 7 rfl ?_
            refine r_iconst (v := (nI 1)) dL_isRead_605 (by decide) ?_
            refine n_iadd dL_isRead_606 ?_
            obtain ⟨fshq160, hq160⟩ := hL153.r0
            refine r_callV (st := []) [.int (nI i), .int (nI e), .int (nI g), .int (nI (k + 1))] (40 * (10 - (k + 1)) + 20) (800 * (10 - (k + 1)) + 400) dL_isRead_607 kX8_sign nX8_sign lRL_61 hq160 rfl (L_sign (k := k + 1) hL153 hI hi he hg (by omega)) rfl rfl (Nat.le_of_ble_eq_true rfl) (by omega) (by omega) (fun _ _ h => h.elim) ?_
            intro r G161 hr
            obtain ⟨rfl, hL162⟩ := hr
            show WP mL_isRead _ _ _ _ _ _ _ 610 [(21, .int (nI (k + 1))), (18, .int (b2i (oL A i e g (k + 1)))), (19, .int (b2i ((wcs (fL A i e g) (k + 1)).2))), (20, .int (nI ((wcs (fL A i e g) (k + 1)).1))), (15, .int (nI 1)), (24, .int (nI 0)), (23, .int (nI 0)), (22, .int (nI k)), (17, .int (nI ((tL A i e g).getD k 0))), (16, .int (nI (wcL (tL A i e g) * A 21 g))), (0, .ref (Q 0)), (1, .ref (Q 1)), (2, .ref (Q 2)), (3, .ref (Q 3)), (4, .ref (Q 4)), (5, .ref (Q 5)), (6, .int (nI i)), (7, .int (nI e)), (8, .int (nI g)), (9, .int (nI cn)), (10, .int (nI x))] [.int (nI ((tL A i e g).getD (k + 1) 0))]
            refine r_istore [(17, .int (nI ((tL A i e g).getD (k + 1) 0))), (21, .int (nI (k + 1))), (18, .int (b2i (oL A i e g (k + 1)))), (19, .int (b2i ((wcs (fL A i e g) (k + 1)).2))), (20, .int (nI ((wcs (fL A i e g) (k + 1)).1))), (15, .int (nI 1)), (24, .int (nI 0)), (23, .int (nI 0)), (22, .int (nI k)), (16, .int (nI (wcL (tL A i e g) * A 21 g))), (0, .ref (Q 0)), (1, .ref (Q 1)), (2, .ref (Q 2)), (3, .ref (Q 3)), (4, .ref (Q 4)), (5, .ref (Q 5)), (6, .int (nI i)), (7, .int (nI e)), (8, .int (nI g)), (9, .int (nI cn)), (10, .int (nI x))] dL_isRead_610 (by decide) rfl ?_
            refine r_iinc (nI (k + 1)) [(22, .int (nI (k + 1))), (17, .int (nI ((tL A i e g).getD (k + 1) 0))), (21, .int (nI (k + 1))), (18, .int (b2i (oL A i e g (k + 1)))), (19, .int (b2i ((wcs (fL A i e g) (k + 1)).2))), (20, .int (nI ((wcs (fL A i e g) (k + 1)).1))), (15, .int (nI 1)), (24, .int (nI 0)), (23, .int (nI 0)), (16, .int (nI (wcL (tL A i e g) * A 21 g))), (0, .ref (Q 0)), (1, .ref (Q 1)), (2, .ref (Q 2)), (3, .ref (Q 3)), (4, .ref (Q 4)), (5, .ref (Q 5)), (6, .int (nI i)), (7, .int (nI e)), (8, .int (nI g)), (9, .int (nI cn)), (10, .int (nI x))] dL_isRead_612 8 rfl (nI_add k 1) (by decide) rfl ?_
            refine r_goto 392 dL_isRead_615 (by decide) ?_
            exact WP.loc [0, 2, 5, 4, 3, 1, 9, 6, 10, 11, 12, 13, 14, 15, 16, 17, 18, 19, 20] rfl (WP.bud (by omega) (by omega) (ih (k + 1) _ ⟨hL162, by omega, by omega⟩ (by omega)))
set_option maxRecDepth 100000 in
set_option maxHeartbeats 4000000 in
theorem l_rd_costs {d b0 : Nat} {G : GH} {Q : Nat → Nat} {A B : ST} (hL : LW Q A B G) (hI : Inv A) (hR : Rl A B) {i e g cn x : Nat} (hi : i < A 15 0) (he : e < A 18 0) (hg : g < 3) (hcn : cn < 4) (hx : x < 2 ^ 31) : WP mL_isRead (d + 9) b0 (fun r G' => r = some (.int (nI 1)) ∧ LW Q A B G') NoX G 460 9200 283 [(15, .int (nI 1)), (11, .int (b2i (hTx A i e g (A 17 i)))), (0, .ref (Q 0)), (1, .ref (Q 1)), (2, .ref (Q 2)), (3, .ref (Q 3)), (4, .ref (Q 4)), (5, .ref (Q 5)), (6, .int (nI i)), (7, .int (nI e)), (8, .int (nI g)), (9, .int (nI cn)), (10, .int (nI x))] [] := by
  have hm0 := hR.m0
  have hm1 := hR.m1
  have hm2 := hR.m2
  have hm3 := hR.m3
  have hm4 := hR.m4
  have hn9 := hR.n9
  have hb0 := hI.b0
  have hb2 := hI.b2
  have hb15 := hI.b15
  have hb18 := hI.b18
  have hp5 := hR.p0 hg
  have hpr := hI.pr g hg
  have hcl := costs_lt hI hi he hg
  have hln := rw_len hI hi he hg
  have hq0 := hR.l0 (show i < 6 by omega)
  have hq2 := (hI.ro i (by omega)).1
  have hs := t_lt hI hi he hg 0
  refine r_aload_n dL_isRead_283 rfl 2 rfl ?_
  refine r_iload dL_isRead_284 8 rfl ?_
  refine r_iload dL_isRead_286 9 rfl ?_
  refine r_iload dL_isRead_288 10 rfl ?_
  obtain ⟨fshq1, hq1⟩ := hL.r0
  refine r_callV (st := []) [.int (nI i), .int (nI e), .int (nI g)] 440 8800 dL_isRead_290 kX8_costs nX8_costs lRL_68 hq1 rfl (L_costs hL hI hi he hg) rfl rfl (Nat.le_of_ble_eq_true rfl) (by omega) (by omega) (fun _ _ h => h.elim) ?_
  intro r G2 hr
  obtain ⟨rfl, hL3⟩ := hr
  show WP mL_isRead _ _ _ _ _ _ _ 293 [(15, .int (nI 1)), (11, .int (b2i (hTx A i e g (A 17 i)))), (0, .ref (Q 0)), (1, .ref (Q 1)), (2, .ref (Q 2)), (3, .ref (Q 3)), (4, .ref (Q 4)), (5, .ref (Q 5)), (6, .int (nI i)), (7, .int (nI e)), (8, .int (nI g)), (9, .int (nI cn)), (10, .int (nI x))] [.int (nI (wcL (tL A i e g) * A 21 g))]
  refine r_istore [(16, .int (nI (wcL (tL A i e g) * A 21 g))), (15, .int (nI 1)), (11, .int (b2i (hTx A i e g (A 17 i)))), (0, .ref (Q 0)), (1, .ref (Q 1)), (2, .ref (Q 2)), (3, .ref (Q 3)), (4, .ref (Q 4)), (5, .ref (Q 5)), (6, .int (nI i)), (7, .int (nI e)), (8, .int (nI g)), (9, .int (nI cn)), (10, .int (nI x))] dL_isRead_293 (by decide) rfl ?_
  refine r_aload_n dL_isRead_295 rfl 3 rfl ?_
  refine r_iload dL_isRead_296 9 rfl ?_
  refine r_iload dL_isRead_298 10 rfl ?_
  refine r_iload dL_isRead_300 11 rfl ?_
  refine r_iconst (v := (nI 0)) dL_isRead_302 (by decide) ?_
  obtain ⟨fshq4, hq4⟩ := hL3.r0
  refine r_callV (st := []) [.int (nI i), .int (nI e), .int (nI g), .int (nI 0)] 420 8400 dL_isRead_303 kX8_sign nX8_sign lRL_61 hq4 rfl (L_sign (k := 0) hL3 hI hi he hg (by omega)) rfl rfl (Nat.le_of_ble_eq_true rfl) (by omega) (by omega) (fun _ _ h => h.elim) ?_
  intro r G5 hr
  obtain ⟨rfl, hL6⟩ := hr
  show WP mL_isRead _ _ _ _ _ _ _ 306 [(16, .int (nI (wcL (tL A i e g) * A 21 g))), (15, .int (nI 1)), (11, .int (b2i (hTx A i e g (A 17 i)))), (0, .ref (Q 0)), (1, .ref (Q 1)), (2, .ref (Q 2)), (3, .ref (Q 3)), (4, .ref (Q 4)), (5, .ref (Q 5)), (6, .int (nI i)), (7, .int (nI e)), (8, .int (nI g)), (9, .int (nI cn)), (10, .int (nI x))] [.int (nI ((tL A i e g).getD 0 0))]
  refine r_istore [(17, .int (nI ((tL A i e g).getD 0 0))), (16, .int (nI (wcL (tL A i e g) * A 21 g))), (15, .int (nI 1)), (11, .int (b2i (hTx A i e g (A 17 i)))), (0, .ref (Q 0)), (1, .ref (Q 1)), (2, .ref (Q 2)), (3, .ref (Q 3)), (4, .ref (Q 4)), (5, .ref (Q 5)), (6, .int (nI i)), (7, .int (nI e)), (8, .int (nI g)), (9, .int (nI cn)), (10, .int (nI x))] dL_isRead_306 (by decide) rfl ?_
  refine r_iload dL_isRead_308 2 rfl ?_
  refine n_if_eq 374 dL_isRead_310 (by decide) (by omega) (fun c7 => absurd c7 (by decide)) (fun c7 => ?_)
  refine r_iload dL_isRead_313 1 rfl ?_
  refine n_if_lt 374 dL_isRead_315 (by decide) (by omega) (fun c8 => absurd c8 (by omega)) (fun c8 => ?_)
  refine r_aload dL_isRead_318 9 rfl ?_
  refine r_iload dL_isRead_320 12 rfl ?_
  refine n_iald dL_isRead_322 hL6.r5 (by omega) (by decide) ?_
  refine n_if_ne 334 dL_isRead_323 (by decide) (by omega) (fun c323 => ?_) (fun c323 => ?_)
  · have hcm : (wcL (tL A i e g) * A 21 g) % (B 5 g) = 0 := by rw [hp5]; exact Nat.mul_mod_left _ _
    refine r_iload dL_isRead_334 1 rfl ?_
    refine r_aload dL_isRead_336 9 rfl ?_
    refine r_iload dL_isRead_338 12 rfl ?_
    refine n_iald dL_isRead_340 hL6.r5 (by omega) (by decide) ?_
    refine n_irem dL_isRead_341 (by omega) (by omega) (by omega) ?_
    refine n_if_ne 374 dL_isRead_342 (by decide) (by omega) (fun c10 => absurd c10 (fun q => q hcm)) (fun c10 => ?_)
    refine r_iload dL_isRead_345 0 rfl ?_
    refine n_if_le 354 dL_isRead_347 (by decide) (by omega) (fun c347 => ?_) (fun c347 => ?_)
    · refine r_iconst (v := (nI 0)) dL_isRead_354 (by decide) ?_
      have hnil : ltA A i e g = [] := List.eq_nil_of_length_eq_zero (by have := hs.2; omega)
      have hht : hTx A i e g (A 17 i) = false := (hTx_nil hI hi he hg (A 17 i) (Nat.le_refl _)).mp hnil
      have hc1 : wcL (tL A i e g) * A 21 g = 0 := by
        show wcL (bld true (ltA A i e g)) * A 21 g = 0
        rw [hnil]
        exact Nat.zero_mul _
      refine r_iload dL_isRead_355 3 rfl ?_
      refine r_icmp_ne 374 dL_isRead_357 (by decide) (fun c12 => absurd c12 (fun q => q (by rw [hht]; rfl))) (fun c12 => ?_)
      refine r_iload dL_isRead_360 3 rfl ?_
      refine n_bif_ne 370 dL_isRead_362 (by decide) (fun c13 => absurd c13 (by rw [hht]; decide)) (fun c13 => ?_)
      refine r_iload dL_isRead_365 1 rfl ?_
      refine n_if_ne 374 dL_isRead_367 (by decide) (by omega) (fun c14 => absurd c14 (fun q => q hc1)) (fun c14 => ?_)
      refine r_iconst (v := (nI 1)) dL_isRead_370 (by decide) ?_
      refine r_goto 375 dL_isRead_371 (by decide) ?_
      refine r_istore [(15, .int (nI 1)), (17, .int (nI ((tL A i e g).getD 0 0))), (16, .int (nI (wcL (tL A i e g) * A 21 g))), (11, .int (b2i (hTx A i e g (A 17 i)))), (0, .ref (Q 0)), (1, .ref (Q 1)), (2, .ref (Q 2)), (3, .ref (Q 3)), (4, .ref (Q 4)), (5, .ref (Q 5)), (6, .int (nI i)), (7, .int (nI e)), (8, .int (nI g)), (9, .int (nI cn)), (10, .int (nI x))] dL_isRead_375 (by decide) rfl ?_
      refine r_iconst (v := (nI 1)) dL_isRead_377 (by decide) ?_
      refine r_istore [(18, .int (nI 1)), (15, .int (nI 1)), (17, .int (nI ((tL A i e g).getD 0 0))), (16, .int (nI (wcL (tL A i e g) * A 21 g))), (11, .int (b2i (hTx A i e g (A 17 i)))), (0, .ref (Q 0)), (1, .ref (Q 1)), (2, .ref (Q 2)), (3, .ref (Q 3)), (4, .ref (Q 4)), (5, .ref (Q 5)), (6, .int (nI i)), (7, .int (nI e)), (8, .int (nI g)), (9, .int (nI cn)), (10, .int (nI x))] dL_isRead_378 (by decide) rfl ?_
      refine r_iconst (v := (nI 0)) dL_isRead_380 (by decide) ?_
      refine r_istore [(19, .int (nI 0)), (18, .int (nI 1)), (15, .int (nI 1)), (17, .int (nI ((tL A i e g).getD 0 0))), (16, .int (nI (wcL (tL A i e g) * A 21 g))), (11, .int (b2i (hTx A i e g (A 17 i)))), (0, .ref (Q 0)), (1, .ref (Q 1)), (2, .ref (Q 2)), (3, .ref (Q 3)), (4, .ref (Q 4)), (5, .ref (Q 5)), (6, .int (nI i)), (7, .int (nI e)), (8, .int (nI g)), (9, .int (nI cn)), (10, .int (nI x))] dL_isRead_381 (by decide) rfl ?_
      refine r_iconst (v := (nI 0)) dL_isRead_383 (by decide) ?_
      refine r_istore [(20, .int (nI 0)), (19, .int (nI 0)), (18, .int (nI 1)), (15, .int (nI 1)), (17, .int (nI ((tL A i e g).getD 0 0))), (16, .int (nI (wcL (tL A i e g) * A 21 g))), (11, .int (b2i (hTx A i e g (A 17 i)))), (0, .ref (Q 0)), (1, .ref (Q 1)), (2, .ref (Q 2)), (3, .ref (Q 3)), (4, .ref (Q 4)), (5, .ref (Q 5)), (6, .int (nI i)), (7, .int (nI e)), (8, .int (nI g)), (9, .int (nI cn)), (10, .int (nI x))] dL_isRead_384 (by decide) rfl ?_
      refine r_iconst (v := (nI 0)) dL_isRead_386 (by decide) ?_
      refine r_istore [(21, .int (nI 0)), (20, .int (nI 0)), (19, .int (nI 0)), (18, .int (nI 1)), (15, .int (nI 1)), (17, .int (nI ((tL A i e g).getD 0 0))), (16, .int (nI (wcL (tL A i e g) * A 21 g))), (11, .int (b2i (hTx A i e g (A 17 i)))), (0, .ref (Q 0)), (1, .ref (Q 1)), (2, .ref (Q 2)), (3, .ref (Q 3)), (4, .ref (Q 4)), (5, .ref (Q 5)), (6, .int (nI i)), (7, .int (nI e)), (8, .int (nI g)), (9, .int (nI cn)), (10, .int (nI x))] dL_isRead_387 (by decide) rfl ?_
      refine r_iconst (v := (nI 0)) dL_isRead_389 (by decide) ?_
      refine r_istore [(22, .int (nI 0)), (21, .int (nI 0)), (20, .int (nI 0)), (19, .int (nI 0)), (18, .int (nI 1)), (15, .int (nI 1)), (17, .int (nI ((tL A i e g).getD 0 0))), (16, .int (nI (wcL (tL A i e g) * A 21 g))), (11, .int (b2i (hTx A i e g (A 17 i)))), (0, .ref (Q 0)), (1, .ref (Q 1)), (2, .ref (Q 2)), (3, .ref (Q 3)), (4, .ref (Q 4)), (5, .ref (Q 5)), (6, .int (nI i)), (7, .int (nI e)), (8, .int (nI g)), (9, .int (nI cn)), (10, .int (nI x))] dL_isRead_390 (by decide) rfl ?_
      exact WP.loc [0, 1, 2, 3, 4, 6, 7, 5, 9, 10, 11, 12, 13, 14, 15, 16, 17, 18, 19] rfl (WP.bud (by omega) (by omega) (l_rd_ten hI hR hi he hg hcn hx 11 0 _ ⟨hL6, by omega, by omega⟩ (by omega)))
    · refine r_iconst (v := (nI 1)) dL_isRead_350 (by decide) ?_
      refine r_goto 355 dL_isRead_351 (by decide) ?_
      have hht : hTx A i e g (A 17 i) = true := by
        cases hq : hTx A i e g (A 17 i) with
        | true => rfl
        | false =>
          exfalso
          have h8 : ltA A i e g = [] := (hTx_nil hI hi he hg (A 17 i) (Nat.le_refl _)).mpr hq
          have h9 := hs.2
          rw [h8] at h9
          have h10 : ([] : List Nat).length = 0 := rfl
          rw [h10] at h9
          omega
      refine r_iload dL_isRead_355 3 rfl ?_
      refine r_icmp_ne 374 dL_isRead_357 (by decide) (fun c15 => absurd c15 (fun q => q (by rw [hht]; rfl))) (fun c15 => ?_)
      refine r_iload dL_isRead_360 3 rfl ?_
      refine n_bif_ne 370 dL_isRead_362 (by decide) (fun c16 => ?_) (fun c16 => absurd c16 (by rw [hht]; decide))
      refine r_iconst (v := (nI 1)) dL_isRead_370 (by decide) ?_
      refine r_goto 375 dL_isRead_371 (by decide) ?_
      refine r_istore [(15, .int (nI 1)), (17, .int (nI ((tL A i e g).getD 0 0))), (16, .int (nI (wcL (tL A i e g) * A 21 g))), (11, .int (b2i (hTx A i e g (A 17 i)))), (0, .ref (Q 0)), (1, .ref (Q 1)), (2, .ref (Q 2)), (3, .ref (Q 3)), (4, .ref (Q 4)), (5, .ref (Q 5)), (6, .int (nI i)), (7, .int (nI e)), (8, .int (nI g)), (9, .int (nI cn)), (10, .int (nI x))] dL_isRead_375 (by decide) rfl ?_
      refine r_iconst (v := (nI 1)) dL_isRead_377 (by decide) ?_
      refine r_istore [(18, .int (nI 1)), (15, .int (nI 1)), (17, .int (nI ((tL A i e g).getD 0 0))), (16, .int (nI (wcL (tL A i e g) * A 21 g))), (11, .int (b2i (hTx A i e g (A 17 i)))), (0, .ref (Q 0)), (1, .ref (Q 1)), (2, .ref (Q 2)), (3, .ref (Q 3)), (4, .ref (Q 4)), (5, .ref (Q 5)), (6, .int (nI i)), (7, .int (nI e)), (8, .int (nI g)), (9, .int (nI cn)), (10, .int (nI x))] dL_isRead_378 (by decide) rfl ?_
      refine r_iconst (v := (nI 0)) dL_isRead_380 (by decide) ?_
      refine r_istore [(19, .int (nI 0)), (18, .int (nI 1)), (15, .int (nI 1)), (17, .int (nI ((tL A i e g).getD 0 0))), (16, .int (nI (wcL (tL A i e g) * A 21 g))), (11, .int (b2i (hTx A i e g (A 17 i)))), (0, .ref (Q 0)), (1, .ref (Q 1)), (2, .ref (Q 2)), (3, .ref (Q 3)), (4, .ref (Q 4)), (5, .ref (Q 5)), (6, .int (nI i)), (7, .int (nI e)), (8, .int (nI g)), (9, .int (nI cn)), (10, .int (nI x))] dL_isRead_381 (by decide) rfl ?_
      refine r_iconst (v := (nI 0)) dL_isRead_383 (by decide) ?_
      refine r_istore [(20, .int (nI 0)), (19, .int (nI 0)), (18, .int (nI 1)), (15, .int (nI 1)), (17, .int (nI ((tL A i e g).getD 0 0))), (16, .int (nI (wcL (tL A i e g) * A 21 g))), (11, .int (b2i (hTx A i e g (A 17 i)))), (0, .ref (Q 0)), (1, .ref (Q 1)), (2, .ref (Q 2)), (3, .ref (Q 3)), (4, .ref (Q 4)), (5, .ref (Q 5)), (6, .int (nI i)), (7, .int (nI e)), (8, .int (nI g)), (9, .int (nI cn)), (10, .int (nI x))] dL_isRead_384 (by decide) rfl ?_
      refine r_iconst (v := (nI 0)) dL_isRead_386 (by decide) ?_
      refine r_istore [(21, .int (nI 0)), (20, .int (nI 0)), (19, .int (nI 0)), (18, .int (nI 1)), (15, .int (nI 1)), (17, .int (nI ((tL A i e g).getD 0 0))), (16, .int (nI (wcL (tL A i e g) * A 21 g))), (11, .int (b2i (hTx A i e g (A 17 i)))), (0, .ref (Q 0)), (1, .ref (Q 1)), (2, .ref (Q 2)), (3, .ref (Q 3)), (4, .ref (Q 4)), (5, .ref (Q 5)), (6, .int (nI i)), (7, .int (nI e)), (8, .int (nI g)), (9, .int (nI cn)), (10, .int (nI x))] dL_isRead_387 (by decide) rfl ?_
      refine r_iconst (v := (nI 0)) dL_isRead_389 (by decide) ?_
      refine r_istore [(22, .int (nI 0)), (21, .int (nI 0)), (20, .int (nI 0)), (19, .int (nI 0)), (18, .int (nI 1)), (15, .int (nI 1)), (17, .int (nI ((tL A i e g).getD 0 0))), (16, .int (nI (wcL (tL A i e g) * A 21 g))), (11, .int (b2i (hTx A i e g (A 17 i)))), (0, .ref (Q 0)), (1, .ref (Q 1)), (2, .ref (Q 2)), (3, .ref (Q 3)), (4, .ref (Q 4)), (5, .ref (Q 5)), (6, .int (nI i)), (7, .int (nI e)), (8, .int (nI g)), (9, .int (nI cn)), (10, .int (nI x))] dL_isRead_390 (by decide) rfl ?_
      exact WP.loc [0, 1, 2, 3, 4, 6, 7, 5, 9, 10, 11, 12, 13, 14, 15, 16, 17, 18, 19] rfl (WP.bud (by omega) (by omega) (l_rd_ten hI hR hi he hg hcn hx 11 0 _ ⟨hL6, by omega, by omega⟩ (by omega)))
  · have hc0 : wcL (tL A i e g) * A 21 g = 0 := by rw [← hp5, c323]; rfl
    refine r_iload dL_isRead_326 1 rfl ?_
    refine n_if_ne 374 dL_isRead_328 (by decide) (by omega) (fun c17 => absurd c17 (fun q => q hc0)) (fun c17 => ?_)
    refine r_goto 345 dL_isRead_331 (by decide) ?_
    refine r_iload dL_isRead_345 0 rfl ?_
    refine n_if_le 354 dL_isRead_347 (by decide) (by omega) (fun c347 => ?_) (fun c347 => ?_)
    · refine r_iconst (v := (nI 0)) dL_isRead_354 (by decide) ?_
      have hnil : ltA A i e g = [] := List.eq_nil_of_length_eq_zero (by have := hs.2; omega)
      have hht : hTx A i e g (A 17 i) = false := (hTx_nil hI hi he hg (A 17 i) (Nat.le_refl _)).mp hnil
      have hc1 : wcL (tL A i e g) * A 21 g = 0 := by
        show wcL (bld true (ltA A i e g)) * A 21 g = 0
        rw [hnil]
        exact Nat.zero_mul _
      refine r_iload dL_isRead_355 3 rfl ?_
      refine r_icmp_ne 374 dL_isRead_357 (by decide) (fun c19 => absurd c19 (fun q => q (by rw [hht]; rfl))) (fun c19 => ?_)
      refine r_iload dL_isRead_360 3 rfl ?_
      refine n_bif_ne 370 dL_isRead_362 (by decide) (fun c20 => absurd c20 (by rw [hht]; decide)) (fun c20 => ?_)
      refine r_iload dL_isRead_365 1 rfl ?_
      refine n_if_ne 374 dL_isRead_367 (by decide) (by omega) (fun c21 => absurd c21 (fun q => q hc1)) (fun c21 => ?_)
      refine r_iconst (v := (nI 1)) dL_isRead_370 (by decide) ?_
      refine r_goto 375 dL_isRead_371 (by decide) ?_
      refine r_istore [(15, .int (nI 1)), (17, .int (nI ((tL A i e g).getD 0 0))), (16, .int (nI (wcL (tL A i e g) * A 21 g))), (11, .int (b2i (hTx A i e g (A 17 i)))), (0, .ref (Q 0)), (1, .ref (Q 1)), (2, .ref (Q 2)), (3, .ref (Q 3)), (4, .ref (Q 4)), (5, .ref (Q 5)), (6, .int (nI i)), (7, .int (nI e)), (8, .int (nI g)), (9, .int (nI cn)), (10, .int (nI x))] dL_isRead_375 (by decide) rfl ?_
      refine r_iconst (v := (nI 1)) dL_isRead_377 (by decide) ?_
      refine r_istore [(18, .int (nI 1)), (15, .int (nI 1)), (17, .int (nI ((tL A i e g).getD 0 0))), (16, .int (nI (wcL (tL A i e g) * A 21 g))), (11, .int (b2i (hTx A i e g (A 17 i)))), (0, .ref (Q 0)), (1, .ref (Q 1)), (2, .ref (Q 2)), (3, .ref (Q 3)), (4, .ref (Q 4)), (5, .ref (Q 5)), (6, .int (nI i)), (7, .int (nI e)), (8, .int (nI g)), (9, .int (nI cn)), (10, .int (nI x))] dL_isRead_378 (by decide) rfl ?_
      refine r_iconst (v := (nI 0)) dL_isRead_380 (by decide) ?_
      refine r_istore [(19, .int (nI 0)), (18, .int (nI 1)), (15, .int (nI 1)), (17, .int (nI ((tL A i e g).getD 0 0))), (16, .int (nI (wcL (tL A i e g) * A 21 g))), (11, .int (b2i (hTx A i e g (A 17 i)))), (0, .ref (Q 0)), (1, .ref (Q 1)), (2, .ref (Q 2)), (3, .ref (Q 3)), (4, .ref (Q 4)), (5, .ref (Q 5)), (6, .int (nI i)), (7, .int (nI e)), (8, .int (nI g)), (9, .int (nI cn)), (10, .int (nI x))] dL_isRead_381 (by decide) rfl ?_
      refine r_iconst (v := (nI 0)) dL_isRead_383 (by decide) ?_
      refine r_istore [(20, .int (nI 0)), (19, .int (nI 0)), (18, .int (nI 1)), (15, .int (nI 1)), (17, .int (nI ((tL A i e g).getD 0 0))), (16, .int (nI (wcL (tL A i e g) * A 21 g))), (11, .int (b2i (hTx A i e g (A 17 i)))), (0, .ref (Q 0)), (1, .ref (Q 1)), (2, .ref (Q 2)), (3, .ref (Q 3)), (4, .ref (Q 4)), (5, .ref (Q 5)), (6, .int (nI i)), (7, .int (nI e)), (8, .int (nI g)), (9, .int (nI cn)), (10, .int (nI x))] dL_isRead_384 (by decide) rfl ?_
      refine r_iconst (v := (nI 0)) dL_isRead_386 (by decide) ?_
      refine r_istore [(21, .int (nI 0)), (20, .int (nI 0)), (19, .int (nI 0)), (18, .int (nI 1)), (15, .int (nI 1)), (17, .int (nI ((tL A i e g).getD 0 0))), (16, .int (nI (wcL (tL A i e g) * A 21 g))), (11, .int (b2i (hTx A i e g (A 17 i)))), (0, .ref (Q 0)), (1, .ref (Q 1)), (2, .ref (Q 2)), (3, .ref (Q 3)), (4, .ref (Q 4)), (5, .ref (Q 5)), (6, .int (nI i)), (7, .int (nI e)), (8, .int (nI g)), (9, .int (nI cn)), (10, .int (nI x))] dL_isRead_387 (by decide) rfl ?_
      refine r_iconst (v := (nI 0)) dL_isRead_389 (by decide) ?_
      refine r_istore [(22, .int (nI 0)), (21, .int (nI 0)), (20, .int (nI 0)), (19, .int (nI 0)), (18, .int (nI 1)), (15, .int (nI 1)), (17, .int (nI ((tL A i e g).getD 0 0))), (16, .int (nI (wcL (tL A i e g) * A 21 g))), (11, .int (b2i (hTx A i e g (A 17 i)))), (0, .ref (Q 0)), (1, .ref (Q 1)), (2, .ref (Q 2)), (3, .ref (Q 3)), (4, .ref (Q 4)), (5, .ref (Q 5)), (6, .int (nI i)), (7, .int (nI e)), (8, .int (nI g)), (9, .int (nI cn)), (10, .int (nI x))] dL_isRead_390 (by decide) rfl ?_
      exact WP.loc [0, 1, 2, 3, 4, 6, 7, 5, 9, 10, 11, 12, 13, 14, 15, 16, 17, 18, 19] rfl (WP.bud (by omega) (by omega) (l_rd_ten hI hR hi he hg hcn hx 11 0 _ ⟨hL6, by omega, by omega⟩ (by omega)))
    · refine r_iconst (v := (nI 1)) dL_isRead_350 (by decide) ?_
      refine r_goto 355 dL_isRead_351 (by decide) ?_
      have hht : hTx A i e g (A 17 i) = true := by
        cases hq : hTx A i e g (A 17 i) with
        | true => rfl
        | false =>
          exfalso
          have h8 : ltA A i e g = [] := (hTx_nil hI hi he hg (A 17 i) (Nat.le_refl _)).mpr hq
          have h9 := hs.2
          rw [h8] at h9
          have h10 : ([] : List Nat).length = 0 := rfl
          rw [h10] at h9
          omega
      refine r_iload dL_isRead_355 3 rfl ?_
      refine r_icmp_ne 374 dL_isRead_357 (by decide) (fun c22 => absurd c22 (fun q => q (by rw [hht]; rfl))) (fun c22 => ?_)
      refine r_iload dL_isRead_360 3 rfl ?_
      refine n_bif_ne 370 dL_isRead_362 (by decide) (fun c23 => ?_) (fun c23 => absurd c23 (by rw [hht]; decide))
      refine r_iconst (v := (nI 1)) dL_isRead_370 (by decide) ?_
      refine r_goto 375 dL_isRead_371 (by decide) ?_
      refine r_istore [(15, .int (nI 1)), (17, .int (nI ((tL A i e g).getD 0 0))), (16, .int (nI (wcL (tL A i e g) * A 21 g))), (11, .int (b2i (hTx A i e g (A 17 i)))), (0, .ref (Q 0)), (1, .ref (Q 1)), (2, .ref (Q 2)), (3, .ref (Q 3)), (4, .ref (Q 4)), (5, .ref (Q 5)), (6, .int (nI i)), (7, .int (nI e)), (8, .int (nI g)), (9, .int (nI cn)), (10, .int (nI x))] dL_isRead_375 (by decide) rfl ?_
      refine r_iconst (v := (nI 1)) dL_isRead_377 (by decide) ?_
      refine r_istore [(18, .int (nI 1)), (15, .int (nI 1)), (17, .int (nI ((tL A i e g).getD 0 0))), (16, .int (nI (wcL (tL A i e g) * A 21 g))), (11, .int (b2i (hTx A i e g (A 17 i)))), (0, .ref (Q 0)), (1, .ref (Q 1)), (2, .ref (Q 2)), (3, .ref (Q 3)), (4, .ref (Q 4)), (5, .ref (Q 5)), (6, .int (nI i)), (7, .int (nI e)), (8, .int (nI g)), (9, .int (nI cn)), (10, .int (nI x))] dL_isRead_378 (by decide) rfl ?_
      refine r_iconst (v := (nI 0)) dL_isRead_380 (by decide) ?_
      refine r_istore [(19, .int (nI 0)), (18, .int (nI 1)), (15, .int (nI 1)), (17, .int (nI ((tL A i e g).getD 0 0))), (16, .int (nI (wcL (tL A i e g) * A 21 g))), (11, .int (b2i (hTx A i e g (A 17 i)))), (0, .ref (Q 0)), (1, .ref (Q 1)), (2, .ref (Q 2)), (3, .ref (Q 3)), (4, .ref (Q 4)), (5, .ref (Q 5)), (6, .int (nI i)), (7, .int (nI e)), (8, .int (nI g)), (9, .int (nI cn)), (10, .int (nI x))] dL_isRead_381 (by decide) rfl ?_
      refine r_iconst (v := (nI 0)) dL_isRead_383 (by decide) ?_
      refine r_istore [(20, .int (nI 0)), (19, .int (nI 0)), (18, .int (nI 1)), (15, .int (nI 1)), (17, .int (nI ((tL A i e g).getD 0 0))), (16, .int (nI (wcL (tL A i e g) * A 21 g))), (11, .int (b2i (hTx A i e g (A 17 i)))), (0, .ref (Q 0)), (1, .ref (Q 1)), (2, .ref (Q 2)), (3, .ref (Q 3)), (4, .ref (Q 4)), (5, .ref (Q 5)), (6, .int (nI i)), (7, .int (nI e)), (8, .int (nI g)), (9, .int (nI cn)), (10, .int (nI x))] dL_isRead_384 (by decide) rfl ?_
      refine r_iconst (v := (nI 0)) dL_isRead_386 (by decide) ?_
      refine r_istore [(21, .int (nI 0)), (20, .int (nI 0)), (19, .int (nI 0)), (18, .int (nI 1)), (15, .int (nI 1)), (17, .int (nI ((tL A i e g).getD 0 0))), (16, .int (nI (wcL (tL A i e g) * A 21 g))), (11, .int (b2i (hTx A i e g (A 17 i)))), (0, .ref (Q 0)), (1, .ref (Q 1)), (2, .ref (Q 2)), (3, .ref (Q 3)), (4, .ref (Q 4)), (5, .ref (Q 5)), (6, .int (nI i)), (7, .int (nI e)), (8, .int (nI g)), (9, .int (nI cn)), (10, .int (nI x))] dL_isRead_387 (by decide) rfl ?_
      refine r_iconst (v := (nI 0)) dL_isRead_389 (by decide) ?_
      refine r_istore [(22, .int (nI 0)), (21, .int (nI 0)), (20, .int (nI 0)), (19, .int (nI 0)), (18, .int (nI 1)), (15, .int (nI 1)), (17, .int (nI ((tL A i e g).getD 0 0))), (16, .int (nI (wcL (tL A i e g) * A 21 g))), (11, .int (b2i (hTx A i e g (A 17 i)))), (0, .ref (Q 0)), (1, .ref (Q 1)), (2, .ref (Q 2)), (3, .ref (Q 3)), (4, .ref (Q 4)), (5, .ref (Q 5)), (6, .int (nI i)), (7, .int (nI e)), (8, .int (nI g)), (9, .int (nI cn)), (10, .int (nI x))] dL_isRead_390 (by decide) rfl ?_
      exact WP.loc [0, 1, 2, 3, 4, 6, 7, 5, 9, 10, 11, 12, 13, 14, 15, 16, 17, 18, 19] rfl (WP.bud (by omega) (by omega) (l_rd_ten hI hR hi he hg hcn hx 11 0 _ ⟨hL6, by omega, by omega⟩ (by omega)))
set_option maxRecDepth 100000 in
set_option maxHeartbeats 4000000 in
theorem l_rd_fault {d b0 : Nat} {G : GH} {Q : Nat → Nat} {A B : ST} (hL : LW Q A B G) (hI : Inv A) (hR : Rl A B) {i e g cn x : Nat} (hi : i < A 15 0) (he : e < A 18 0) (hg : g < 3) (hcn : cn < 4) (hx : x < 2 ^ 31) : WP mL_isRead (d + 9) b0 (fun r G' => r = some (.int (nI 1)) ∧ LW Q A B G') NoX G 480 9600 159 [(12, .int (nI (fst1 A i e g (A 17 i)))), (11, .int (b2i (hTx A i e g (A 17 i)))), (0, .ref (Q 0)), (1, .ref (Q 1)), (2, .ref (Q 2)), (3, .ref (Q 3)), (4, .ref (Q 4)), (5, .ref (Q 5)), (6, .int (nI i)), (7, .int (nI e)), (8, .int (nI g)), (9, .int (nI cn)), (10, .int (nI x))] [] := by
  have hm0 := hR.m0
  have hm1 := hR.m1
  have hm2 := hR.m2
  have hm3 := hR.m3
  have hm4 := hR.m4
  have hn9 := hR.n9
  have hb0 := hI.b0
  have hb2 := hI.b2
  have hb15 := hI.b15
  have hb18 := hI.b18
  have hp5 := hR.p0 hg
  have hpr := hI.pr g hg
  have hcl := costs_lt hI hi he hg
  have hln := rw_len hI hi he hg
  have hq0 := hR.l0 (show i < 6 by omega)
  have hq2 := (hI.ro i (by omega)).1
  have hfb : fst1 A i e g (A 17 i) ≤ 62 := by
    rcases fst1_cases (A := A) i e g cn (A 17 i) with ⟨g1, -⟩ | ⟨q, g1, g2, g3, -⟩ <;> omega
  refine r_aload_n dL_isRead_159 rfl 2 rfl ?_
  refine r_iload dL_isRead_160 8 rfl ?_
  refine r_iload dL_isRead_162 9 rfl ?_
  refine r_iload dL_isRead_164 10 rfl ?_
  refine r_iload dL_isRead_166 11 rfl ?_
  obtain ⟨fshq1, hq1⟩ := hL.r0
  refine r_callV (st := []) [.int (nI i), .int (nI e), .int (nI g), .int (nI cn)] 460 9200 dL_isRead_168 kX8_faultOf nX8_faultOf lRL_58 hq1 rfl (L_faultOf hL hI hi he hg hcn) rfl rfl (Nat.le_of_ble_eq_true rfl) (by omega) (by omega) (fun _ _ h => h.elim) ?_
  intro r G2 hr
  obtain ⟨rfl, hL3⟩ := hr
  show WP mL_isRead _ _ _ _ _ _ _ 171 [(12, .int (nI (fst1 A i e g (A 17 i)))), (11, .int (b2i (hTx A i e g (A 17 i)))), (0, .ref (Q 0)), (1, .ref (Q 1)), (2, .ref (Q 2)), (3, .ref (Q 3)), (4, .ref (Q 4)), (5, .ref (Q 5)), (6, .int (nI i)), (7, .int (nI e)), (8, .int (nI g)), (9, .int (nI cn)), (10, .int (nI x))] [.int (nI (fof A i e g cn (A 17 i)))]
  rcases fault_ok (A := A) (l := i) (e := e) (g := g) (cn := cn) with ⟨h1, h2⟩ | ⟨p, a, hp, hf, ha1, ha4, hme, hb1, hb2x⟩
  · refine r_top (nI 0) (by rw [h1]) ?_
    refine r_istore [(13, .int (nI 0)), (12, .int (nI (fst1 A i e g (A 17 i)))), (11, .int (b2i (hTx A i e g (A 17 i)))), (0, .ref (Q 0)), (1, .ref (Q 1)), (2, .ref (Q 2)), (3, .ref (Q 3)), (4, .ref (Q 4)), (5, .ref (Q 5)), (6, .int (nI i)), (7, .int (nI e)), (8, .int (nI g)), (9, .int (nI cn)), (10, .int (nI x))] dL_isRead_171 (by decide) rfl ?_
    refine r_iload dL_isRead_173 0 rfl ?_
    refine r_bipush (v := (nI 10)) dL_isRead_175 (by decide) ?_
    refine n_idiv dL_isRead_177 (by omega) (by omega) (by omega) ?_
    refine r_istore [(14, .int (nI (0 / 10))), (13, .int (nI 0)), (12, .int (nI (fst1 A i e g (A 17 i)))), (11, .int (b2i (hTx A i e g (A 17 i)))), (0, .ref (Q 0)), (1, .ref (Q 1)), (2, .ref (Q 2)), (3, .ref (Q 3)), (4, .ref (Q 4)), (5, .ref (Q 5)), (6, .int (nI i)), (7, .int (nI e)), (8, .int (nI g)), (9, .int (nI cn)), (10, .int (nI x))] dL_isRead_178 (by decide) rfl ?_
    refine r_iload dL_isRead_180 1 rfl ?_
    refine n_if_lt 280 dL_isRead_182 (by decide) (by omega) (fun c4 => absurd c4 (by decide)) (fun c4 => ?_)
    refine r_iload dL_isRead_185 1 rfl ?_
    refine r_bipush (v := (nI 10)) dL_isRead_187 (by decide) ?_
    refine n_irem dL_isRead_189 (by omega) (by omega) (by omega) ?_
    refine r_iconst (v := (nI 5)) dL_isRead_190 (by decide) ?_
    refine n_icmp_ge 280 dL_isRead_191 (by decide) (by omega) (by omega) (fun c5 => absurd c5 (by omega)) (fun c5 => ?_)
    refine r_iload dL_isRead_194 1 rfl ?_
    refine n_if_eq 242 dL_isRead_196 (by decide) (by omega) (fun c6 => ?_) (fun c6 => absurd c6 (by decide))
    refine r_iload dL_isRead_242 1 rfl ?_
    refine r_bipush (v := (nI 10)) dL_isRead_244 (by decide) ?_
    refine n_irem dL_isRead_246 (by omega) (by omega) (by omega) ?_
    refine r_iconst (v := (nI 2)) dL_isRead_247 (by decide) ?_
    refine n_icmp_le 269 dL_isRead_248 (by decide) (by omega) (by omega) (fun c7 => ?_) (fun c7 => absurd c7 (by omega))
    refine r_iload dL_isRead_269 1 rfl ?_
    refine r_iload dL_isRead_271 2 rfl ?_
    refine n_icmp_ne 280 dL_isRead_273 (by decide) (by omega) (by omega) (fun c8 => absurd c8 (by omega)) (fun c8 => ?_)
    refine r_iconst (v := (nI 1)) dL_isRead_276 (by decide) ?_
    refine r_goto 281 dL_isRead_277 (by decide) ?_
    refine r_istore [(15, .int (nI 1)), (14, .int (nI (0 / 10))), (13, .int (nI 0)), (12, .int (nI (fst1 A i e g (A 17 i)))), (11, .int (b2i (hTx A i e g (A 17 i)))), (0, .ref (Q 0)), (1, .ref (Q 1)), (2, .ref (Q 2)), (3, .ref (Q 3)), (4, .ref (Q 4)), (5, .ref (Q 5)), (6, .int (nI i)), (7, .int (nI e)), (8, .int (nI g)), (9, .int (nI cn)), (10, .int (nI x))] dL_isRead_281 (by decide) rfl ?_
    exact WP.loc [0, 4, 5, 6, 7, 8, 9, 10, 11, 12, 13, 14, 15] rfl (WP.bud (by omega) (by omega) (l_rd_costs hL3 hI hR hi he hg hcn hx))
  · have hcl2 : cla A i p < A 9 0 := ((hI.ro i (by omega)).2 p hp).1
    have hl1 := hR.l1 (show i < 6 by omega) hp
    refine r_top (nI (10 * p + a)) (by rw [hf]) ?_
    refine r_istore [(13, .int (nI (10 * p + a))), (12, .int (nI (fst1 A i e g (A 17 i)))), (11, .int (b2i (hTx A i e g (A 17 i)))), (0, .ref (Q 0)), (1, .ref (Q 1)), (2, .ref (Q 2)), (3, .ref (Q 3)), (4, .ref (Q 4)), (5, .ref (Q 5)), (6, .int (nI i)), (7, .int (nI e)), (8, .int (nI g)), (9, .int (nI cn)), (10, .int (nI x))] dL_isRead_171 (by decide) rfl ?_
    refine r_iload dL_isRead_173 0 rfl ?_
    refine r_bipush (v := (nI 10)) dL_isRead_175 (by decide) ?_
    refine n_idiv dL_isRead_177 (by omega) (by omega) (by omega) ?_
    refine r_istore [(14, .int (nI ((10 * p + a) / 10))), (13, .int (nI (10 * p + a))), (12, .int (nI (fst1 A i e g (A 17 i)))), (11, .int (b2i (hTx A i e g (A 17 i)))), (0, .ref (Q 0)), (1, .ref (Q 1)), (2, .ref (Q 2)), (3, .ref (Q 3)), (4, .ref (Q 4)), (5, .ref (Q 5)), (6, .int (nI i)), (7, .int (nI e)), (8, .int (nI g)), (9, .int (nI cn)), (10, .int (nI x))] dL_isRead_178 (by decide) rfl ?_
    refine r_iload dL_isRead_180 1 rfl ?_
    refine n_if_lt 280 dL_isRead_182 (by decide) (by omega) (fun c9 => absurd c9 (by omega)) (fun c9 => ?_)
    refine r_iload dL_isRead_185 1 rfl ?_
    refine r_bipush (v := (nI 10)) dL_isRead_187 (by decide) ?_
    refine n_irem dL_isRead_189 (by omega) (by omega) (by omega) ?_
    refine r_iconst (v := (nI 5)) dL_isRead_190 (by decide) ?_
    refine n_icmp_ge 280 dL_isRead_191 (by decide) (by omega) (by omega) (fun c10 => absurd c10 (by omega)) (fun c10 => ?_)
    refine r_iload dL_isRead_194 1 rfl ?_
    refine n_if_eq 242 dL_isRead_196 (by decide) (by omega) (fun c11 => absurd c11 (by omega)) (fun c11 => ?_)
    refine r_iload dL_isRead_199 1 rfl ?_
    refine r_bipush (v := (nI 10)) dL_isRead_201 (by decide) ?_
    refine n_irem dL_isRead_203 (by omega) (by omega) (by omega) ?_
    refine n_if_le 280 dL_isRead_204 (by decide) (by omega) (fun c12 => absurd c12 (by omega)) (fun c12 => ?_)
    refine r_iload dL_isRead_207 0 rfl ?_
    refine r_aload_n dL_isRead_209 rfl 7 rfl ?_
    refine r_bipush (v := (nI 7)) dL_isRead_210 (by decide) ?_
    refine r_iload dL_isRead_212 10 rfl ?_
    refine n_imul dL_isRead_214 ?_
    refine n_iald dL_isRead_215 hL3.r3 (by omega) (by decide) ?_
    refine n_icmp_ge 280 dL_isRead_216 (by decide) (by omega) (by omega) (fun c13 => absurd c13 (by omega)) (fun c13 => ?_)
    refine r_aload_n dL_isRead_219 rfl 6 rfl ?_
    refine r_aload dL_isRead_220 8 rfl ?_
    refine r_aload_n dL_isRead_222 rfl 7 rfl ?_
    refine r_bipush (v := (nI 7)) dL_isRead_223 (by decide) ?_
    refine r_iload dL_isRead_225 10 rfl ?_
    refine n_imul dL_isRead_227 ?_
    refine r_iconst (v := (nI 1)) dL_isRead_228 (by decide) ?_
    refine n_iadd dL_isRead_229 ?_
    refine r_iload dL_isRead_230 0 rfl ?_
    refine n_iadd dL_isRead_232 ?_
    refine n_iald dL_isRead_233 hL3.r3 (by omega) (by decide) ?_
    refine r_top (nI (cla A i p)) (by rw [show (10 * p + a) / 10 = p by omega, hl1]) ?_
    refine r_iload dL_isRead_234 11 rfl ?_
    refine r_callS (st := []) [.ref (Q 2), .ref (Q 4), .int (nI (cla A i p)), .int (nI e)] 460 9200 dL_isRead_236 kL_isIn nL_isIn lRL_100 (l_isIn hL3 hI hR hcl2 he) rfl rfl (Nat.le_of_ble_eq_true rfl) (by omega) (by omega) (fun _ _ h => h.elim) ?_
    refine cx_det (st2 := [.int (b2i (meB A e (cla A i p)))]) rfl ?_
    refine n_bif_eq 280 dL_isRead_239 (by decide) (fun c14 => absurd c14 (by rw [hme]; decide)) (fun c14 => ?_)
    refine r_iload dL_isRead_242 1 rfl ?_
    refine r_bipush (v := (nI 10)) dL_isRead_244 (by decide) ?_
    refine n_irem dL_isRead_246 (by omega) (by omega) (by omega) ?_
    refine r_iconst (v := (nI 2)) dL_isRead_247 (by decide) ?_
    refine n_icmp_le 269 dL_isRead_248 (by decide) (by omega) (by omega) (fun c248 => ?_) (fun c248 => ?_)
    · have hb3 := hb1 (by omega)
      refine r_iload dL_isRead_269 1 rfl ?_
      refine r_iload dL_isRead_271 2 rfl ?_
      refine n_icmp_ne 280 dL_isRead_273 (by decide) (by omega) (by omega) (fun c16 => absurd c16 (by omega)) (fun c16 => ?_)
      refine r_iconst (v := (nI 1)) dL_isRead_276 (by decide) ?_
      refine r_goto 281 dL_isRead_277 (by decide) ?_
      refine r_istore [(15, .int (nI 1)), (14, .int (nI ((10 * p + a) / 10))), (13, .int (nI (10 * p + a))), (12, .int (nI (fst1 A i e g (A 17 i)))), (11, .int (b2i (hTx A i e g (A 17 i)))), (0, .ref (Q 0)), (1, .ref (Q 1)), (2, .ref (Q 2)), (3, .ref (Q 3)), (4, .ref (Q 4)), (5, .ref (Q 5)), (6, .int (nI i)), (7, .int (nI e)), (8, .int (nI g)), (9, .int (nI cn)), (10, .int (nI x))] dL_isRead_281 (by decide) rfl ?_
      exact WP.loc [0, 4, 5, 6, 7, 8, 9, 10, 11, 12, 13, 14, 15] rfl (WP.bud (by omega) (by omega) (l_rd_costs hL3 hI hR hi he hg hcn hx))
    · have hb3 := hb2x (by omega)
      refine r_iload dL_isRead_251 2 rfl ?_
      refine n_if_eq 276 dL_isRead_253 (by decide) (by omega) (fun c253 => ?_) (fun c253 => ?_)
      · refine r_iconst (v := (nI 1)) dL_isRead_276 (by decide) ?_
        refine r_goto 281 dL_isRead_277 (by decide) ?_
        refine r_istore [(15, .int (nI 1)), (14, .int (nI ((10 * p + a) / 10))), (13, .int (nI (10 * p + a))), (12, .int (nI (fst1 A i e g (A 17 i)))), (11, .int (b2i (hTx A i e g (A 17 i)))), (0, .ref (Q 0)), (1, .ref (Q 1)), (2, .ref (Q 2)), (3, .ref (Q 3)), (4, .ref (Q 4)), (5, .ref (Q 5)), (6, .int (nI i)), (7, .int (nI e)), (8, .int (nI g)), (9, .int (nI cn)), (10, .int (nI x))] dL_isRead_281 (by decide) rfl ?_
        exact WP.loc [0, 4, 5, 6, 7, 8, 9, 10, 11, 12, 13, 14, 15] rfl (WP.bud (by omega) (by omega) (l_rd_costs hL3 hI hR hi he hg hcn hx))
      · refine r_iload dL_isRead_256 0 rfl ?_
        refine r_iload dL_isRead_258 2 rfl ?_
        refine r_bipush (v := (nI 10)) dL_isRead_260 (by decide) ?_
        refine n_idiv dL_isRead_262 (by omega) (by omega) (by omega) ?_
        refine n_icmp_gt 280 dL_isRead_263 (by decide) (by omega) (by omega) (fun c18 => absurd c18 (by omega)) (fun c18 => ?_)
        refine r_goto 276 dL_isRead_266 (by decide) ?_
        refine r_iconst (v := (nI 1)) dL_isRead_276 (by decide) ?_
        refine r_goto 281 dL_isRead_277 (by decide) ?_
        refine r_istore [(15, .int (nI 1)), (14, .int (nI ((10 * p + a) / 10))), (13, .int (nI (10 * p + a))), (12, .int (nI (fst1 A i e g (A 17 i)))), (11, .int (b2i (hTx A i e g (A 17 i)))), (0, .ref (Q 0)), (1, .ref (Q 1)), (2, .ref (Q 2)), (3, .ref (Q 3)), (4, .ref (Q 4)), (5, .ref (Q 5)), (6, .int (nI i)), (7, .int (nI e)), (8, .int (nI g)), (9, .int (nI cn)), (10, .int (nI x))] dL_isRead_281 (by decide) rfl ?_
        exact WP.loc [0, 4, 5, 6, 7, 8, 9, 10, 11, 12, 13, 14, 15] rfl (WP.bud (by omega) (by omega) (l_rd_costs hL3 hI hR hi he hg hcn hx))
set_option maxRecDepth 100000 in
set_option maxHeartbeats 4000000 in
theorem l_rd_cl {d b0 : Nat} {Q : Nat → Nat} {A B : ST} {G : GH} (hL : LW Q A B G) (hI : Inv A) (hR : Rl A B) {i e g cn x : Nat} (hi : i < A 15 0) (he : e < A 18 0) (hg : g < 3) (hcn : cn < 4) (hx : x < 2 ^ 31) : ∀ (fu : Nat) (k : Nat), k ≤ A 17 i → A 17 i - k < fu → WP mL_isRead (d + 9) b0 (fun r G' => r = some (.int (nI 1)) ∧ LW Q A B G') NoX G 480 9600 9 [(13, .int (nI k)), (12, .int (nI (fst1 A i e g k))), (11, .int (b2i (hTx A i e g k))), (0, .ref (Q 0)), (1, .ref (Q 1)), (2, .ref (Q 2)), (3, .ref (Q 3)), (4, .ref (Q 4)), (5, .ref (Q 5)), (6, .int (nI i)), (7, .int (nI e)), (8, .int (nI g)), (9, .int (nI cn)), (10, .int (nI x))] [] := by
  intro fu
  induction fu with
  | zero => intro k hinv hn; exact absurd hn (Nat.not_lt_zero _)
  | succ fu ih =>
    intro k hinv hn
    have hm0 := hR.m0
    have hm1 := hR.m1
    have hm2 := hR.m2
    have hm3 := hR.m3
    have hm4 := hR.m4
    have hn9 := hR.n9
    have hb0 := hI.b0
    have hb2 := hI.b2
    have hb15 := hI.b15
    have hb18 := hI.b18
    have hp5 := hR.p0 hg
    have hpr := hI.pr g hg
    have hcl := costs_lt hI hi he hg
    have hln := rw_len hI hi he hg
    have hq0 := hR.l0 (show i < 6 by omega)
    have hq2 := (hI.ro i (by omega)).1
    have hfb : fst1 A i e g k ≤ 62 := by
      rcases fst1_cases (A := A) i e g cn k with ⟨g1, -⟩ | ⟨q, g1, g2, g3, -⟩ <;> omega
    refine r_iload dL_isRead_9 0 rfl ?_
    refine r_aload_n dL_isRead_11 rfl 6 rfl ?_
    refine r_bipush (v := (nI 7)) dL_isRead_12 (by decide) ?_
    refine r_iload dL_isRead_14 9 rfl ?_
    refine n_imul dL_isRead_16 ?_
    refine n_iald dL_isRead_17 hL.r3 (by omega) (by decide) ?_
    refine n_icmp_ge 159 dL_isRead_18 (by decide) (by omega) (by omega) (fun ce => ?_) (fun ce => ?_)
    · have hk9 : k = A 17 i := by omega
      rw [hk9]
      exact WP.loc [1, 2, 3, 4, 5, 6, 7, 8, 9, 10, 11, 12, 13] rfl (l_rd_fault hL hI hR hi he hg hcn hx)
    · have e1 : B 3 (7 * i + 1 + k) = cla A i k := hR.l1 (by omega) (by omega)
      have e2 : cla A i k < A 9 0 := ((hI.ro i (by omega)).2 k (by omega)).1
      have ec1 := hR.c1 (k := cla A i k) (by omega) hg
      have ec4 := hR.c4 (k := cla A i k) (by omega) hg
      have ea := (hI.tx (3 * cla A i k + g) (by omega)).2.1
      have et : (B 2 (7 * cla A i k + 1 + g) = 0 ↔ A 12 (3 * cla A i k + g) = 0) ∧ B 2 (7 * cla A i k + 1 + g) ≤ 1 := by
        rw [ec1]; split
        · exact ⟨by simp [*], by omega⟩
        · exact ⟨by simp [*], by omega⟩
      refine r_aload_n dL_isRead_21 rfl 6 rfl ?_
      refine r_bipush (v := (nI 7)) dL_isRead_22 (by decide) ?_
      refine r_iload dL_isRead_24 9 rfl ?_
      refine n_imul dL_isRead_26 ?_
      refine r_iconst (v := (nI 1)) dL_isRead_27 (by decide) ?_
      refine n_iadd dL_isRead_28 ?_
      refine r_iload dL_isRead_29 0 rfl ?_
      refine n_iadd dL_isRead_31 ?_
      refine n_iald dL_isRead_32 hL.r3 (by omega) (by decide) ?_
      refine r_top (nI (cla A i k)) (by rw [e1]) ?_
      refine r_istore [(14, .int (nI (cla A i k))), (13, .int (nI k)), (12, .int (nI (fst1 A i e g k))), (11, .int (b2i (hTx A i e g k))), (0, .ref (Q 0)), (1, .ref (Q 1)), (2, .ref (Q 2)), (3, .ref (Q 3)), (4, .ref (Q 4)), (5, .ref (Q 5)), (6, .int (nI i)), (7, .int (nI e)), (8, .int (nI g)), (9, .int (nI cn)), (10, .int (nI x))] dL_isRead_33 (by decide) rfl ?_
      refine r_aload_n dL_isRead_35 rfl 6 rfl ?_
      refine r_aload dL_isRead_36 8 rfl ?_
      refine r_iload dL_isRead_38 0 rfl ?_
      refine r_iload dL_isRead_40 11 rfl ?_
      refine r_callS (st := []) [.ref (Q 2), .ref (Q 4), .int (nI (cla A i k)), .int (nI e)] 480 9600 dL_isRead_42 kL_isIn nL_isIn lRL_100 (l_isIn hL hI hR e2 he) rfl rfl (Nat.le_of_ble_eq_true rfl) (by omega) (by omega) (fun _ _ h => h.elim) ?_
      refine cx_det (st2 := [.int (b2i (meB A e (cla A i k)))]) rfl ?_
      refine r_istore [(15, .int (b2i (meB A e (cla A i k)))), (14, .int (nI (cla A i k))), (13, .int (nI k)), (12, .int (nI (fst1 A i e g k))), (11, .int (b2i (hTx A i e g k))), (0, .ref (Q 0)), (1, .ref (Q 1)), (2, .ref (Q 2)), (3, .ref (Q 3)), (4, .ref (Q 4)), (5, .ref (Q 5)), (6, .int (nI i)), (7, .int (nI e)), (8, .int (nI g)), (9, .int (nI cn)), (10, .int (nI x))] dL_isRead_45 (by decide) rfl ?_
      refine r_iload dL_isRead_47 4 rfl ?_
      refine n_bif_ne 72 dL_isRead_49 (by decide) (fun c49 => ?_) (fun c49 => ?_)
      · refine r_iconst (v := (nI 1)) dL_isRead_72 (by decide) ?_
        refine r_goto 77 dL_isRead_73 (by decide) ?_
        refine r_top (b2i (hTx A i e g (k + 1))) (by
          show _ = b2i (hTx A i e g k || (meB A e (cla A i k) && decide (A 12 (3 * cla A i k + g) ≠ 0)))
          rw [c49]; rfl) ?_
        refine r_istore [(11, .int (b2i (hTx A i e g (k + 1)))), (15, .int (b2i (meB A e (cla A i k)))), (14, .int (nI (cla A i k))), (13, .int (nI k)), (12, .int (nI (fst1 A i e g k))), (0, .ref (Q 0)), (1, .ref (Q 1)), (2, .ref (Q 2)), (3, .ref (Q 3)), (4, .ref (Q 4)), (5, .ref (Q 5)), (6, .int (nI i)), (7, .int (nI e)), (8, .int (nI g)), (9, .int (nI cn)), (10, .int (nI x))] dL_isRead_77 (by decide) rfl ?_
        refine r_iload dL_isRead_79 4 rfl ?_
        refine n_if_ne 114 dL_isRead_81 (by decide) (by omega) (fun c81 => ?_) (fun c81 => ?_)
        · refine r_iload dL_isRead_114 4 rfl ?_
          refine n_if_ne 149 dL_isRead_116 (by decide) (by omega) (fun c4 => ?_) (fun c4 => absurd c4 (by omega))
          refine r_iload dL_isRead_149 4 rfl ?_
          refine r_top (nI (fst1 A i e g (k + 1))) (by
            show _ = nI (if fst1 A i e g k ≠ 0 then fst1 A i e g k else if meB A e (cla A i k) = true then (if A 12 (3 * cla A i k + g) = 0 then 10 * k + 1 else if A 13 (3 * cla A i k + g) = 0 then 10 * k + 2 else 0) else 0)
            rw [if_pos c81]) ?_
          refine r_istore [(12, .int (nI (fst1 A i e g (k + 1)))), (11, .int (b2i (hTx A i e g (k + 1)))), (15, .int (b2i (meB A e (cla A i k)))), (14, .int (nI (cla A i k))), (13, .int (nI k)), (0, .ref (Q 0)), (1, .ref (Q 1)), (2, .ref (Q 2)), (3, .ref (Q 3)), (4, .ref (Q 4)), (5, .ref (Q 5)), (6, .int (nI i)), (7, .int (nI e)), (8, .int (nI g)), (9, .int (nI cn)), (10, .int (nI x))] dL_isRead_151 (by decide) rfl ?_
          refine r_iinc (nI (k + 1)) [(13, .int (nI (k + 1))), (12, .int (nI (fst1 A i e g (k + 1)))), (11, .int (b2i (hTx A i e g (k + 1)))), (15, .int (b2i (meB A e (cla A i k)))), (14, .int (nI (cla A i k))), (0, .ref (Q 0)), (1, .ref (Q 1)), (2, .ref (Q 2)), (3, .ref (Q 3)), (4, .ref (Q 4)), (5, .ref (Q 5)), (6, .int (nI i)), (7, .int (nI e)), (8, .int (nI g)), (9, .int (nI cn)), (10, .int (nI x))] dL_isRead_153 4 rfl (nI_add k 1) (by decide) rfl ?_
          refine r_goto 9 dL_isRead_156 (by decide) ?_
          exact WP.loc [0, 1, 2, 5, 6, 7, 8, 9, 10, 11, 12, 13, 14, 15] rfl (ih (k + 1) (by omega) (by omega))
        · refine r_iload dL_isRead_84 1 rfl ?_
          refine n_bif_eq 114 dL_isRead_86 (by decide) (fun c86 => ?_) (fun c86 => ?_)
          · refine r_iload dL_isRead_114 4 rfl ?_
            refine n_if_ne 149 dL_isRead_116 (by decide) (by omega) (fun c6 => absurd c6 (by omega)) (fun c6 => ?_)
            refine r_iload dL_isRead_119 1 rfl ?_
            refine n_bif_eq 149 dL_isRead_121 (by decide) (fun c7 => ?_) (fun c7 => absurd c7 (by rw [c86]; decide))
            refine r_iload dL_isRead_149 4 rfl ?_
            refine r_top (nI (fst1 A i e g (k + 1))) (by
              show _ = nI (if fst1 A i e g k ≠ 0 then fst1 A i e g k else if meB A e (cla A i k) = true then (if A 12 (3 * cla A i k + g) = 0 then 10 * k + 1 else if A 13 (3 * cla A i k + g) = 0 then 10 * k + 2 else 0) else 0)
              rw [if_neg (fun q => q c81), if_neg (by rw [c86]; decide), c81]) ?_
            refine r_istore [(12, .int (nI (fst1 A i e g (k + 1)))), (11, .int (b2i (hTx A i e g (k + 1)))), (15, .int (b2i (meB A e (cla A i k)))), (14, .int (nI (cla A i k))), (13, .int (nI k)), (0, .ref (Q 0)), (1, .ref (Q 1)), (2, .ref (Q 2)), (3, .ref (Q 3)), (4, .ref (Q 4)), (5, .ref (Q 5)), (6, .int (nI i)), (7, .int (nI e)), (8, .int (nI g)), (9, .int (nI cn)), (10, .int (nI x))] dL_isRead_151 (by decide) rfl ?_
            refine r_iinc (nI (k + 1)) [(13, .int (nI (k + 1))), (12, .int (nI (fst1 A i e g (k + 1)))), (11, .int (b2i (hTx A i e g (k + 1)))), (15, .int (b2i (meB A e (cla A i k)))), (14, .int (nI (cla A i k))), (0, .ref (Q 0)), (1, .ref (Q 1)), (2, .ref (Q 2)), (3, .ref (Q 3)), (4, .ref (Q 4)), (5, .ref (Q 5)), (6, .int (nI i)), (7, .int (nI e)), (8, .int (nI g)), (9, .int (nI cn)), (10, .int (nI x))] dL_isRead_153 4 rfl (nI_add k 1) (by decide) rfl ?_
            refine r_goto 9 dL_isRead_156 (by decide) ?_
            exact WP.loc [0, 1, 2, 5, 6, 7, 8, 9, 10, 11, 12, 13, 14, 15] rfl (ih (k + 1) (by omega) (by omega))
          · refine r_aload_n dL_isRead_89 rfl 7 rfl ?_
            refine r_bipush (v := (nI 7)) dL_isRead_90 (by decide) ?_
            refine r_iload dL_isRead_92 2 rfl ?_
            refine n_imul dL_isRead_94 ?_
            refine r_iconst (v := (nI 1)) dL_isRead_95 (by decide) ?_
            refine n_iadd dL_isRead_96 ?_
            refine r_iload dL_isRead_97 13 rfl ?_
            refine n_iadd dL_isRead_99 ?_
            refine n_iald dL_isRead_100 hL.r2 (by omega) (by decide) ?_
            refine n_if_ne 114 dL_isRead_101 (by decide) (by omega) (fun c101 => ?_) (fun c101 => ?_)
            · refine r_iload dL_isRead_114 4 rfl ?_
              refine n_if_ne 149 dL_isRead_116 (by decide) (by omega) (fun c9 => absurd c9 (by omega)) (fun c9 => ?_)
              refine r_iload dL_isRead_119 1 rfl ?_
              refine n_bif_eq 149 dL_isRead_121 (by decide) (fun c10 => absurd c10 (by rw [c86]; decide)) (fun c10 => ?_)
              refine r_aload_n dL_isRead_124 rfl 7 rfl ?_
              refine r_bipush (v := (nI 7)) dL_isRead_125 (by decide) ?_
              refine r_iload dL_isRead_127 2 rfl ?_
              refine n_imul dL_isRead_129 ?_
              refine r_iconst (v := (nI 4)) dL_isRead_130 (by decide) ?_
              refine n_iadd dL_isRead_131 ?_
              refine r_iload dL_isRead_132 13 rfl ?_
              refine n_iadd dL_isRead_134 ?_
              refine n_iald dL_isRead_135 hL.r2 (by omega) (by decide) ?_
              refine n_if_ne 149 dL_isRead_136 (by decide) (by omega) (fun c136 => ?_) (fun c136 => ?_)
              · refine r_iload dL_isRead_149 4 rfl ?_
                refine r_top (nI (fst1 A i e g (k + 1))) (by
                  show _ = nI (if fst1 A i e g k ≠ 0 then fst1 A i e g k else if meB A e (cla A i k) = true then (if A 12 (3 * cla A i k + g) = 0 then 10 * k + 1 else if A 13 (3 * cla A i k + g) = 0 then 10 * k + 2 else 0) else 0)
                  rw [if_neg (fun q => q c81), if_pos c86, if_neg (by omega), if_neg (by omega), c81]) ?_
                refine r_istore [(12, .int (nI (fst1 A i e g (k + 1)))), (11, .int (b2i (hTx A i e g (k + 1)))), (15, .int (b2i (meB A e (cla A i k)))), (14, .int (nI (cla A i k))), (13, .int (nI k)), (0, .ref (Q 0)), (1, .ref (Q 1)), (2, .ref (Q 2)), (3, .ref (Q 3)), (4, .ref (Q 4)), (5, .ref (Q 5)), (6, .int (nI i)), (7, .int (nI e)), (8, .int (nI g)), (9, .int (nI cn)), (10, .int (nI x))] dL_isRead_151 (by decide) rfl ?_
                refine r_iinc (nI (k + 1)) [(13, .int (nI (k + 1))), (12, .int (nI (fst1 A i e g (k + 1)))), (11, .int (b2i (hTx A i e g (k + 1)))), (15, .int (b2i (meB A e (cla A i k)))), (14, .int (nI (cla A i k))), (0, .ref (Q 0)), (1, .ref (Q 1)), (2, .ref (Q 2)), (3, .ref (Q 3)), (4, .ref (Q 4)), (5, .ref (Q 5)), (6, .int (nI i)), (7, .int (nI e)), (8, .int (nI g)), (9, .int (nI cn)), (10, .int (nI x))] dL_isRead_153 4 rfl (nI_add k 1) (by decide) rfl ?_
                refine r_goto 9 dL_isRead_156 (by decide) ?_
                exact WP.loc [0, 1, 2, 5, 6, 7, 8, 9, 10, 11, 12, 13, 14, 15] rfl (ih (k + 1) (by omega) (by omega))
              · refine r_bipush (v := (nI 10)) dL_isRead_139 (by decide) ?_
                refine r_iload dL_isRead_141 3 rfl ?_
                refine n_imul dL_isRead_143 ?_
                refine r_iconst (v := (nI 2)) dL_isRead_144 (by decide) ?_
                refine n_iadd dL_isRead_145 ?_
                refine r_goto 151 dL_isRead_146 (by decide) ?_
                refine r_top (nI (fst1 A i e g (k + 1))) (by
                  show _ = nI (if fst1 A i e g k ≠ 0 then fst1 A i e g k else if meB A e (cla A i k) = true then (if A 12 (3 * cla A i k + g) = 0 then 10 * k + 1 else if A 13 (3 * cla A i k + g) = 0 then 10 * k + 2 else 0) else 0)
                  rw [if_neg (fun q => q c81), if_pos c86, if_neg (by omega), if_pos (by omega)]) ?_
                refine r_istore [(12, .int (nI (fst1 A i e g (k + 1)))), (11, .int (b2i (hTx A i e g (k + 1)))), (15, .int (b2i (meB A e (cla A i k)))), (14, .int (nI (cla A i k))), (13, .int (nI k)), (0, .ref (Q 0)), (1, .ref (Q 1)), (2, .ref (Q 2)), (3, .ref (Q 3)), (4, .ref (Q 4)), (5, .ref (Q 5)), (6, .int (nI i)), (7, .int (nI e)), (8, .int (nI g)), (9, .int (nI cn)), (10, .int (nI x))] dL_isRead_151 (by decide) rfl ?_
                refine r_iinc (nI (k + 1)) [(13, .int (nI (k + 1))), (12, .int (nI (fst1 A i e g (k + 1)))), (11, .int (b2i (hTx A i e g (k + 1)))), (15, .int (b2i (meB A e (cla A i k)))), (14, .int (nI (cla A i k))), (0, .ref (Q 0)), (1, .ref (Q 1)), (2, .ref (Q 2)), (3, .ref (Q 3)), (4, .ref (Q 4)), (5, .ref (Q 5)), (6, .int (nI i)), (7, .int (nI e)), (8, .int (nI g)), (9, .int (nI cn)), (10, .int (nI x))] dL_isRead_153 4 rfl (nI_add k 1) (by decide) rfl ?_
                refine r_goto 9 dL_isRead_156 (by decide) ?_
                exact WP.loc [0, 1, 2, 5, 6, 7, 8, 9, 10, 11, 12, 13, 14, 15] rfl (ih (k + 1) (by omega) (by omega))
            · refine r_bipush (v := (nI 10)) dL_isRead_104 (by decide) ?_
              refine r_iload dL_isRead_106 3 rfl ?_
              refine n_imul dL_isRead_108 ?_
              refine r_iconst (v := (nI 1)) dL_isRead_109 (by decide) ?_
              refine n_iadd dL_isRead_110 ?_
              refine r_goto 151 dL_isRead_111 (by decide) ?_
              refine r_top (nI (fst1 A i e g (k + 1))) (by
                show _ = nI (if fst1 A i e g k ≠ 0 then fst1 A i e g k else if meB A e (cla A i k) = true then (if A 12 (3 * cla A i k + g) = 0 then 10 * k + 1 else if A 13 (3 * cla A i k + g) = 0 then 10 * k + 2 else 0) else 0)
                rw [if_neg (fun q => q c81), if_pos c86, if_pos (by omega)]) ?_
              refine r_istore [(12, .int (nI (fst1 A i e g (k + 1)))), (11, .int (b2i (hTx A i e g (k + 1)))), (15, .int (b2i (meB A e (cla A i k)))), (14, .int (nI (cla A i k))), (13, .int (nI k)), (0, .ref (Q 0)), (1, .ref (Q 1)), (2, .ref (Q 2)), (3, .ref (Q 3)), (4, .ref (Q 4)), (5, .ref (Q 5)), (6, .int (nI i)), (7, .int (nI e)), (8, .int (nI g)), (9, .int (nI cn)), (10, .int (nI x))] dL_isRead_151 (by decide) rfl ?_
              refine r_iinc (nI (k + 1)) [(13, .int (nI (k + 1))), (12, .int (nI (fst1 A i e g (k + 1)))), (11, .int (b2i (hTx A i e g (k + 1)))), (15, .int (b2i (meB A e (cla A i k)))), (14, .int (nI (cla A i k))), (0, .ref (Q 0)), (1, .ref (Q 1)), (2, .ref (Q 2)), (3, .ref (Q 3)), (4, .ref (Q 4)), (5, .ref (Q 5)), (6, .int (nI i)), (7, .int (nI e)), (8, .int (nI g)), (9, .int (nI cn)), (10, .int (nI x))] dL_isRead_153 4 rfl (nI_add k 1) (by decide) rfl ?_
              refine r_goto 9 dL_isRead_156 (by decide) ?_
              exact WP.loc [0, 1, 2, 5, 6, 7, 8, 9, 10, 11, 12, 13, 14, 15] rfl (ih (k + 1) (by omega) (by omega))
      · refine r_iload dL_isRead_52 0 rfl ?_
        refine n_bif_eq 76 dL_isRead_54 (by decide) (fun c54 => ?_) (fun c54 => ?_)
        · refine r_iconst (v := (nI 0)) dL_isRead_76 (by decide) ?_
          refine r_top (b2i (hTx A i e g (k + 1))) (by
            show _ = b2i (hTx A i e g k || (meB A e (cla A i k) && decide (A 12 (3 * cla A i k + g) ≠ 0)))
            rw [c49, c54]; rfl) ?_
          refine r_istore [(11, .int (b2i (hTx A i e g (k + 1)))), (15, .int (b2i (meB A e (cla A i k)))), (14, .int (nI (cla A i k))), (13, .int (nI k)), (12, .int (nI (fst1 A i e g k))), (0, .ref (Q 0)), (1, .ref (Q 1)), (2, .ref (Q 2)), (3, .ref (Q 3)), (4, .ref (Q 4)), (5, .ref (Q 5)), (6, .int (nI i)), (7, .int (nI e)), (8, .int (nI g)), (9, .int (nI cn)), (10, .int (nI x))] dL_isRead_77 (by decide) rfl ?_
          refine r_iload dL_isRead_79 4 rfl ?_
          refine n_if_ne 114 dL_isRead_81 (by decide) (by omega) (fun c81 => ?_) (fun c81 => ?_)
          · refine r_iload dL_isRead_114 4 rfl ?_
            refine n_if_ne 149 dL_isRead_116 (by decide) (by omega) (fun c14 => ?_) (fun c14 => absurd c14 (by omega))
            refine r_iload dL_isRead_149 4 rfl ?_
            refine r_top (nI (fst1 A i e g (k + 1))) (by
              show _ = nI (if fst1 A i e g k ≠ 0 then fst1 A i e g k else if meB A e (cla A i k) = true then (if A 12 (3 * cla A i k + g) = 0 then 10 * k + 1 else if A 13 (3 * cla A i k + g) = 0 then 10 * k + 2 else 0) else 0)
              rw [if_pos c81]) ?_
            refine r_istore [(12, .int (nI (fst1 A i e g (k + 1)))), (11, .int (b2i (hTx A i e g (k + 1)))), (15, .int (b2i (meB A e (cla A i k)))), (14, .int (nI (cla A i k))), (13, .int (nI k)), (0, .ref (Q 0)), (1, .ref (Q 1)), (2, .ref (Q 2)), (3, .ref (Q 3)), (4, .ref (Q 4)), (5, .ref (Q 5)), (6, .int (nI i)), (7, .int (nI e)), (8, .int (nI g)), (9, .int (nI cn)), (10, .int (nI x))] dL_isRead_151 (by decide) rfl ?_
            refine r_iinc (nI (k + 1)) [(13, .int (nI (k + 1))), (12, .int (nI (fst1 A i e g (k + 1)))), (11, .int (b2i (hTx A i e g (k + 1)))), (15, .int (b2i (meB A e (cla A i k)))), (14, .int (nI (cla A i k))), (0, .ref (Q 0)), (1, .ref (Q 1)), (2, .ref (Q 2)), (3, .ref (Q 3)), (4, .ref (Q 4)), (5, .ref (Q 5)), (6, .int (nI i)), (7, .int (nI e)), (8, .int (nI g)), (9, .int (nI cn)), (10, .int (nI x))] dL_isRead_153 4 rfl (nI_add k 1) (by decide) rfl ?_
            refine r_goto 9 dL_isRead_156 (by decide) ?_
            exact WP.loc [0, 1, 2, 5, 6, 7, 8, 9, 10, 11, 12, 13, 14, 15] rfl (ih (k + 1) (by omega) (by omega))
          · refine r_iload dL_isRead_84 1 rfl ?_
            refine n_bif_eq 114 dL_isRead_86 (by decide) (fun c15 => ?_) (fun c15 => absurd c15 (by rw [c54]; decide))
            refine r_iload dL_isRead_114 4 rfl ?_
            refine n_if_ne 149 dL_isRead_116 (by decide) (by omega) (fun c16 => absurd c16 (by omega)) (fun c16 => ?_)
            refine r_iload dL_isRead_119 1 rfl ?_
            refine n_bif_eq 149 dL_isRead_121 (by decide) (fun c17 => ?_) (fun c17 => absurd c17 (by rw [c54]; decide))
            refine r_iload dL_isRead_149 4 rfl ?_
            refine r_top (nI (fst1 A i e g (k + 1))) (by
              show _ = nI (if fst1 A i e g k ≠ 0 then fst1 A i e g k else if meB A e (cla A i k) = true then (if A 12 (3 * cla A i k + g) = 0 then 10 * k + 1 else if A 13 (3 * cla A i k + g) = 0 then 10 * k + 2 else 0) else 0)
              rw [if_neg (fun q => q c81), if_neg (by rw [c54]; decide), c81]) ?_
            refine r_istore [(12, .int (nI (fst1 A i e g (k + 1)))), (11, .int (b2i (hTx A i e g (k + 1)))), (15, .int (b2i (meB A e (cla A i k)))), (14, .int (nI (cla A i k))), (13, .int (nI k)), (0, .ref (Q 0)), (1, .ref (Q 1)), (2, .ref (Q 2)), (3, .ref (Q 3)), (4, .ref (Q 4)), (5, .ref (Q 5)), (6, .int (nI i)), (7, .int (nI e)), (8, .int (nI g)), (9, .int (nI cn)), (10, .int (nI x))] dL_isRead_151 (by decide) rfl ?_
            refine r_iinc (nI (k + 1)) [(13, .int (nI (k + 1))), (12, .int (nI (fst1 A i e g (k + 1)))), (11, .int (b2i (hTx A i e g (k + 1)))), (15, .int (b2i (meB A e (cla A i k)))), (14, .int (nI (cla A i k))), (0, .ref (Q 0)), (1, .ref (Q 1)), (2, .ref (Q 2)), (3, .ref (Q 3)), (4, .ref (Q 4)), (5, .ref (Q 5)), (6, .int (nI i)), (7, .int (nI e)), (8, .int (nI g)), (9, .int (nI cn)), (10, .int (nI x))] dL_isRead_153 4 rfl (nI_add k 1) (by decide) rfl ?_
            refine r_goto 9 dL_isRead_156 (by decide) ?_
            exact WP.loc [0, 1, 2, 5, 6, 7, 8, 9, 10, 11, 12, 13, 14, 15] rfl (ih (k + 1) (by omega) (by omega))
        · refine r_aload_n dL_isRead_57 rfl 7 rfl ?_
          refine r_bipush (v := (nI 7)) dL_isRead_58 (by decide) ?_
          refine r_iload dL_isRead_60 1 rfl ?_
          refine n_imul dL_isRead_62 ?_
          refine r_iconst (v := (nI 1)) dL_isRead_63 (by decide) ?_
          refine n_iadd dL_isRead_64 ?_
          refine r_iload dL_isRead_65 13 rfl ?_
          refine n_iadd dL_isRead_67 ?_
          refine n_iald dL_isRead_68 hL.r2 (by omega) (by decide) ?_
          refine n_if_le 76 dL_isRead_69 (by decide) (by omega) (fun c69 => ?_) (fun c69 => ?_)
          · refine r_iconst (v := (nI 0)) dL_isRead_76 (by decide) ?_
            refine r_top (b2i (hTx A i e g (k + 1))) (by
              show _ = b2i (hTx A i e g k || (meB A e (cla A i k) && decide (A 12 (3 * cla A i k + g) ≠ 0)))
              rw [c49, c54, decide_eq_false (show ¬ A 12 (3 * cla A i k + g) ≠ 0 by omega)]; rfl) ?_
            refine r_istore [(11, .int (b2i (hTx A i e g (k + 1)))), (15, .int (b2i (meB A e (cla A i k)))), (14, .int (nI (cla A i k))), (13, .int (nI k)), (12, .int (nI (fst1 A i e g k))), (0, .ref (Q 0)), (1, .ref (Q 1)), (2, .ref (Q 2)), (3, .ref (Q 3)), (4, .ref (Q 4)), (5, .ref (Q 5)), (6, .int (nI i)), (7, .int (nI e)), (8, .int (nI g)), (9, .int (nI cn)), (10, .int (nI x))] dL_isRead_77 (by decide) rfl ?_
            refine r_iload dL_isRead_79 4 rfl ?_
            refine n_if_ne 114 dL_isRead_81 (by decide) (by omega) (fun c81 => ?_) (fun c81 => ?_)
            · refine r_iload dL_isRead_114 4 rfl ?_
              refine n_if_ne 149 dL_isRead_116 (by decide) (by omega) (fun c20 => ?_) (fun c20 => absurd c20 (by omega))
              refine r_iload dL_isRead_149 4 rfl ?_
              refine r_top (nI (fst1 A i e g (k + 1))) (by
                show _ = nI (if fst1 A i e g k ≠ 0 then fst1 A i e g k else if meB A e (cla A i k) = true then (if A 12 (3 * cla A i k + g) = 0 then 10 * k + 1 else if A 13 (3 * cla A i k + g) = 0 then 10 * k + 2 else 0) else 0)
                rw [if_pos c81]) ?_
              refine r_istore [(12, .int (nI (fst1 A i e g (k + 1)))), (11, .int (b2i (hTx A i e g (k + 1)))), (15, .int (b2i (meB A e (cla A i k)))), (14, .int (nI (cla A i k))), (13, .int (nI k)), (0, .ref (Q 0)), (1, .ref (Q 1)), (2, .ref (Q 2)), (3, .ref (Q 3)), (4, .ref (Q 4)), (5, .ref (Q 5)), (6, .int (nI i)), (7, .int (nI e)), (8, .int (nI g)), (9, .int (nI cn)), (10, .int (nI x))] dL_isRead_151 (by decide) rfl ?_
              refine r_iinc (nI (k + 1)) [(13, .int (nI (k + 1))), (12, .int (nI (fst1 A i e g (k + 1)))), (11, .int (b2i (hTx A i e g (k + 1)))), (15, .int (b2i (meB A e (cla A i k)))), (14, .int (nI (cla A i k))), (0, .ref (Q 0)), (1, .ref (Q 1)), (2, .ref (Q 2)), (3, .ref (Q 3)), (4, .ref (Q 4)), (5, .ref (Q 5)), (6, .int (nI i)), (7, .int (nI e)), (8, .int (nI g)), (9, .int (nI cn)), (10, .int (nI x))] dL_isRead_153 4 rfl (nI_add k 1) (by decide) rfl ?_
              refine r_goto 9 dL_isRead_156 (by decide) ?_
              exact WP.loc [0, 1, 2, 5, 6, 7, 8, 9, 10, 11, 12, 13, 14, 15] rfl (ih (k + 1) (by omega) (by omega))
            · refine r_iload dL_isRead_84 1 rfl ?_
              refine n_bif_eq 114 dL_isRead_86 (by decide) (fun c21 => absurd c21 (by rw [c54]; decide)) (fun c21 => ?_)
              refine r_aload_n dL_isRead_89 rfl 7 rfl ?_
              refine r_bipush (v := (nI 7)) dL_isRead_90 (by decide) ?_
              refine r_iload dL_isRead_92 2 rfl ?_
              refine n_imul dL_isRead_94 ?_
              refine r_iconst (v := (nI 1)) dL_isRead_95 (by decide) ?_
              refine n_iadd dL_isRead_96 ?_
              refine r_iload dL_isRead_97 13 rfl ?_
              refine n_iadd dL_isRead_99 ?_
              refine n_iald dL_isRead_100 hL.r2 (by omega) (by decide) ?_
              refine n_if_ne 114 dL_isRead_101 (by decide) (by omega) (fun c22 => absurd c22 (by omega)) (fun c22 => ?_)
              refine r_bipush (v := (nI 10)) dL_isRead_104 (by decide) ?_
              refine r_iload dL_isRead_106 3 rfl ?_
              refine n_imul dL_isRead_108 ?_
              refine r_iconst (v := (nI 1)) dL_isRead_109 (by decide) ?_
              refine n_iadd dL_isRead_110 ?_
              refine r_goto 151 dL_isRead_111 (by decide) ?_
              refine r_top (nI (fst1 A i e g (k + 1))) (by
                show _ = nI (if fst1 A i e g k ≠ 0 then fst1 A i e g k else if meB A e (cla A i k) = true then (if A 12 (3 * cla A i k + g) = 0 then 10 * k + 1 else if A 13 (3 * cla A i k + g) = 0 then 10 * k + 2 else 0) else 0)
                rw [if_neg (fun q => q c81), if_pos c54, if_pos (by omega)]) ?_
              refine r_istore [(12, .int (nI (fst1 A i e g (k + 1)))), (11, .int (b2i (hTx A i e g (k + 1)))), (15, .int (b2i (meB A e (cla A i k)))), (14, .int (nI (cla A i k))), (13, .int (nI k)), (0, .ref (Q 0)), (1, .ref (Q 1)), (2, .ref (Q 2)), (3, .ref (Q 3)), (4, .ref (Q 4)), (5, .ref (Q 5)), (6, .int (nI i)), (7, .int (nI e)), (8, .int (nI g)), (9, .int (nI cn)), (10, .int (nI x))] dL_isRead_151 (by decide) rfl ?_
              refine r_iinc (nI (k + 1)) [(13, .int (nI (k + 1))), (12, .int (nI (fst1 A i e g (k + 1)))), (11, .int (b2i (hTx A i e g (k + 1)))), (15, .int (b2i (meB A e (cla A i k)))), (14, .int (nI (cla A i k))), (0, .ref (Q 0)), (1, .ref (Q 1)), (2, .ref (Q 2)), (3, .ref (Q 3)), (4, .ref (Q 4)), (5, .ref (Q 5)), (6, .int (nI i)), (7, .int (nI e)), (8, .int (nI g)), (9, .int (nI cn)), (10, .int (nI x))] dL_isRead_153 4 rfl (nI_add k 1) (by decide) rfl ?_
              refine r_goto 9 dL_isRead_156 (by decide) ?_
              exact WP.loc [0, 1, 2, 5, 6, 7, 8, 9, 10, 11, 12, 13, 14, 15] rfl (ih (k + 1) (by omega) (by omega))
          · refine r_iconst (v := (nI 1)) dL_isRead_72 (by decide) ?_
            refine r_goto 77 dL_isRead_73 (by decide) ?_
            refine r_top (b2i (hTx A i e g (k + 1))) (by
              show _ = b2i (hTx A i e g k || (meB A e (cla A i k) && decide (A 12 (3 * cla A i k + g) ≠ 0)))
              rw [c49, c54, decide_eq_true (show A 12 (3 * cla A i k + g) ≠ 0 by omega)]; rfl) ?_
            refine r_istore [(11, .int (b2i (hTx A i e g (k + 1)))), (15, .int (b2i (meB A e (cla A i k)))), (14, .int (nI (cla A i k))), (13, .int (nI k)), (12, .int (nI (fst1 A i e g k))), (0, .ref (Q 0)), (1, .ref (Q 1)), (2, .ref (Q 2)), (3, .ref (Q 3)), (4, .ref (Q 4)), (5, .ref (Q 5)), (6, .int (nI i)), (7, .int (nI e)), (8, .int (nI g)), (9, .int (nI cn)), (10, .int (nI x))] dL_isRead_77 (by decide) rfl ?_
            refine r_iload dL_isRead_79 4 rfl ?_
            refine n_if_ne 114 dL_isRead_81 (by decide) (by omega) (fun c81 => ?_) (fun c81 => ?_)
            · refine r_iload dL_isRead_114 4 rfl ?_
              refine n_if_ne 149 dL_isRead_116 (by decide) (by omega) (fun c24 => ?_) (fun c24 => absurd c24 (by omega))
              refine r_iload dL_isRead_149 4 rfl ?_
              refine r_top (nI (fst1 A i e g (k + 1))) (by
                show _ = nI (if fst1 A i e g k ≠ 0 then fst1 A i e g k else if meB A e (cla A i k) = true then (if A 12 (3 * cla A i k + g) = 0 then 10 * k + 1 else if A 13 (3 * cla A i k + g) = 0 then 10 * k + 2 else 0) else 0)
                rw [if_pos c81]) ?_
              refine r_istore [(12, .int (nI (fst1 A i e g (k + 1)))), (11, .int (b2i (hTx A i e g (k + 1)))), (15, .int (b2i (meB A e (cla A i k)))), (14, .int (nI (cla A i k))), (13, .int (nI k)), (0, .ref (Q 0)), (1, .ref (Q 1)), (2, .ref (Q 2)), (3, .ref (Q 3)), (4, .ref (Q 4)), (5, .ref (Q 5)), (6, .int (nI i)), (7, .int (nI e)), (8, .int (nI g)), (9, .int (nI cn)), (10, .int (nI x))] dL_isRead_151 (by decide) rfl ?_
              refine r_iinc (nI (k + 1)) [(13, .int (nI (k + 1))), (12, .int (nI (fst1 A i e g (k + 1)))), (11, .int (b2i (hTx A i e g (k + 1)))), (15, .int (b2i (meB A e (cla A i k)))), (14, .int (nI (cla A i k))), (0, .ref (Q 0)), (1, .ref (Q 1)), (2, .ref (Q 2)), (3, .ref (Q 3)), (4, .ref (Q 4)), (5, .ref (Q 5)), (6, .int (nI i)), (7, .int (nI e)), (8, .int (nI g)), (9, .int (nI cn)), (10, .int (nI x))] dL_isRead_153 4 rfl (nI_add k 1) (by decide) rfl ?_
              refine r_goto 9 dL_isRead_156 (by decide) ?_
              exact WP.loc [0, 1, 2, 5, 6, 7, 8, 9, 10, 11, 12, 13, 14, 15] rfl (ih (k + 1) (by omega) (by omega))
            · refine r_iload dL_isRead_84 1 rfl ?_
              refine n_bif_eq 114 dL_isRead_86 (by decide) (fun c25 => absurd c25 (by rw [c54]; decide)) (fun c25 => ?_)
              refine r_aload_n dL_isRead_89 rfl 7 rfl ?_
              refine r_bipush (v := (nI 7)) dL_isRead_90 (by decide) ?_
              refine r_iload dL_isRead_92 2 rfl ?_
              refine n_imul dL_isRead_94 ?_
              refine r_iconst (v := (nI 1)) dL_isRead_95 (by decide) ?_
              refine n_iadd dL_isRead_96 ?_
              refine r_iload dL_isRead_97 13 rfl ?_
              refine n_iadd dL_isRead_99 ?_
              refine n_iald dL_isRead_100 hL.r2 (by omega) (by decide) ?_
              refine n_if_ne 114 dL_isRead_101 (by decide) (by omega) (fun c26 => ?_) (fun c26 => absurd c26 (by omega))
              refine r_iload dL_isRead_114 4 rfl ?_
              refine n_if_ne 149 dL_isRead_116 (by decide) (by omega) (fun c27 => absurd c27 (by omega)) (fun c27 => ?_)
              refine r_iload dL_isRead_119 1 rfl ?_
              refine n_bif_eq 149 dL_isRead_121 (by decide) (fun c28 => absurd c28 (by rw [c54]; decide)) (fun c28 => ?_)
              refine r_aload_n dL_isRead_124 rfl 7 rfl ?_
              refine r_bipush (v := (nI 7)) dL_isRead_125 (by decide) ?_
              refine r_iload dL_isRead_127 2 rfl ?_
              refine n_imul dL_isRead_129 ?_
              refine r_iconst (v := (nI 4)) dL_isRead_130 (by decide) ?_
              refine n_iadd dL_isRead_131 ?_
              refine r_iload dL_isRead_132 13 rfl ?_
              refine n_iadd dL_isRead_134 ?_
              refine n_iald dL_isRead_135 hL.r2 (by omega) (by decide) ?_
              refine n_if_ne 149 dL_isRead_136 (by decide) (by omega) (fun c136 => ?_) (fun c136 => ?_)
              · refine r_iload dL_isRead_149 4 rfl ?_
                refine r_top (nI (fst1 A i e g (k + 1))) (by
                  show _ = nI (if fst1 A i e g k ≠ 0 then fst1 A i e g k else if meB A e (cla A i k) = true then (if A 12 (3 * cla A i k + g) = 0 then 10 * k + 1 else if A 13 (3 * cla A i k + g) = 0 then 10 * k + 2 else 0) else 0)
                  rw [if_neg (fun q => q c81), if_pos c54, if_neg (by omega), if_neg (by omega), c81]) ?_
                refine r_istore [(12, .int (nI (fst1 A i e g (k + 1)))), (11, .int (b2i (hTx A i e g (k + 1)))), (15, .int (b2i (meB A e (cla A i k)))), (14, .int (nI (cla A i k))), (13, .int (nI k)), (0, .ref (Q 0)), (1, .ref (Q 1)), (2, .ref (Q 2)), (3, .ref (Q 3)), (4, .ref (Q 4)), (5, .ref (Q 5)), (6, .int (nI i)), (7, .int (nI e)), (8, .int (nI g)), (9, .int (nI cn)), (10, .int (nI x))] dL_isRead_151 (by decide) rfl ?_
                refine r_iinc (nI (k + 1)) [(13, .int (nI (k + 1))), (12, .int (nI (fst1 A i e g (k + 1)))), (11, .int (b2i (hTx A i e g (k + 1)))), (15, .int (b2i (meB A e (cla A i k)))), (14, .int (nI (cla A i k))), (0, .ref (Q 0)), (1, .ref (Q 1)), (2, .ref (Q 2)), (3, .ref (Q 3)), (4, .ref (Q 4)), (5, .ref (Q 5)), (6, .int (nI i)), (7, .int (nI e)), (8, .int (nI g)), (9, .int (nI cn)), (10, .int (nI x))] dL_isRead_153 4 rfl (nI_add k 1) (by decide) rfl ?_
                refine r_goto 9 dL_isRead_156 (by decide) ?_
                exact WP.loc [0, 1, 2, 5, 6, 7, 8, 9, 10, 11, 12, 13, 14, 15] rfl (ih (k + 1) (by omega) (by omega))
              · refine r_bipush (v := (nI 10)) dL_isRead_139 (by decide) ?_
                refine r_iload dL_isRead_141 3 rfl ?_
                refine n_imul dL_isRead_143 ?_
                refine r_iconst (v := (nI 2)) dL_isRead_144 (by decide) ?_
                refine n_iadd dL_isRead_145 ?_
                refine r_goto 151 dL_isRead_146 (by decide) ?_
                refine r_top (nI (fst1 A i e g (k + 1))) (by
                  show _ = nI (if fst1 A i e g k ≠ 0 then fst1 A i e g k else if meB A e (cla A i k) = true then (if A 12 (3 * cla A i k + g) = 0 then 10 * k + 1 else if A 13 (3 * cla A i k + g) = 0 then 10 * k + 2 else 0) else 0)
                  rw [if_neg (fun q => q c81), if_pos c54, if_neg (by omega), if_pos (by omega)]) ?_
                refine r_istore [(12, .int (nI (fst1 A i e g (k + 1)))), (11, .int (b2i (hTx A i e g (k + 1)))), (15, .int (b2i (meB A e (cla A i k)))), (14, .int (nI (cla A i k))), (13, .int (nI k)), (0, .ref (Q 0)), (1, .ref (Q 1)), (2, .ref (Q 2)), (3, .ref (Q 3)), (4, .ref (Q 4)), (5, .ref (Q 5)), (6, .int (nI i)), (7, .int (nI e)), (8, .int (nI g)), (9, .int (nI cn)), (10, .int (nI x))] dL_isRead_151 (by decide) rfl ?_
                refine r_iinc (nI (k + 1)) [(13, .int (nI (k + 1))), (12, .int (nI (fst1 A i e g (k + 1)))), (11, .int (b2i (hTx A i e g (k + 1)))), (15, .int (b2i (meB A e (cla A i k)))), (14, .int (nI (cla A i k))), (0, .ref (Q 0)), (1, .ref (Q 1)), (2, .ref (Q 2)), (3, .ref (Q 3)), (4, .ref (Q 4)), (5, .ref (Q 5)), (6, .int (nI i)), (7, .int (nI e)), (8, .int (nI g)), (9, .int (nI cn)), (10, .int (nI x))] dL_isRead_153 4 rfl (nI_add k 1) (by decide) rfl ?_
                refine r_goto 9 dL_isRead_156 (by decide) ?_
                exact WP.loc [0, 1, 2, 5, 6, 7, 8, 9, 10, 11, 12, 13, 14, 15] rfl (ih (k + 1) (by omega) (by omega))
set_option maxRecDepth 100000 in
set_option maxHeartbeats 4000000 in
theorem l_isRead {d b0 : Nat} {G : GH} {Q : Nat → Nat} {A B : ST} (hL : LW Q A B G) (hI : Inv A) (hR : Rl A B) {i e g cn x : Nat} (hi : i < A 15 0) (he : e < A 18 0) (hg : g < 3) (hcn : cn < 4) (hx : x < 2 ^ 31) : CT mL_isRead (d + 9) b0 G [.ref (Q 0), .ref (Q 1), .ref (Q 2), .ref (Q 3), .ref (Q 4), .ref (Q 5), .int (nI i), .int (nI e), .int (nI g), .int (nI cn), .int (nI x)] 480 9600 (fun r G' => r = some (.int (nI 1)) ∧ LW Q A B G') NoX := by
  refine CT.intro (by decide +kernel) rfl (Nat.le_of_ble_eq_true rfl) ?_
  show WP mL_isRead _ _ _ _ _ _ _ 0 [(0, .ref (Q 0)), (1, .ref (Q 1)), (2, .ref (Q 2)), (3, .ref (Q 3)), (4, .ref (Q 4)), (5, .ref (Q 5)), (6, .int (nI i)), (7, .int (nI e)), (8, .int (nI g)), (9, .int (nI cn)), (10, .int (nI x))] []
  refine r_iconst (v := (nI 0)) dL_isRead_0 (by decide) ?_
  refine r_istore [(11, .int (nI 0)), (0, .ref (Q 0)), (1, .ref (Q 1)), (2, .ref (Q 2)), (3, .ref (Q 3)), (4, .ref (Q 4)), (5, .ref (Q 5)), (6, .int (nI i)), (7, .int (nI e)), (8, .int (nI g)), (9, .int (nI cn)), (10, .int (nI x))] dL_isRead_1 (by decide) rfl ?_
  refine r_iconst (v := (nI 0)) dL_isRead_3 (by decide) ?_
  refine r_istore [(12, .int (nI 0)), (11, .int (nI 0)), (0, .ref (Q 0)), (1, .ref (Q 1)), (2, .ref (Q 2)), (3, .ref (Q 3)), (4, .ref (Q 4)), (5, .ref (Q 5)), (6, .int (nI i)), (7, .int (nI e)), (8, .int (nI g)), (9, .int (nI cn)), (10, .int (nI x))] dL_isRead_4 (by decide) rfl ?_
  refine r_iconst (v := (nI 0)) dL_isRead_6 (by decide) ?_
  refine r_istore [(13, .int (nI 0)), (12, .int (nI 0)), (11, .int (nI 0)), (0, .ref (Q 0)), (1, .ref (Q 1)), (2, .ref (Q 2)), (3, .ref (Q 3)), (4, .ref (Q 4)), (5, .ref (Q 5)), (6, .int (nI i)), (7, .int (nI e)), (8, .int (nI g)), (9, .int (nI cn)), (10, .int (nI x))] dL_isRead_7 (by decide) rfl ?_
  exact WP.loc [0, 1, 2, 3, 4, 5, 6, 7, 8, 9, 10, 11, 12, 13] rfl (l_rd_cl hL hI hR hi he hg hcn hx (A 17 i + 1) 0 (Nat.zero_le _) (by omega))
