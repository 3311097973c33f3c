set_option maxRecDepth 100000 in
set_option maxHeartbeats 4000000 in
theorem l_snd {d b0 : Nat} {G : GH} {Q : Nat → Nat} {A B : ST} (hL : LW Q A B G) (hI : Inv A) (hR : Rl A B) {x t : Nat} (hx : x < 2 ^ 31) (ht : t < 2 ^ 31) : WP mL_areSound (d + 11) b0 (fun r G' => r = some (.int (nI 1)) ∧ LW Q A B G') NoX G 660 13200 46 [(9, .int (nI 1)), (0, .ref (Q 0)), (1, .ref (Q 1)), (2, .ref (Q 2)), (3, .ref (Q 3)), (4, .ref (Q 4)), (5, .ref (Q 5)), (6, .int (nI x)), (7, .int (nI t))] [] := by
  have hm0 := hR.m0
  have hm1 := hR.m1
  have hm2 := hR.m2
  have hm3 := hR.m3
  have hm4 := hR.m4
  have hn9 := hR.n9
  have hb0 := hI.b0
  have hb2 := hI.b2
  have hb15 := hI.b15
  have hb18 := hI.b18
  refine r_iload dL_areSound_46 0 rfl ?_
  refine n_if_eq 65 dL_areSound_48 (by decide) (by omega) (fun c1 => absurd c1 (by decide)) (fun c1 => ?_)
  refine r_aload_n dL_areSound_51 rfl 2 rfl ?_
  refine r_iconst (v := (nI 2)) dL_areSound_52 (by decide) ?_
  refine n_iald dL_areSound_53 hL.r1 (by omega) (by decide) ?_
  refine n_if_eq 65 dL_areSound_54 (by decide) (by omega) (fun c54 => ?_) (fun c54 => ?_)
  · refine r_iload dL_areSound_65 0 rfl ?_
    refine r_ret .boolean dL_areSound_67 rfl rfl ?_
    exact ⟨rfl, hL⟩
  · refine r_iload dL_areSound_57 8 rfl ?_
    refine r_bipush (v := (nI 6)) dL_areSound_59 (by decide) ?_
    refine n_irem dL_areSound_61 (by omega) (by omega) (by omega) ?_
    refine n_if_le 68 dL_areSound_62 (by decide) (by omega) (fun c62 => ?_) (fun c62 => ?_)
    · refine r_iload dL_areSound_68 7 rfl ?_
      refine r_aload_n dL_areSound_70 rfl 2 rfl ?_
      refine r_iconst (v := (nI 2)) dL_areSound_71 (by decide) ?_
      refine n_iald dL_areSound_72 hL.r1 (by omega) (by decide) ?_
      refine n_irem dL_areSound_73 (by omega) (by omega) (by omega) ?_
      have hi : x % B 1 2 < A 15 0 := by rw [← hm2]; exact Nat.mod_lt _ (by omega)
      revert hi
      generalize x % B 1 2 = i
      intro hi
      refine r_istore [(10, .int (nI i)), (9, .int (nI 1)), (0, .ref (Q 0)), (1, .ref (Q 1)), (2, .ref (Q 2)), (3, .ref (Q 3)), (4, .ref (Q 4)), (5, .ref (Q 5)), (6, .int (nI x)), (7, .int (nI t))] dL_areSound_74 (by decide) rfl ?_
      refine r_aload_n dL_areSound_76 rfl 2 rfl ?_
      refine r_aload_n dL_areSound_77 rfl 3 rfl ?_
      refine r_aload_n dL_areSound_78 rfl 4 rfl ?_
      refine r_aload_n dL_areSound_79 rfl 5 rfl ?_
      refine r_iload dL_areSound_80 0 rfl ?_
      refine r_callS (st := []) [.ref (Q 0), .ref (Q 1), .ref (Q 2), .ref (Q 3), .int (nI i)] 480 9600 dL_areSound_82 kL_areSampled nL_areSampled lRL_104 (l_areSampled hL hI hR hi) rfl rfl (Nat.le_of_ble_eq_true rfl) (by omega) (by omega) (fun _ _ h => h.elim) ?_
      intro r G4 hr
      obtain ⟨rfl, hL5⟩ := hr
      show WP mL_areSound _ _ _ _ _ _ _ 85 [(10, .int (nI i)), (9, .int (nI 1)), (0, .ref (Q 0)), (1, .ref (Q 1)), (2, .ref (Q 2)), (3, .ref (Q 3)), (4, .ref (Q 4)), (5, .ref (Q 5)), (6, .int (nI x)), (7, .int (nI t))] [.int (nI 1)]
      refine n_if_eq 140 dL_areSound_85 (by decide) (by omega) (fun c6 => absurd c6 (by decide)) (fun c6 => ?_)
      refine r_aload_n dL_areSound_88 rfl 3 rfl ?_
      refine r_iconst (v := (nI 3)) dL_areSound_89 (by decide) ?_
      refine n_iald dL_areSound_90 hL5.r1 (by omega) (by decide) ?_
      refine n_if_eq 136 dL_areSound_91 (by decide) (by omega) (fun c91 => ?_) (fun c91 => ?_)
      · refine r_iconst (v := (nI 1)) dL_areSound_136 (by decide) ?_
        refine r_goto 141 dL_areSound_137 (by decide) ?_
        refine r_ret .boolean dL_areSound_141 rfl rfl ?_
        exact ⟨rfl, hL5⟩
      · have he : x / 6 % B 1 3 < A 18 0 := by rw [← hm3]; exact Nat.mod_lt _ (by omega)
        refine r_aload_n dL_areSound_94 rfl 2 rfl ?_
        refine r_aload_n dL_areSound_95 rfl 3 rfl ?_
        refine r_aload_n dL_areSound_96 rfl 4 rfl ?_
        refine r_aload_n dL_areSound_97 rfl 5 rfl ?_
        refine r_aload dL_areSound_98 6 rfl ?_
        refine r_aload dL_areSound_100 7 rfl ?_
        refine r_iload dL_areSound_102 0 rfl ?_
        refine r_iload dL_areSound_104 8 rfl ?_
        refine r_bipush (v := (nI 6)) dL_areSound_106 (by decide) ?_
        refine n_idiv dL_areSound_108 (by omega) (by omega) (by omega) ?_
        refine r_aload_n dL_areSound_109 rfl 3 rfl ?_
        refine r_iconst (v := (nI 3)) dL_areSound_110 (by decide) ?_
        refine n_iald dL_areSound_111 hL5.r1 (by omega) (by decide) ?_
        refine n_irem dL_areSound_112 (by omega) (by omega) (by omega) ?_
        refine r_iload dL_areSound_113 8 rfl ?_
        refine r_bipush (v := (nI 48)) dL_areSound_115 (by decide) ?_
        refine n_idiv dL_areSound_117 (by omega) (by omega) (by omega) ?_
        refine r_iconst (v := (nI 3)) dL_areSound_118 (by decide) ?_
        refine n_irem dL_areSound_119 (by omega) (by omega) (by omega) ?_
        refine r_iload dL_areSound_120 8 rfl ?_
        refine r_sipush (v := (nI 144)) dL_areSound_122 (by decide) ?_
        refine n_idiv dL_areSound_125 (by omega) (by omega) (by omega) ?_
        refine r_iconst (v := (nI 4)) dL_areSound_126 (by decide) ?_
        refine n_irem dL_areSound_127 (by omega) (by omega) (by omega) ?_
        refine r_iload dL_areSound_128 8 rfl ?_
        refine r_callSL (st := []) [.ref (Q 0), .ref (Q 1), .ref (Q 2), .ref (Q 3), .ref (Q 4), .ref (Q 5), .int (nI i), .int (nI ((x / 6) % (B 1 3))), .int (nI ((x / 48) % 3)), .int (nI ((x / 144) % 4)), .int (nI x)] 0 0 dL_areSound_130 kL_isRead nL_isRead lRL_108 (l_isRead hL5 hI hR hi he (Nat.mod_lt _ (by decide)) (Nat.mod_lt _ (by decide)) hx) rfl rfl (Nat.le_of_ble_eq_true rfl) (by omega) (by omega) (fun _ _ h => h.elim) ?_
        intro r G8 hr
        obtain ⟨rfl, hL9⟩ := hr
        show WP mL_areSound _ _ _ _ _ _ _ 133 [(10, .int (nI i)), (9, .int (nI 1)), (0, .ref (Q 0)), (1, .ref (Q 1)), (2, .ref (Q 2)), (3, .ref (Q 3)), (4, .ref (Q 4)), (5, .ref (Q 5)), (6, .int (nI x)), (7, .int (nI t))] [.int (nI 1)]
        refine n_if_eq 140 dL_areSound_133 (by decide) (by omega) (fun c10 => absurd c10 (by decide)) (fun c10 => ?_)
        refine r_iconst (v := (nI 1)) dL_areSound_136 (by decide) ?_
        refine r_goto 141 dL_areSound_137 (by decide) ?_
        refine r_ret .boolean dL_areSound_141 rfl rfl ?_
        exact ⟨rfl, hL9⟩
    · refine r_iload dL_areSound_65 0 rfl ?_
      refine r_ret .boolean dL_areSound_67 rfl rfl ?_
      exact ⟨rfl, hL⟩
set_option maxRecDepth 100000 in
set_option maxHeartbeats 4000000 in
theorem l_areSound {d b0 : Nat} {G : GH} {Q : Nat → Nat} {A B : ST} (hL : LW Q A B G) (hI : Inv A) (hR : Rl A B) {x t : Nat} (hx : x < 2 ^ 31) (ht : t < 2 ^ 31) : CT mL_areSound (d + 11) b0 G [.ref (Q 0), .ref (Q 1), .ref (Q 2), .ref (Q 3), .ref (Q 4), .ref (Q 5), .int (nI x), .int (nI t)] 680 13600 (fun r G' => r = some (.int (nI 1)) ∧ LW Q A B G') NoX := by
  have hm0 := hR.m0
  have hm1 := hR.m1
  have hm2 := hR.m2
  have hm3 := hR.m3
  have hm4 := hR.m4
  have hn9 := hR.n9
  have hb0 := hI.b0
  have hb2 := hI.b2
  have hb15 := hI.b15
  have hb18 := hI.b18
  refine CT.intro (by decide +kernel) rfl (Nat.le_of_ble_eq_true rfl) ?_
  show WP mL_areSound _ _ _ _ _ _ _ 0 [(0, .ref (Q 0)), (1, .ref (Q 1)), (2, .ref (Q 2)), (3, .ref (Q 3)), (4, .ref (Q 4)), (5, .ref (Q 5)), (6, .int (nI x)), (7, .int (nI t))] []
  refine r_aload_n dL_areSound_0 rfl 0 rfl ?_
  obtain ⟨fshq1, hq1⟩ := hL.r0
  refine r_callV (st := []) [] 660 13200 dL_areSound_1 kX8_fault nX8_fault lRL_83 hq1 rfl (L_fault hL hI) rfl rfl (Nat.le_of_ble_eq_true rfl) (by omega) (by omega) (fun _ _ h => h.elim) ?_
  intro r G2 hr
  obtain ⟨rfl, hL3⟩ := hr
  show WP mL_areSound _ _ _ _ _ _ _ 4 [(0, .ref (Q 0)), (1, .ref (Q 1)), (2, .ref (Q 2)), (3, .ref (Q 3)), (4, .ref (Q 4)), (5, .ref (Q 5)), (6, .int (nI x)), (7, .int (nI t))] [.int (ffS (rg A 1 0 60) (A 0 0))]
  rcases ffS_r (rg A 1 0 60) (A 0 0) with hf | ⟨q, hq, hf⟩
  · refine r_top (-1) hf ?_
    refine r_istore [(8, .int (-1)), (0, .ref (Q 0)), (1, .ref (Q 1)), (2, .ref (Q 2)), (3, .ref (Q 3)), (4, .ref (Q 4)), (5, .ref (Q 5)), (6, .int (nI x)), (7, .int (nI t))] dL_areSound_4 (by decide) rfl ?_
    refine r_aload_n dL_areSound_6 rfl 2 rfl ?_
    refine r_iconst (v := (nI 4)) dL_areSound_7 (by decide) ?_
    refine n_iald dL_areSound_8 hL3.r1 (by omega) (by decide) ?_
    refine n_if_ne 25 dL_areSound_9 (by decide) (by omega) (fun c9 => ?_) (fun c9 => ?_)
    · refine r_iload dL_areSound_25 0 rfl ?_
      refine r_iconst (v := (-1)) dL_areSound_27 (by decide) ?_
      refine r_icmp_lt 43 dL_areSound_28 (by decide) (fun c5 => absurd c5 (by decide)) (fun c5 => ?_)
      refine r_iload dL_areSound_31 0 rfl ?_
      refine r_aload_n dL_areSound_33 rfl 2 rfl ?_
      refine r_iconst (v := (nI 4)) dL_areSound_34 (by decide) ?_
      refine n_iald dL_areSound_35 hL3.r1 (by omega) (by decide) ?_
      refine r_icmp_gt 43 dL_areSound_36 (by decide) (fun c6 => absurd c6 (nm_lt (by omega))) (fun c6 => ?_)
      refine r_iconst (v := (nI 1)) dL_areSound_39 (by decide) ?_
      refine r_goto 44 dL_areSound_40 (by decide) ?_
      refine r_istore [(9, .int (nI 1)), (8, .int (-1)), (0, .ref (Q 0)), (1, .ref (Q 1)), (2, .ref (Q 2)), (3, .ref (Q 3)), (4, .ref (Q 4)), (5, .ref (Q 5)), (6, .int (nI x)), (7, .int (nI t))] dL_areSound_44 (by decide) rfl ?_
      exact WP.loc [0, 2, 3, 4, 5, 6, 7, 8, 9] rfl (WP.bud (by omega) (by omega) (l_snd hL3 hI hR hx ht))
    · exfalso
      rw [show A 0 0 = 0 by omega, ffS_0] at hf
      exact nI_nm (by decide) hf
  · refine r_top (nI q) hf ?_
    refine r_istore [(8, .int (nI q)), (0, .ref (Q 0)), (1, .ref (Q 1)), (2, .ref (Q 2)), (3, .ref (Q 3)), (4, .ref (Q 4)), (5, .ref (Q 5)), (6, .int (nI x)), (7, .int (nI t))] dL_areSound_4 (by decide) rfl ?_
    refine r_aload_n dL_areSound_6 rfl 2 rfl ?_
    refine r_iconst (v := (nI 4)) dL_areSound_7 (by decide) ?_
    refine n_iald dL_areSound_8 hL3.r1 (by omega) (by decide) ?_
    refine n_if_ne 25 dL_areSound_9 (by decide) (by omega) (fun c9 => ?_) (fun c9 => ?_)
    · refine r_iload dL_areSound_25 0 rfl ?_
      refine r_iconst (v := (-1)) dL_areSound_27 (by decide) ?_
      refine r_icmp_lt 43 dL_areSound_28 (by decide) (fun c8 => absurd c8 (nm_lt (by omega))) (fun c8 => ?_)
      refine r_iload dL_areSound_31 0 rfl ?_
      refine r_aload_n dL_areSound_33 rfl 2 rfl ?_
      refine r_iconst (v := (nI 4)) dL_areSound_34 (by decide) ?_
      refine n_iald dL_areSound_35 hL3.r1 (by omega) (by decide) ?_
      refine n_icmp_gt 43 dL_areSound_36 (by decide) (by omega) (by omega) (fun c9 => absurd c9 (by omega)) (fun c9 => ?_)
      refine r_iconst (v := (nI 1)) dL_areSound_39 (by decide) ?_
      refine r_goto 44 dL_areSound_40 (by decide) ?_
      refine r_istore [(9, .int (nI 1)), (8, .int (nI q)), (0, .ref (Q 0)), (1, .ref (Q 1)), (2, .ref (Q 2)), (3, .ref (Q 3)), (4, .ref (Q 4)), (5, .ref (Q 5)), (6, .int (nI x)), (7, .int (nI t))] dL_areSound_44 (by decide) rfl ?_
      exact WP.loc [0, 2, 3, 4, 5, 6, 7, 8, 9] rfl (WP.bud (by omega) (by omega) (l_snd hL3 hI hR hx ht))
    · refine r_iload dL_areSound_12 0 rfl ?_
      refine n_if_ne 21 dL_areSound_14 (by decide) (by omega) (fun c10 => absurd c10 (by omega)) (fun c10 => ?_)
      refine r_iconst (v := (nI 1)) dL_areSound_17 (by decide) ?_
      refine r_goto 44 dL_areSound_18 (by decide) ?_
      refine r_istore [(9, .int (nI 1)), (8, .int (nI q)), (0, .ref (Q 0)), (1, .ref (Q 1)), (2, .ref (Q 2)), (3, .ref (Q 3)), (4, .ref (Q 4)), (5, .ref (Q 5)), (6, .int (nI x)), (7, .int (nI t))] dL_areSound_44 (by decide) rfl ?_
      exact WP.loc [0, 2, 3, 4, 5, 6, 7, 8, 9] rfl (WP.bud (by omega) (by omega) (l_snd hL3 hI hR hx ht))
