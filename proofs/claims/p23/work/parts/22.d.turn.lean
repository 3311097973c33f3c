set_option maxRecDepth 100000 in
set_option maxHeartbeats 4000000 in
theorem l_turn1260 {X : SX} {b0 : Nat} {Q : Nat → Nat} {bc bs : Nat} {A B : ST} {G : GH} (hL : LW Q A B G) (hI : Inv A) (hR : Rl A B) (hA : Ap A) {t x y c z : Nat} (hx : x < 2 ^ 31) (hy : y < 2 ^ 31) (hz : z < 2 ^ 31) {h : Nat} (hh : h < 2 ^ 31) (hc : 0 < A 9 0 → c < A 9 0) (K : LK X b0 Q bc bs t x y) : WL X mL_law 12 b0 (fun r _ => r = some (.int 1)) NoX G (bc + 700) (bs + 14000) 1260 [(13, .int (nI z)), (12, .int (nI c)), (11, .int (nI y)), (10, .int (nI h)), (9, .int (nI x)), (8, .int (nI t)), (7, .int (nI 1)), (0, .ref X.1), (1, .ref (Q 0)), (2, .ref (Q 1)), (3, .ref (Q 2)), (4, .ref (Q 3)), (5, .ref (Q 4)), (6, .ref (Q 5))] [] := by
  have hm0 := hR.m0
  have hm1 := hR.m1
  have hm2 := hR.m2
  have hm3 := hR.m3
  have hm4 := hR.m4
  have hn9 := hR.n9
  have hb0 := hI.b0
  have hb2 := hI.b2
  have hb15 := hI.b15
  have hb18 := hI.b18
  refine q_iload dL_law_1260 3 rfl ?_
  refine q_bipush (v := (nI 28)) dL_law_1262 (by decide) ?_
  refine nq_icmp_le 1445 dL_law_1264 (by decide) (by omega) (by omega) (fun c1264 => ?_) (fun c1264 => ?_)
  · exact WL.loc [2, 4, 5, 6, 7, 8, 9, 10, 11, 12, 13] rfl (WL.bud (by omega) (by omega) (K _ _ _ hL (hI) (hR) (hA)))
  · refine q_aload_n dL_law_1267 rfl 9 rfl ?_
    refine q_iconst (v := (nI 1)) dL_law_1268 (by decide) ?_
    refine nq_iald dL_law_1269 hL.r1 (by omega) (by decide) ?_
    refine nq_if_le 1445 dL_law_1270 (by decide) (by omega) (fun c1270 => ?_) (fun c1270 => ?_)
    · exact WL.loc [2, 4, 5, 6, 7, 8, 9, 10, 11, 12, 13] rfl (WL.bud (by omega) (by omega) (K _ _ _ hL (hI) (hR) (hA)))
    · refine q_aload_n dL_law_1273 rfl 9 rfl ?_
      refine q_iconst (v := (nI 2)) dL_law_1274 (by decide) ?_
      refine nq_iald dL_law_1275 hL.r1 (by omega) (by decide) ?_
      refine nq_if_le 1445 dL_law_1276 (by decide) (by omega) (fun c1276 => ?_) (fun c1276 => ?_)
      · exact WL.loc [2, 4, 5, 6, 7, 8, 9, 10, 11, 12, 13] rfl (WL.bud (by omega) (by omega) (K _ _ _ hL (hI) (hR) (hA)))
      · exact WL.loc [0, 1, 2, 4, 5, 6, 7, 8, 9, 10, 11, 12, 13] rfl (la_put hL hI hR hA hx hy hz (hc (by omega)) (by omega) K)
set_option maxRecDepth 100000 in
set_option maxHeartbeats 4000000 in
theorem l_turn1198 {X : SX} {b0 : Nat} {Q : Nat → Nat} {bc bs : Nat} {A B : ST} {G : GH} (hL : LW Q A B G) (hI : Inv A) (hR : Rl A B) (hA : Ap A) {t x y c z : Nat} (hx : x < 2 ^ 31) (hy : y < 2 ^ 31) (hz : z < 2 ^ 31) {h : Nat} (hh : h < 2 ^ 31) (hc : 0 < A 9 0 → c < A 9 0) (K : LK X b0 Q bc bs t x y) : WL X mL_law 12 b0 (fun r _ => r = some (.int 1)) NoX G (bc + 700) (bs + 14000) 1198 [(13, .int (nI z)), (12, .int (nI c)), (11, .int (nI y)), (10, .int (nI h)), (9, .int (nI x)), (8, .int (nI t)), (7, .int (nI 1)), (0, .ref X.1), (1, .ref (Q 0)), (2, .ref (Q 1)), (3, .ref (Q 2)), (4, .ref (Q 3)), (5, .ref (Q 4)), (6, .ref (Q 5))] [] := by
  have hm0 := hR.m0
  have hm1 := hR.m1
  have hm2 := hR.m2
  have hm3 := hR.m3
  have hm4 := hR.m4
  have hn9 := hR.n9
  have hb0 := hI.b0
  have hb2 := hI.b2
  have hb15 := hI.b15
  have hb18 := hI.b18
  refine q_iload dL_law_1198 3 rfl ?_
  refine q_bipush (v := (nI 28)) dL_law_1200 (by decide) ?_
  refine nq_icmp_ne 1260 dL_law_1202 (by decide) (by omega) (by omega) (fun c1202 => ?_) (fun c1202 => ?_)
  · exact WL.loc [0, 1, 2, 3, 4, 5, 6, 7, 8, 9, 10, 11, 12, 13] rfl (l_turn1260 hL hI hR hA hx hy hz hh hc K)
  · exact WL.loc [0, 1, 2, 4, 5, 6, 7, 8, 9, 10, 11, 12, 13] rfl (la_price hL hI hR hA hx hy hz K)
set_option maxRecDepth 100000 in
set_option maxHeartbeats 4000000 in
theorem l_turn1090 {X : SX} {b0 : Nat} {Q : Nat → Nat} {bc bs : Nat} {A B : ST} {G : GH} (hL : LW Q A B G) (hI : Inv A) (hR : Rl A B) (hA : Ap A) {t x y c z : Nat} (hx : x < 2 ^ 31) (hy : y < 2 ^ 31) (hz : z < 2 ^ 31) {h : Nat} (hh : h < 2 ^ 31) (hc : 0 < A 9 0 → c < A 9 0) (K : LK X b0 Q bc bs t x y) : WL X mL_law 12 b0 (fun r _ => r = some (.int 1)) NoX G (bc + 700) (bs + 14000) 1090 [(13, .int (nI z)), (12, .int (nI c)), (11, .int (nI y)), (10, .int (nI h)), (9, .int (nI x)), (8, .int (nI t)), (7, .int (nI 1)), (0, .ref X.1), (1, .ref (Q 0)), (2, .ref (Q 1)), (3, .ref (Q 2)), (4, .ref (Q 3)), (5, .ref (Q 4)), (6, .ref (Q 5))] [] := by
  have hm0 := hR.m0
  have hm1 := hR.m1
  have hm2 := hR.m2
  have hm3 := hR.m3
  have hm4 := hR.m4
  have hn9 := hR.n9
  have hb0 := hI.b0
  have hb2 := hI.b2
  have hb15 := hI.b15
  have hb18 := hI.b18
  refine q_iload dL_law_1090 3 rfl ?_
  refine q_bipush (v := (nI 27)) dL_law_1092 (by decide) ?_
  refine nq_icmp_ne 1198 dL_law_1094 (by decide) (by omega) (by omega) (fun c1094 => ?_) (fun c1094 => ?_)
  · exact WL.loc [0, 1, 2, 3, 4, 5, 6, 7, 8, 9, 10, 11, 12, 13] rfl (l_turn1198 hL hI hR hA hx hy hz hh hc K)
  · refine q_aload_n dL_law_1097 rfl 9 rfl ?_
    refine q_iconst (v := (nI 3)) dL_law_1098 (by decide) ?_
    refine nq_iald dL_law_1099 hL.r1 (by omega) (by decide) ?_
    refine nq_if_le 1198 dL_law_1100 (by decide) (by omega) (fun c1100 => ?_) (fun c1100 => ?_)
    · exact WL.loc [0, 1, 2, 3, 4, 5, 6, 7, 8, 9, 10, 11, 12, 13] rfl (l_turn1198 hL hI hR hA hx hy hz hh hc K)
    · exact WL.loc [0, 1, 2, 4, 5, 6, 7, 8, 9, 10, 11, 12, 13] rfl (la_fill hL hI hR hA hx hy hz (by omega) K)
set_option maxRecDepth 100000 in
set_option maxHeartbeats 4000000 in
theorem l_turn988 {X : SX} {b0 : Nat} {Q : Nat → Nat} {bc bs : Nat} {A B : ST} {G : GH} (hL : LW Q A B G) (hI : Inv A) (hR : Rl A B) (hA : Ap A) {t x y c z : Nat} (hx : x < 2 ^ 31) (hy : y < 2 ^ 31) (hz : z < 2 ^ 31) {h : Nat} (hh : h < 2 ^ 31) (hc : 0 < A 9 0 → c < A 9 0) (K : LK X b0 Q bc bs t x y) : WL X mL_law 12 b0 (fun r _ => r = some (.int 1)) NoX G (bc + 700) (bs + 14000) 988 [(13, .int (nI z)), (12, .int (nI c)), (11, .int (nI y)), (10, .int (nI h)), (9, .int (nI x)), (8, .int (nI t)), (7, .int (nI 1)), (0, .ref X.1), (1, .ref (Q 0)), (2, .ref (Q 1)), (3, .ref (Q 2)), (4, .ref (Q 3)), (5, .ref (Q 4)), (6, .ref (Q 5))] [] := by
  have hm0 := hR.m0
  have hm1 := hR.m1
  have hm2 := hR.m2
  have hm3 := hR.m3
  have hm4 := hR.m4
  have hn9 := hR.n9
  have hb0 := hI.b0
  have hb2 := hI.b2
  have hb15 := hI.b15
  have hb18 := hI.b18
  refine q_iload dL_law_988 3 rfl ?_
  refine q_bipush (v := (nI 27)) dL_law_990 (by decide) ?_
  refine nq_icmp_ge 1090 dL_law_992 (by decide) (by omega) (by omega) (fun c992 => ?_) (fun c992 => ?_)
  · exact WL.loc [0, 1, 2, 3, 4, 5, 6, 7, 8, 9, 10, 11, 12, 13] rfl (l_turn1090 hL hI hR hA hx hy hz hh hc K)
  · refine q_iload dL_law_995 3 rfl ?_
    refine q_bipush (v := (nI 24)) dL_law_997 (by decide) ?_
    refine nq_icmp_le 1090 dL_law_999 (by decide) (by omega) (by omega) (fun c999 => ?_) (fun c999 => ?_)
    · exact WL.loc [0, 1, 2, 3, 4, 5, 6, 7, 8, 9, 10, 11, 12, 13] rfl (l_turn1090 hL hI hR hA hx hy hz hh hc K)
    · refine q_aload_n dL_law_1002 rfl 9 rfl ?_
      refine q_iconst (v := (nI 0)) dL_law_1003 (by decide) ?_
      refine nq_iald dL_law_1004 hL.r1 (by omega) (by decide) ?_
      refine nq_if_le 1090 dL_law_1005 (by decide) (by omega) (fun c1005 => ?_) (fun c1005 => ?_)
      · exact WL.loc [0, 1, 2, 3, 4, 5, 6, 7, 8, 9, 10, 11, 12, 13] rfl (l_turn1090 hL hI hR hA hx hy hz hh hc K)
      · exact WL.loc [0, 1, 2, 4, 5, 6, 7, 8, 9, 10, 11, 12, 13] rfl (la_data hL hI hR hA hx hy hz (by omega) K)
set_option maxRecDepth 100000 in
set_option maxHeartbeats 4000000 in
theorem l_turn915 {X : SX} {b0 : Nat} {Q : Nat → Nat} {bc bs : Nat} {A B : ST} {G : GH} (hL : LW Q A B G) (hI : Inv A) (hR : Rl A B) (hA : Ap A) {t x y c z : Nat} (hx : x < 2 ^ 31) (hy : y < 2 ^ 31) (hz : z < 2 ^ 31) {h : Nat} (hh : h < 2 ^ 31) (hc : 0 < A 9 0 → c < A 9 0) (K : LK X b0 Q bc bs t x y) : WL X mL_law 12 b0 (fun r _ => r = some (.int 1)) NoX G (bc + 700) (bs + 14000) 915 [(13, .int (nI z)), (12, .int (nI c)), (11, .int (nI y)), (10, .int (nI h)), (9, .int (nI x)), (8, .int (nI t)), (7, .int (nI 1)), (0, .ref X.1), (1, .ref (Q 0)), (2, .ref (Q 1)), (3, .ref (Q 2)), (4, .ref (Q 3)), (5, .ref (Q 4)), (6, .ref (Q 5))] [] := by
  have hm0 := hR.m0
  have hm1 := hR.m1
  have hm2 := hR.m2
  have hm3 := hR.m3
  have hm4 := hR.m4
  have hn9 := hR.n9
  have hb0 := hI.b0
  have hb2 := hI.b2
  have hb15 := hI.b15
  have hb18 := hI.b18
  refine q_iload dL_law_915 3 rfl ?_
  refine q_bipush (v := (nI 25)) dL_law_917 (by decide) ?_
  refine nq_icmp_ge 988 dL_law_919 (by decide) (by omega) (by omega) (fun c919 => ?_) (fun c919 => ?_)
  · exact WL.loc [0, 1, 2, 3, 4, 5, 6, 7, 8, 9, 10, 11, 12, 13] rfl (l_turn988 hL hI hR hA hx hy hz hh hc K)
  · refine q_iload dL_law_922 3 rfl ?_
    refine q_bipush (v := (nI 22)) dL_law_924 (by decide) ?_
    refine nq_icmp_le 988 dL_law_926 (by decide) (by omega) (by omega) (fun c926 => ?_) (fun c926 => ?_)
    · exact WL.loc [0, 1, 2, 3, 4, 5, 6, 7, 8, 9, 10, 11, 12, 13] rfl (l_turn988 hL hI hR hA hx hy hz hh hc K)
    · exact WL.loc [0, 1, 2, 4, 5, 6, 7, 8, 9, 10, 11, 12, 13] rfl (la_letter hL hI hR hA hx hy hz K)
set_option maxRecDepth 100000 in
set_option maxHeartbeats 4000000 in
theorem l_turn877 {X : SX} {b0 : Nat} {Q : Nat → Nat} {bc bs : Nat} {A B : ST} {G : GH} (hL : LW Q A B G) (hI : Inv A) (hR : Rl A B) (hA : Ap A) {t x y c z : Nat} (hx : x < 2 ^ 31) (hy : y < 2 ^ 31) (hz : z < 2 ^ 31) {h : Nat} (hh : h < 2 ^ 31) (hc : 0 < A 9 0 → c < A 9 0) (K : LK X b0 Q bc bs t x y) : WL X mL_law 12 b0 (fun r _ => r = some (.int 1)) NoX G (bc + 700) (bs + 14000) 877 [(13, .int (nI z)), (12, .int (nI c)), (11, .int (nI y)), (10, .int (nI h)), (9, .int (nI x)), (8, .int (nI t)), (7, .int (nI 1)), (0, .ref X.1), (1, .ref (Q 0)), (2, .ref (Q 1)), (3, .ref (Q 2)), (4, .ref (Q 3)), (5, .ref (Q 4)), (6, .ref (Q 5))] [] := by
  have hm0 := hR.m0
  have hm1 := hR.m1
  have hm2 := hR.m2
  have hm3 := hR.m3
  have hm4 := hR.m4
  have hn9 := hR.n9
  have hb0 := hI.b0
  have hb2 := hI.b2
  have hb15 := hI.b15
  have hb18 := hI.b18
  refine q_iload dL_law_877 3 rfl ?_
  refine q_bipush (v := (nI 22)) dL_law_879 (by decide) ?_
  refine nq_icmp_ne 915 dL_law_881 (by decide) (by omega) (by omega) (fun c881 => ?_) (fun c881 => ?_)
  · exact WL.loc [0, 1, 2, 3, 4, 5, 6, 7, 8, 9, 10, 11, 12, 13] rfl (l_turn915 hL hI hR hA hx hy hz hh hc K)
  · exact WL.loc [0, 1, 2, 4, 5, 6, 7, 8, 9, 10, 11, 12, 13] rfl (la_clear hL hI hR hA hx hy hz K)
set_option maxRecDepth 100000 in
set_option maxHeartbeats 4000000 in
theorem l_turn756 {X : SX} {b0 : Nat} {Q : Nat → Nat} {bc bs : Nat} {A B : ST} {G : GH} (hL : LW Q A B G) (hI : Inv A) (hR : Rl A B) (hA : Ap A) {t x y c z : Nat} (hx : x < 2 ^ 31) (hy : y < 2 ^ 31) (hz : z < 2 ^ 31) {h : Nat} (hh : h < 2 ^ 31) (hc : 0 < A 9 0 → c < A 9 0) (K : LK X b0 Q bc bs t x y) : WL X mL_law 12 b0 (fun r _ => r = some (.int 1)) NoX G (bc + 700) (bs + 14000) 756 [(13, .int (nI z)), (12, .int (nI c)), (11, .int (nI y)), (10, .int (nI h)), (9, .int (nI x)), (8, .int (nI t)), (7, .int (nI 1)), (0, .ref X.1), (1, .ref (Q 0)), (2, .ref (Q 1)), (3, .ref (Q 2)), (4, .ref (Q 3)), (5, .ref (Q 4)), (6, .ref (Q 5))] [] := by
  have hm0 := hR.m0
  have hm1 := hR.m1
  have hm2 := hR.m2
  have hm3 := hR.m3
  have hm4 := hR.m4
  have hn9 := hR.n9
  have hb0 := hI.b0
  have hb2 := hI.b2
  have hb15 := hI.b15
  have hb18 := hI.b18
  refine q_iload dL_law_756 3 rfl ?_
  refine q_bipush (v := (nI 22)) dL_law_758 (by decide) ?_
  refine nq_icmp_ge 877 dL_law_760 (by decide) (by omega) (by omega) (fun c760 => ?_) (fun c760 => ?_)
  · exact WL.loc [0, 1, 2, 3, 4, 5, 6, 7, 8, 9, 10, 11, 12, 13] rfl (l_turn877 hL hI hR hA hx hy hz hh hc K)
  · refine q_iload dL_law_763 3 rfl ?_
    refine q_bipush (v := (nI 18)) dL_law_765 (by decide) ?_
    refine nq_icmp_le 877 dL_law_767 (by decide) (by omega) (by omega) (fun c767 => ?_) (fun c767 => ?_)
    · exact WL.loc [0, 1, 2, 3, 4, 5, 6, 7, 8, 9, 10, 11, 12, 13] rfl (l_turn877 hL hI hR hA hx hy hz hh hc K)
    · refine q_aload_n dL_law_770 rfl 9 rfl ?_
      refine q_iconst (v := (nI 1)) dL_law_771 (by decide) ?_
      refine nq_iald dL_law_772 hL.r1 (by omega) (by decide) ?_
      refine q_iconst (v := (nI 1)) dL_law_773 (by decide) ?_
      refine nq_icmp_le 877 dL_law_774 (by decide) (by omega) (by omega) (fun c774 => ?_) (fun c774 => ?_)
      · exact WL.loc [0, 1, 2, 3, 4, 5, 6, 7, 8, 9, 10, 11, 12, 13] rfl (l_turn877 hL hI hR hA hx hy hz hh hc K)
      · exact WL.loc [0, 1, 2, 4, 5, 6, 7, 8, 9, 10, 11, 12, 13] rfl (la_relate hL hI hR hA hx hy hz (hc (by omega)) (by omega) K)
set_option maxRecDepth 100000 in
set_option maxHeartbeats 4000000 in
theorem l_turn658 {X : SX} {b0 : Nat} {Q : Nat → Nat} {bc bs : Nat} {A B : ST} {G : GH} (hL : LW Q A B G) (hI : Inv A) (hR : Rl A B) (hA : Ap A) {t x y c z : Nat} (hx : x < 2 ^ 31) (hy : y < 2 ^ 31) (hz : z < 2 ^ 31) {h : Nat} (hh : h < 2 ^ 31) (hc : 0 < A 9 0 → c < A 9 0) (K : LK X b0 Q bc bs t x y) : WL X mL_law 12 b0 (fun r _ => r = some (.int 1)) NoX G (bc + 700) (bs + 14000) 658 [(13, .int (nI z)), (12, .int (nI c)), (11, .int (nI y)), (10, .int (nI h)), (9, .int (nI x)), (8, .int (nI t)), (7, .int (nI 1)), (0, .ref X.1), (1, .ref (Q 0)), (2, .ref (Q 1)), (3, .ref (Q 2)), (4, .ref (Q 3)), (5, .ref (Q 4)), (6, .ref (Q 5))] [] := by
  have hm0 := hR.m0
  have hm1 := hR.m1
  have hm2 := hR.m2
  have hm3 := hR.m3
  have hm4 := hR.m4
  have hn9 := hR.n9
  have hb0 := hI.b0
  have hb2 := hI.b2
  have hb15 := hI.b15
  have hb18 := hI.b18
  refine q_iload dL_law_658 3 rfl ?_
  refine q_bipush (v := (nI 19)) dL_law_660 (by decide) ?_
  refine nq_icmp_ge 756 dL_law_662 (by decide) (by omega) (by omega) (fun c662 => ?_) (fun c662 => ?_)
  · exact WL.loc [0, 1, 2, 3, 4, 5, 6, 7, 8, 9, 10, 11, 12, 13] rfl (l_turn756 hL hI hR hA hx hy hz hh hc K)
  · refine q_iload dL_law_665 3 rfl ?_
    refine q_bipush (v := (nI 14)) dL_law_667 (by decide) ?_
    refine nq_icmp_le 756 dL_law_669 (by decide) (by omega) (by omega) (fun c669 => ?_) (fun c669 => ?_)
    · exact WL.loc [0, 1, 2, 3, 4, 5, 6, 7, 8, 9, 10, 11, 12, 13] rfl (l_turn756 hL hI hR hA hx hy hz hh hc K)
    · refine q_aload_n dL_law_672 rfl 9 rfl ?_
      refine q_iconst (v := (nI 1)) dL_law_673 (by decide) ?_
      refine nq_iald dL_law_674 hL.r1 (by omega) (by decide) ?_
      refine nq_if_le 756 dL_law_675 (by decide) (by omega) (fun c675 => ?_) (fun c675 => ?_)
      · exact WL.loc [0, 1, 2, 3, 4, 5, 6, 7, 8, 9, 10, 11, 12, 13] rfl (l_turn756 hL hI hR hA hx hy hz hh hc K)
      · exact WL.loc [0, 1, 2, 4, 5, 6, 7, 8, 9, 10, 11, 12, 13] rfl (la_approve hL hI hR hA hx hy hz (hc (by omega)) K)
set_option maxRecDepth 100000 in
set_option maxHeartbeats 4000000 in
theorem l_turn533 {X : SX} {b0 : Nat} {Q : Nat → Nat} {bc bs : Nat} {A B : ST} {G : GH} (hL : LW Q A B G) (hI : Inv A) (hR : Rl A B) (hA : Ap A) {t x y c z : Nat} (hx : x < 2 ^ 31) (hy : y < 2 ^ 31) (hz : z < 2 ^ 31) {h : Nat} (hh : h < 2 ^ 31) (hc : 0 < A 9 0 → c < A 9 0) (K : LK X b0 Q bc bs t x y) : WL X mL_law 12 b0 (fun r _ => r = some (.int 1)) NoX G (bc + 700) (bs + 14000) 533 [(13, .int (nI z)), (12, .int (nI c)), (11, .int (nI y)), (10, .int (nI h)), (9, .int (nI x)), (8, .int (nI t)), (7, .int (nI 1)), (0, .ref X.1), (1, .ref (Q 0)), (2, .ref (Q 1)), (3, .ref (Q 2)), (4, .ref (Q 3)), (5, .ref (Q 4)), (6, .ref (Q 5))] [] := by
  have hm0 := hR.m0
  have hm1 := hR.m1
  have hm2 := hR.m2
  have hm3 := hR.m3
  have hm4 := hR.m4
  have hn9 := hR.n9
  have hb0 := hI.b0
  have hb2 := hI.b2
  have hb15 := hI.b15
  have hb18 := hI.b18
  refine q_iload dL_law_533 3 rfl ?_
  refine q_bipush (v := (nI 15)) dL_law_535 (by decide) ?_
  refine nq_icmp_ge 658 dL_law_537 (by decide) (by omega) (by omega) (fun c537 => ?_) (fun c537 => ?_)
  · exact WL.loc [0, 1, 2, 3, 4, 5, 6, 7, 8, 9, 10, 11, 12, 13] rfl (l_turn658 hL hI hR hA hx hy hz hh hc K)
  · refine q_aload_n dL_law_540 rfl 9 rfl ?_
    refine q_iconst (v := (nI 1)) dL_law_541 (by decide) ?_
    refine nq_iald dL_law_542 hL.r1 (by omega) (by decide) ?_
    refine nq_if_le 658 dL_law_543 (by decide) (by omega) (fun c543 => ?_) (fun c543 => ?_)
    · exact WL.loc [0, 1, 2, 3, 4, 5, 6, 7, 8, 9, 10, 11, 12, 13] rfl (l_turn658 hL hI hR hA hx hy hz hh hc K)
    · exact WL.loc [0, 1, 2, 4, 5, 6, 7, 8, 9, 10, 11, 12, 13] rfl (la_text hL hI hR hA hx hy hz (hc (by omega)) K)
set_option maxRecDepth 100000 in
set_option maxHeartbeats 4000000 in
theorem l_turn443 {X : SX} {b0 : Nat} {Q : Nat → Nat} {bc bs : Nat} {A B : ST} {G : GH} (hL : LW Q A B G) (hI : Inv A) (hR : Rl A B) (hA : Ap A) {t x y c z : Nat} (hx : x < 2 ^ 31) (hy : y < 2 ^ 31) (hz : z < 2 ^ 31) {h : Nat} (hh : h < 2 ^ 31) (hc : 0 < A 9 0 → c < A 9 0) (K : LK X b0 Q bc bs t x y) : WL X mL_law 12 b0 (fun r _ => r = some (.int 1)) NoX G (bc + 700) (bs + 14000) 443 [(13, .int (nI z)), (12, .int (nI c)), (11, .int (nI y)), (10, .int (nI h)), (9, .int (nI x)), (8, .int (nI t)), (7, .int (nI 1)), (0, .ref X.1), (1, .ref (Q 0)), (2, .ref (Q 1)), (3, .ref (Q 2)), (4, .ref (Q 3)), (5, .ref (Q 4)), (6, .ref (Q 5))] [] := by
  have hm0 := hR.m0
  have hm1 := hR.m1
  have hm2 := hR.m2
  have hm3 := hR.m3
  have hm4 := hR.m4
  have hn9 := hR.n9
  have hb0 := hI.b0
  have hb2 := hI.b2
  have hb15 := hI.b15
  have hb18 := hI.b18
  refine q_iload dL_law_443 3 rfl ?_
  refine q_bipush (v := (nI 8)) dL_law_445 (by decide) ?_
  refine nq_icmp_ge 533 dL_law_447 (by decide) (by omega) (by omega) (fun c447 => ?_) (fun c447 => ?_)
  · exact WL.loc [0, 1, 2, 3, 4, 5, 6, 7, 8, 9, 10, 11, 12, 13] rfl (l_turn533 hL hI hR hA hx hy hz hh hc K)
  · refine q_iload dL_law_450 3 rfl ?_
    refine q_iconst (v := (nI 5)) dL_law_452 (by decide) ?_
    refine nq_icmp_le 533 dL_law_453 (by decide) (by omega) (by omega) (fun c453 => ?_) (fun c453 => ?_)
    · exact WL.loc [0, 1, 2, 3, 4, 5, 6, 7, 8, 9, 10, 11, 12, 13] rfl (l_turn533 hL hI hR hA hx hy hz hh hc K)
    · exact WL.loc [0, 1, 2, 4, 5, 6, 7, 8, 9, 10, 11, 12, 13] rfl (la_clause hL hI hR hA hx hy hz K)
set_option maxRecDepth 100000 in
set_option maxHeartbeats 4000000 in
theorem l_turn362 {X : SX} {b0 : Nat} {Q : Nat → Nat} {bc bs : Nat} {A B : ST} {G : GH} (hL : LW Q A B G) (hI : Inv A) (hR : Rl A B) (hA : Ap A) {t x y c z : Nat} (hx : x < 2 ^ 31) (hy : y < 2 ^ 31) (hz : z < 2 ^ 31) {h : Nat} (hh : h < 2 ^ 31) (hc : 0 < A 9 0 → c < A 9 0) (K : LK X b0 Q bc bs t x y) : WL X mL_law 12 b0 (fun r _ => r = some (.int 1)) NoX G (bc + 700) (bs + 14000) 362 [(13, .int (nI z)), (12, .int (nI c)), (11, .int (nI y)), (10, .int (nI h)), (9, .int (nI x)), (8, .int (nI t)), (7, .int (nI 1)), (0, .ref X.1), (1, .ref (Q 0)), (2, .ref (Q 1)), (3, .ref (Q 2)), (4, .ref (Q 3)), (5, .ref (Q 4)), (6, .ref (Q 5))] [] := by
  have hm0 := hR.m0
  have hm1 := hR.m1
  have hm2 := hR.m2
  have hm3 := hR.m3
  have hm4 := hR.m4
  have hn9 := hR.n9
  have hb0 := hI.b0
  have hb2 := hI.b2
  have hb15 := hI.b15
  have hb18 := hI.b18
  refine q_iload dL_law_362 3 rfl ?_
  refine q_iconst (v := (nI 5)) dL_law_364 (by decide) ?_
  refine nq_icmp_ne 443 dL_law_365 (by decide) (by omega) (by omega) (fun c365 => ?_) (fun c365 => ?_)
  · exact WL.loc [0, 1, 2, 3, 4, 5, 6, 7, 8, 9, 10, 11, 12, 13] rfl (l_turn443 hL hI hR hA hx hy hz hh hc K)
  · refine q_aload_n dL_law_368 rfl 9 rfl ?_
    refine q_iconst (v := (nI 0)) dL_law_369 (by decide) ?_
    refine nq_iald dL_law_370 hL.r1 (by omega) (by decide) ?_
    refine nq_if_le 443 dL_law_371 (by decide) (by omega) (fun c371 => ?_) (fun c371 => ?_)
    · exact WL.loc [0, 1, 2, 3, 4, 5, 6, 7, 8, 9, 10, 11, 12, 13] rfl (l_turn443 hL hI hR hA hx hy hz hh hc K)
    · exact WL.loc [0, 1, 2, 4, 5, 6, 7, 8, 9, 10, 11, 12, 13] rfl (la_own hL hI hR hA hx hy hz (by omega) K)
set_option maxRecDepth 100000 in
set_option maxHeartbeats 4000000 in
theorem l_turn299 {X : SX} {b0 : Nat} {Q : Nat → Nat} {bc bs : Nat} {A B : ST} {G : GH} (hL : LW Q A B G) (hI : Inv A) (hR : Rl A B) (hA : Ap A) {t x y c z : Nat} (hx : x < 2 ^ 31) (hy : y < 2 ^ 31) (hz : z < 2 ^ 31) {h : Nat} (hh : h < 2 ^ 31) (hc : 0 < A 9 0 → c < A 9 0) (K : LK X b0 Q bc bs t x y) : WL X mL_law 12 b0 (fun r _ => r = some (.int 1)) NoX G (bc + 700) (bs + 14000) 299 [(13, .int (nI z)), (12, .int (nI c)), (11, .int (nI y)), (10, .int (nI h)), (9, .int (nI x)), (8, .int (nI t)), (7, .int (nI 1)), (0, .ref X.1), (1, .ref (Q 0)), (2, .ref (Q 1)), (3, .ref (Q 2)), (4, .ref (Q 3)), (5, .ref (Q 4)), (6, .ref (Q 5))] [] := by
  have hm0 := hR.m0
  have hm1 := hR.m1
  have hm2 := hR.m2
  have hm3 := hR.m3
  have hm4 := hR.m4
  have hn9 := hR.n9
  have hb0 := hI.b0
  have hb2 := hI.b2
  have hb15 := hI.b15
  have hb18 := hI.b18
  refine q_iload dL_law_299 3 rfl ?_
  refine q_iconst (v := (nI 5)) dL_law_301 (by decide) ?_
  refine nq_icmp_ge 362 dL_law_302 (by decide) (by omega) (by omega) (fun c302 => ?_) (fun c302 => ?_)
  · exact WL.loc [0, 1, 2, 3, 4, 5, 6, 7, 8, 9, 10, 11, 12, 13] rfl (l_turn362 hL hI hR hA hx hy hz hh hc K)
  · exact WL.loc [0, 1, 2, 4, 5, 6, 7, 8, 9, 10, 11, 12, 13] rfl (la_end hL hI hR hA hx hy hz K)
set_option maxRecDepth 100000 in
set_option maxHeartbeats 4000000 in
theorem l_turn203 {X : SX} {b0 : Nat} {Q : Nat → Nat} {bc bs : Nat} {A B : ST} {G : GH} (hL : LW Q A B G) (hI : Inv A) (hR : Rl A B) (hA : Ap A) {t x y c z : Nat} (hx : x < 2 ^ 31) (hy : y < 2 ^ 31) (hz : z < 2 ^ 31) {h : Nat} (hh : h < 2 ^ 31) (hc : 0 < A 9 0 → c < A 9 0) (K : LK X b0 Q bc bs t x y) : WL X mL_law 12 b0 (fun r _ => r = some (.int 1)) NoX G (bc + 700) (bs + 14000) 203 [(13, .int (nI z)), (12, .int (nI c)), (11, .int (nI y)), (10, .int (nI h)), (9, .int (nI x)), (8, .int (nI t)), (7, .int (nI 1)), (0, .ref X.1), (1, .ref (Q 0)), (2, .ref (Q 1)), (3, .ref (Q 2)), (4, .ref (Q 3)), (5, .ref (Q 4)), (6, .ref (Q 5))] [] := by
  have hm0 := hR.m0
  have hm1 := hR.m1
  have hm2 := hR.m2
  have hm3 := hR.m3
  have hm4 := hR.m4
  have hn9 := hR.n9
  have hb0 := hI.b0
  have hb2 := hI.b2
  have hb15 := hI.b15
  have hb18 := hI.b18
  refine q_iload dL_law_203 3 rfl ?_
  refine q_iconst (v := (nI 2)) dL_law_205 (by decide) ?_
  refine nq_icmp_ge 299 dL_law_206 (by decide) (by omega) (by omega) (fun c206 => ?_) (fun c206 => ?_)
  · exact WL.loc [0, 1, 2, 3, 4, 5, 6, 7, 8, 9, 10, 11, 12, 13] rfl (l_turn299 hL hI hR hA hx hy hz hh hc K)
  · exact WL.loc [0, 1, 2, 4, 5, 6, 7, 8, 9, 10, 11, 12, 13] rfl (la_word hL hI hR hA hx hy hz K)
set_option maxRecDepth 100000 in
set_option maxHeartbeats 4000000 in
theorem l_turn169 {X : SX} {b0 : Nat} {Q : Nat → Nat} {bc bs : Nat} {A B : ST} {G : GH} (hL : LW Q A B G) (hI : Inv A) (hR : Rl A B) (hA : Ap A) {t x : Nat} (hx : x < 2 ^ 31) {h : Nat} (hh : h < 2 ^ 31) (K : LK X b0 Q bc bs t x (x / 32)) : WL X mL_law 12 b0 (fun r _ => r = some (.int 1)) NoX G (bc + 700) (bs + 14000) 169 [(9, .int (nI x)), (8, .int (nI t)), (7, .int (nI 1)), (0, .ref X.1), (1, .ref (Q 0)), (2, .ref (Q 1)), (3, .ref (Q 2)), (4, .ref (Q 3)), (5, .ref (Q 4)), (6, .ref (Q 5))] [.int (nI h)] := by
  have hm0 := hR.m0
  have hm1 := hR.m1
  have hm2 := hR.m2
  have hm3 := hR.m3
  have hm4 := hR.m4
  have hn9 := hR.n9
  have hb0 := hI.b0
  have hb2 := hI.b2
  have hb15 := hI.b15
  have hb18 := hI.b18
  refine q_istore [(10, .int (nI h)), (9, .int (nI x)), (8, .int (nI t)), (7, .int (nI 1)), (0, .ref X.1), (1, .ref (Q 0)), (2, .ref (Q 1)), (3, .ref (Q 2)), (4, .ref (Q 3)), (5, .ref (Q 4)), (6, .ref (Q 5))] dL_law_169 (by decide) rfl ?_
  refine q_iload dL_law_171 1 rfl ?_
  refine q_bipush (v := (nI 32)) dL_law_173 (by decide) ?_
  refine nq_idiv dL_law_175 (by omega) (by omega) (by omega) ?_
  refine q_istore [(11, .int (nI (x / 32))), (10, .int (nI h)), (9, .int (nI x)), (8, .int (nI t)), (7, .int (nI 1)), (0, .ref X.1), (1, .ref (Q 0)), (2, .ref (Q 1)), (3, .ref (Q 2)), (4, .ref (Q 3)), (5, .ref (Q 4)), (6, .ref (Q 5))] dL_law_176 (by decide) rfl ?_
  refine q_aload_n dL_law_178 rfl 7 rfl ?_
  refine q_iconst (v := (nI 1)) dL_law_179 (by decide) ?_
  refine nq_iald dL_law_180 hL.r1 (by omega) (by decide) ?_
  refine nq_if_ne 188 dL_law_181 (by decide) (by omega) (fun c181 => ?_) (fun c181 => ?_)
  · refine q_iload dL_law_188 0 rfl ?_
    refine q_aload_n dL_law_190 rfl 7 rfl ?_
    refine q_iconst (v := (nI 1)) dL_law_191 (by decide) ?_
    refine nq_iald dL_law_192 hL.r1 (by omega) (by decide) ?_
    refine nq_irem dL_law_193 (by omega) (by omega) (by omega) ?_
    refine q_istore [(12, .int (nI ((x / 32) % (B 1 1)))), (11, .int (nI (x / 32))), (10, .int (nI h)), (9, .int (nI x)), (8, .int (nI t)), (7, .int (nI 1)), (0, .ref X.1), (1, .ref (Q 0)), (2, .ref (Q 1)), (3, .ref (Q 2)), (4, .ref (Q 3)), (5, .ref (Q 4)), (6, .ref (Q 5))] dL_law_194 (by decide) rfl ?_
    refine q_iload dL_law_196 1 rfl ?_
    refine q_bipush (v := (nI 9)) dL_law_198 (by decide) ?_
    refine nq_idiv dL_law_200 (by omega) (by omega) (by omega) ?_
    refine q_istore [(13, .int (nI ((x / 32) / 9))), (12, .int (nI ((x / 32) % (B 1 1)))), (11, .int (nI (x / 32))), (10, .int (nI h)), (9, .int (nI x)), (8, .int (nI t)), (7, .int (nI 1)), (0, .ref X.1), (1, .ref (Q 0)), (2, .ref (Q 1)), (3, .ref (Q 2)), (4, .ref (Q 3)), (5, .ref (Q 4)), (6, .ref (Q 5))] dL_law_201 (by decide) rfl ?_
    exact WL.loc [0, 1, 2, 3, 4, 5, 6, 7, 8, 9, 10, 11, 12, 13] rfl (l_turn203 hL hI hR hA hx (y := x / 32) (by omega) (c := (x / 32 % B 1 1)) (z := x / 32 / 9) (by omega) hh (fun _ => by rw [← hm1]; exact Nat.mod_lt _ (by omega)) K)
  · refine q_iconst (v := (nI 0)) dL_law_184 (by decide) ?_
    refine q_goto 194 dL_law_185 (by decide) ?_
    refine q_istore [(12, .int (nI 0)), (11, .int (nI (x / 32))), (10, .int (nI h)), (9, .int (nI x)), (8, .int (nI t)), (7, .int (nI 1)), (0, .ref X.1), (1, .ref (Q 0)), (2, .ref (Q 1)), (3, .ref (Q 2)), (4, .ref (Q 3)), (5, .ref (Q 4)), (6, .ref (Q 5))] dL_law_194 (by decide) rfl ?_
    refine q_iload dL_law_196 1 rfl ?_
    refine q_bipush (v := (nI 9)) dL_law_198 (by decide) ?_
    refine nq_idiv dL_law_200 (by omega) (by omega) (by omega) ?_
    refine q_istore [(13, .int (nI ((x / 32) / 9))), (12, .int (nI 0)), (11, .int (nI (x / 32))), (10, .int (nI h)), (9, .int (nI x)), (8, .int (nI t)), (7, .int (nI 1)), (0, .ref X.1), (1, .ref (Q 0)), (2, .ref (Q 1)), (3, .ref (Q 2)), (4, .ref (Q 3)), (5, .ref (Q 4)), (6, .ref (Q 5))] dL_law_201 (by decide) rfl ?_
    exact WL.loc [0, 1, 2, 3, 4, 5, 6, 7, 8, 9, 10, 11, 12, 13] rfl (l_turn203 hL hI hR hA hx (y := x / 32) (by omega) (c := 0) (z := x / 32 / 9) (by omega) hh (fun q => by omega) K)
set_option maxRecDepth 100000 in
set_option maxHeartbeats 4000000 in
theorem l_tail {X : SX} {b0 : Nat} {Q : Nat → Nat} {b1 s1 b3 s3 t x y : Nat} (hx : x < 2 ^ 31) (hy : y < 2 ^ 31) (ht : t < 120) (h1 : b1 ≤ b3 ∧ s1 ≤ s3) (h2 : t % 40 = 0 → b1 + 7600 ≤ b3 ∧ s1 + 152000 ≤ s3) (KK : ∀ (A B : ST) (G : GH), LW Q A B G → Inv A → Rl A B → Ap A → WL X mL_law 12 b0 (fun r _ => r = some (.int 1)) NoX G b1 s1 100 [(8, .int (nI (t + 1))), (7, .int (nI 1)), (0, .ref X.1), (1, .ref (Q 0)), (2, .ref (Q 1)), (3, .ref (Q 2)), (4, .ref (Q 3)), (5, .ref (Q 4)), (6, .ref (Q 5))] []) : LK X b0 Q (b3 + 680) (s3 + 13600) t x y := by
  intro A B G hL hI hR hA
  have ht2 : t < 2 ^ 31 := by omega
  refine q_iload dL_law_1445 3 rfl ?_
  refine nq_if_eq 1496 dL_law_1447 (by decide) (by omega) (fun c1 => absurd c1 (by decide)) (fun c1 => ?_)
  refine q_aload_n dL_law_1450 rfl 5 rfl ?_
  refine q_aload_n dL_law_1451 rfl 6 rfl ?_
  refine q_aload_n dL_law_1452 rfl 7 rfl ?_
  refine q_aload dL_law_1453 8 rfl ?_
  refine q_aload dL_law_1455 9 rfl ?_
  refine q_aload dL_law_1457 10 rfl ?_
  refine q_iload dL_law_1459 0 rfl ?_
  refine q_iload dL_law_1461 2 rfl ?_
  refine q_callS (st := []) [.ref (Q 0), .ref (Q 1), .ref (Q 2), .ref (Q 3), .ref (Q 4), .ref (Q 5), .int (nI y), .int (nI t)] (b3 + 0) (s3 + 0) dL_law_1463 kL_areSound nL_areSound lRL_119 (l_areSound (d := 0) hL hI hR hy ht2) rfl rfl (Nat.le_of_ble_eq_true rfl) (by omega) (by omega) ?_
  intro r G2 hr
  obtain ⟨rfl, hL3⟩ := hr
  show WL X mL_law _ _ _ _ _ _ _ 1466 [(11, .int (nI y)), (9, .int (nI x)), (8, .int (nI t)), (7, .int (nI 1)), (0, .ref X.1), (1, .ref (Q 0)), (2, .ref (Q 1)), (3, .ref (Q 2)), (4, .ref (Q 3)), (5, .ref (Q 4)), (6, .ref (Q 5))] [.int (nI 1)]
  refine nq_if_eq 1496 dL_law_1466 (by decide) (by omega) (fun c4 => absurd c4 (by decide)) (fun c4 => ?_)
  refine q_iload dL_law_1469 2 rfl ?_
  refine q_bipush (v := (nI 40)) dL_law_1471 (by decide) ?_
  refine nq_irem dL_law_1473 (by omega) (by omega) (by omega) ?_
  refine nq_if_gt 1492 dL_law_1474 (by decide) (by omega) (fun c1474 => ?_) (fun c1474 => ?_)
  · refine q_iconst (v := (nI 1)) dL_law_1492 (by decide) ?_
    refine q_goto 1497 dL_law_1493 (by decide) ?_
    refine q_istore [(7, .int (nI 1)), (11, .int (nI y)), (9, .int (nI x)), (8, .int (nI t)), (0, .ref X.1), (1, .ref (Q 0)), (2, .ref (Q 1)), (3, .ref (Q 2)), (4, .ref (Q 3)), (5, .ref (Q 4)), (6, .ref (Q 5))] dL_law_1497 (by decide) rfl ?_
    refine q_iinc (nI (t + 1)) [(8, .int (nI (t + 1))), (7, .int (nI 1)), (11, .int (nI y)), (9, .int (nI x)), (0, .ref X.1), (1, .ref (Q 0)), (2, .ref (Q 1)), (3, .ref (Q 2)), (4, .ref (Q 3)), (5, .ref (Q 4)), (6, .ref (Q 5))] dL_law_1499 3 rfl (nI_add t 1) (by decide) rfl ?_
    refine q_goto 100 dL_law_1502 (by decide) ?_
    exact WL.loc [0, 1, 4, 5, 6, 7, 8, 9, 10] rfl (WL.bud (by omega) (by omega) (KK _ _ _ hL3 hI hR hA))
  · refine WL.bud (bc' := b1 + 7600) (bs' := s1 + 152000) (by omega) (by omega) ?_
    refine q_aload_n dL_law_1477 rfl 5 rfl ?_
    refine q_aload_n dL_law_1478 rfl 6 rfl ?_
    refine q_aload_n dL_law_1479 rfl 7 rfl ?_
    refine q_aload dL_law_1480 8 rfl ?_
    refine q_iload dL_law_1482 1 rfl ?_
    refine q_iconst (v := (nI 3)) dL_law_1484 (by decide) ?_
    refine nq_idiv dL_law_1485 (by omega) (by omega) (by omega) ?_
    refine q_callS (st := []) [.ref (Q 0), .ref (Q 1), .ref (Q 2), .ref (Q 3), .int (nI (x / 3))] (b1 + 0) (s1 + 0) dL_law_1486 kL_isRefused nL_isRefused lRL_116 (l_isRefused (d := 0) hL3 hI hR (x := x / 3) (by omega)) rfl rfl (Nat.le_of_ble_eq_true rfl) (by omega) (by omega) ?_
    intro r G6 hr
    obtain ⟨rfl, hL7⟩ := hr
    show WL X mL_law _ _ _ _ _ _ _ 1489 [(11, .int (nI y)), (9, .int (nI x)), (8, .int (nI t)), (7, .int (nI 1)), (0, .ref X.1), (1, .ref (Q 0)), (2, .ref (Q 1)), (3, .ref (Q 2)), (4, .ref (Q 3)), (5, .ref (Q 4)), (6, .ref (Q 5))] [.int (nI 1)]
    refine nq_if_eq 1496 dL_law_1489 (by decide) (by omega) (fun c8 => absurd c8 (by decide)) (fun c8 => ?_)
    refine q_iconst (v := (nI 1)) dL_law_1492 (by decide) ?_
    refine q_goto 1497 dL_law_1493 (by decide) ?_
    refine q_istore [(7, .int (nI 1)), (11, .int (nI y)), (9, .int (nI x)), (8, .int (nI t)), (0, .ref X.1), (1, .ref (Q 0)), (2, .ref (Q 1)), (3, .ref (Q 2)), (4, .ref (Q 3)), (5, .ref (Q 4)), (6, .ref (Q 5))] dL_law_1497 (by decide) rfl ?_
    refine q_iinc (nI (t + 1)) [(8, .int (nI (t + 1))), (7, .int (nI 1)), (11, .int (nI y)), (9, .int (nI x)), (0, .ref X.1), (1, .ref (Q 0)), (2, .ref (Q 1)), (3, .ref (Q 2)), (4, .ref (Q 3)), (5, .ref (Q 4)), (6, .ref (Q 5))] dL_law_1499 3 rfl (nI_add t 1) (by decide) rfl ?_
    refine q_goto 100 dL_law_1502 (by decide) ?_
    exact WL.loc [0, 1, 4, 5, 6, 7, 8, 9, 10] rfl (WL.bud (by omega) (by omega) (KK _ _ _ hL7 hI hR hA))
set_option maxRecDepth 100000 in
set_option maxHeartbeats 4000000 in
theorem l_loop {X : SX} {b0 : Nat} {Q : Nat → Nat} (hX : X.2.1 < 2 ^ 31) : ∀ (fu : Nat) (t : Nat) (A B : ST) (G : GH), (LW Q A B G ∧ Inv A ∧ Rl A B ∧ Ap A ∧ t ≤ 120) → 120 - t < fu → WL X mL_law 12 b0 (fun r _ => r = some (.int 1)) NoX G (1500 * (120 - t) + 7600 * (3 - (t + 39) / 40)) (30000 * (120 - t) + 152000 * (3 - (t + 39) / 40)) 100 [(8, .int (nI t)), (7, .int (nI 1)), (0, .ref X.1), (1, .ref (Q 0)), (2, .ref (Q 1)), (3, .ref (Q 2)), (4, .ref (Q 3)), (5, .ref (Q 4)), (6, .ref (Q 5))] [] := by
  intro fu
  induction fu with
  | zero => intro t A B G hinv hn; exact absurd hn (Nat.not_lt_zero _)
  | succ fu ih =>
    intro t A B G hinv hn0
    obtain ⟨hL, hI, hR, hA, ht⟩ := hinv
    refine q_iload dL_law_100 0 rfl ?_
    refine q_bipush (v := (nI 120)) dL_law_102 (by decide) ?_
    refine nq_icmp_ge 1505 dL_law_104 (by decide) (by omega) (by omega) (fun c104 => ?_) (fun c104 => ?_)
    · refine q_iload dL_law_1505 1 rfl ?_
      refine q_ret .boolean dL_law_1507 rfl rfl ?_
      rfl
    · refine q_iload dL_law_107 1 rfl ?_
      refine nq_if_eq 1505 dL_law_109 (by decide) (by omega) (fun c2 => absurd c2 (by decide)) (fun c2 => ?_)
      refine q_aload_n dL_law_112 rfl 2 rfl ?_
      refine q_iload dL_law_113 0 rfl ?_
      refine q_callSX (st := []) [.ref X.1, .int (nI t)] (1500 * (120 - t) + 7600 * (3 - (t + 39) / 40)) (30000 * (120 - t) + 152000 * (3 - (t + 39) / 40)) dL_law_115 kL_dice nL_dice lRL_123 (l_dice (by omega) hX) rfl rfl (Nat.le_of_ble_eq_true rfl) (Nat.le_refl _) (Nat.le_refl _) ?_
      intro r G9 hr
      obtain ⟨n, rfl, hn, rfl⟩ := hr
      show WL X mL_law _ _ _ _ _ _ _ 118 [(8, .int (nI t)), (7, .int (nI 1)), (0, .ref X.1), (1, .ref (Q 0)), (2, .ref (Q 1)), (3, .ref (Q 2)), (4, .ref (Q 3)), (5, .ref (Q 4)), (6, .ref (Q 5))] [.int (nI n)]
      refine q_istore [(9, .int (nI n)), (8, .int (nI t)), (7, .int (nI 1)), (0, .ref X.1), (1, .ref (Q 0)), (2, .ref (Q 1)), (3, .ref (Q 2)), (4, .ref (Q 3)), (5, .ref (Q 4)), (6, .ref (Q 5))] dL_law_118 (by decide) rfl ?_
      refine q_iload dL_law_120 1 rfl ?_
      refine q_iconst (v := (nI 2)) dL_law_122 (by decide) ?_
      refine nq_icmp_ge 130 dL_law_123 (by decide) (by omega) (by omega) (fun c123 => ?_) (fun c123 => ?_)
      · refine q_iload dL_law_130 1 rfl ?_
        refine q_iconst (v := (nI 5)) dL_law_132 (by decide) ?_
        refine nq_icmp_ge 141 dL_law_133 (by decide) (by omega) (by omega) (fun c133 => ?_) (fun c133 => ?_)
        · refine q_iload dL_law_141 1 rfl ?_
          refine q_iconst (v := (nI 5)) dL_law_143 (by decide) ?_
          refine nq_icmp_ne 152 dL_law_144 (by decide) (by omega) (by omega) (fun c144 => ?_) (fun c144 => ?_)
          · refine q_iload dL_law_152 1 rfl ?_
            refine q_bipush (v := (nI 8)) dL_law_154 (by decide) ?_
            refine nq_icmp_ge 164 dL_law_156 (by decide) (by omega) (by omega) (fun c156 => ?_) (fun c156 => ?_)
            · refine q_iload dL_law_164 0 rfl ?_
              refine q_bipush (v := (nI 32)) dL_law_166 (by decide) ?_
              refine nq_irem dL_law_168 (by omega) (by omega) (by omega) ?_
              have K : LK X b0 Q ((1500 * (120 - t) + 7600 * (3 - (t + 39) / 40) - 1500) + 680) ((30000 * (120 - t) + 152000 * (3 - (t + 39) / 40) - 30000) + 13600) t n (n / 32) := l_tail hn (by omega) (by omega) (b1 := 1500 * (120 - (t + 1)) + 7600 * (3 - (t + 1 + 39) / 40)) (s1 := 30000 * (120 - (t + 1)) + 152000 * (3 - (t + 1 + 39) / 40)) ⟨by omega, by omega⟩ (fun q => ⟨by omega, by omega⟩) (fun A' B' G' hL' hI' hR' hA' => ih (t + 1) A' B' G' ⟨hL', hI', hR', hA', by omega⟩ (by omega))
              exact WL.loc [0, 1, 2, 3, 4, 5, 6, 7, 8, 9] rfl (WL.bud (by omega) (by omega) (l_turn169 hL hI hR hA hn (h := n % 32) (by omega) K))
            · refine q_bipush (v := (nI 26)) dL_law_159 (by decide) ?_
              refine q_goto 169 dL_law_161 (by decide) ?_
              have K : LK X b0 Q ((1500 * (120 - t) + 7600 * (3 - (t + 39) / 40) - 1500) + 680) ((30000 * (120 - t) + 152000 * (3 - (t + 39) / 40) - 30000) + 13600) t n (n / 32) := l_tail hn (by omega) (by omega) (b1 := 1500 * (120 - (t + 1)) + 7600 * (3 - (t + 1 + 39) / 40)) (s1 := 30000 * (120 - (t + 1)) + 152000 * (3 - (t + 1 + 39) / 40)) ⟨by omega, by omega⟩ (fun q => ⟨by omega, by omega⟩) (fun A' B' G' hL' hI' hR' hA' => ih (t + 1) A' B' G' ⟨hL', hI', hR', hA', by omega⟩ (by omega))
              exact WL.loc [0, 1, 2, 3, 4, 5, 6, 7, 8, 9] rfl (WL.bud (by omega) (by omega) (l_turn169 hL hI hR hA hn (h := 26) (by omega) K))
          · refine q_bipush (v := (nI 24)) dL_law_147 (by decide) ?_
            refine q_goto 169 dL_law_149 (by decide) ?_
            have K : LK X b0 Q ((1500 * (120 - t) + 7600 * (3 - (t + 39) / 40) - 1500) + 680) ((30000 * (120 - t) + 152000 * (3 - (t + 39) / 40) - 30000) + 13600) t n (n / 32) := l_tail hn (by omega) (by omega) (b1 := 1500 * (120 - (t + 1)) + 7600 * (3 - (t + 1 + 39) / 40)) (s1 := 30000 * (120 - (t + 1)) + 152000 * (3 - (t + 1 + 39) / 40)) ⟨by omega, by omega⟩ (fun q => ⟨by omega, by omega⟩) (fun A' B' G' hL' hI' hR' hA' => ih (t + 1) A' B' G' ⟨hL', hI', hR', hA', by omega⟩ (by omega))
            exact WL.loc [0, 1, 2, 3, 4, 5, 6, 7, 8, 9] rfl (WL.bud (by omega) (by omega) (l_turn169 hL hI hR hA hn (h := 24) (by omega) K))
        · refine q_bipush (v := (nI 6)) dL_law_136 (by decide) ?_
          refine q_goto 169 dL_law_138 (by decide) ?_
          have K : LK X b0 Q ((1500 * (120 - t) + 7600 * (3 - (t + 39) / 40) - 1500) + 680) ((30000 * (120 - t) + 152000 * (3 - (t + 39) / 40) - 30000) + 13600) t n (n / 32) := l_tail hn (by omega) (by omega) (b1 := 1500 * (120 - (t + 1)) + 7600 * (3 - (t + 1 + 39) / 40)) (s1 := 30000 * (120 - (t + 1)) + 152000 * (3 - (t + 1 + 39) / 40)) ⟨by omega, by omega⟩ (fun q => ⟨by omega, by omega⟩) (fun A' B' G' hL' hI' hR' hA' => ih (t + 1) A' B' G' ⟨hL', hI', hR', hA', by omega⟩ (by omega))
          exact WL.loc [0, 1, 2, 3, 4, 5, 6, 7, 8, 9] rfl (WL.bud (by omega) (by omega) (l_turn169 hL hI hR hA hn (h := 6) (by omega) K))
      · refine q_iconst (v := (nI 0)) dL_law_126 (by decide) ?_
        refine q_goto 169 dL_law_127 (by decide) ?_
        have K : LK X b0 Q ((1500 * (120 - t) + 7600 * (3 - (t + 39) / 40) - 1500) + 680) ((30000 * (120 - t) + 152000 * (3 - (t + 39) / 40) - 30000) + 13600) t n (n / 32) := l_tail hn (by omega) (by omega) (b1 := 1500 * (120 - (t + 1)) + 7600 * (3 - (t + 1 + 39) / 40)) (s1 := 30000 * (120 - (t + 1)) + 152000 * (3 - (t + 1 + 39) / 40)) ⟨by omega, by omega⟩ (fun q => ⟨by omega, by omega⟩) (fun A' B' G' hL' hI' hR' hA' => ih (t + 1) A' B' G' ⟨hL', hI', hR', hA', by omega⟩ (by omega))
        exact WL.loc [0, 1, 2, 3, 4, 5, 6, 7, 8, 9] rfl (WL.bud (by omega) (by omega) (l_turn169 hL hI hR hA hn (h := 0) (by omega) K))
