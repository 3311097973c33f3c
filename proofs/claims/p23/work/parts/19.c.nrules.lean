section NRU
variable {M : MD} {d b0 : Nat} {Po : Option Value → GH → Prop} {Px : String → GH → Prop} {G : GH} {bc bs pc : Nat} {lv : List (Nat × Value)} {st : List Value}
theorem n_iadd {a b : Nat}  (hd : decode M.2.1 pc = .ok (.iadd, 1)) (k : WP M d b0 Po Px G bc bs (pc + 1) lv (.int (nI (a + b)) :: st)) : WP M d b0 Po Px G bc bs pc lv (.int (nI b) :: .int (nI a) :: st) := by
  refine r_iadd hd ?_
  rw [nI_add]
  exact k
theorem n_imul {a b : Nat}  (hd : decode M.2.1 pc = .ok (.imul, 1)) (k : WP M d b0 Po Px G bc bs (pc + 1) lv (.int (nI (a * b)) :: st)) : WP M d b0 Po Px G bc bs pc lv (.int (nI b) :: .int (nI a) :: st) := by
  refine r_imul hd ?_
  rw [pk_mul]
  exact k
theorem n_isub {a b : Nat}  (hd : decode M.2.1 pc = .ok (.isub, 1)) (h : b ≤ a) (k : WP M d b0 Po Px G bc bs (pc + 1) lv (.int (nI (a - b)) :: st)) : WP M d b0 Po Px G bc bs pc lv (.int (nI b) :: .int (nI a) :: st) := by
  refine r_isub hd ?_
  rw [pk_sub h]
  exact k
theorem n_idiv {a b : Nat}  (hd : decode M.2.1 pc = .ok (.idiv, 1)) (ha : a < 2 ^ 31) (h0 : 0 < b) (hb : b < 2 ^ 31) (k : WP M d b0 Po Px G bc bs (pc + 1) lv (.int (nI (a / b)) :: st)) : WP M d b0 Po Px G bc bs pc lv (.int (nI b) :: .int (nI a) :: st) := by
  refine r_idiv hd (nI_ne0 h0 hb) ?_
  rw [pk_div ha h0 hb]
  exact k
theorem n_irem {a b : Nat}  (hd : decode M.2.1 pc = .ok (.irem, 1)) (ha : a < 2 ^ 31) (h0 : 0 < b) (hb : b < 2 ^ 31) (k : WP M d b0 Po Px G bc bs (pc + 1) lv (.int (nI (a % b)) :: st)) : WP M d b0 Po Px G bc bs pc lv (.int (nI b) :: .int (nI a) :: st) := by
  refine r_irem hd (nI_ne0 h0 hb) ?_
  rw [pk_rem ha h0 hb]
  exact k
theorem n_iald {B : ST} {q f n k : Nat} (hd : decode M.2.1 pc = .ok (.iaload, 1)) (hG : G q = some (.inl (.int, n, .inl (rg B f 0 n)))) (hk : k < n) (hn : n < 2 ^ 31) (kk : WP M d b0 Po Px G bc bs (pc + 1) lv (.int (nI (B f k)) :: st)) : WP M d b0 Po Px G bc bs pc lv (.int (nI k) :: .ref q :: st) := by
  refine r_iald hd hG (vp_in_nI hk hn) ?_
  have e : rg B f 0 n (nI k).toNatClampNeg = nI (B f k) := by
    rw [nI_cl (by omega)]
    dsimp only [rg]
    rw [if_pos hk, Nat.zero_add]
  rw [e]
  exact kk
theorem n_iast {B : ST} {q f n k v : Nat} (hd : decode M.2.1 pc = .ok (.iastore, 1)) (hG : G q = some (.inl (.int, n, .inl (rg B f 0 n)))) (hk : k < n) (hn : n < 2 ^ 31) (kk : WP M d b0 Po Px (va_up G q (some (.inl (.int, n, .inl (upd (rg B f 0 n) k (nI v)))))) bc bs (pc + 1) lv st) : WP M d b0 Po Px G bc bs pc lv (.int (nI v) :: .int (nI k) :: .ref q :: st) := by
  refine r_iast hd hG (vp_in_nI hk hn) ?_
  rw [nI_cl (by omega)]
  exact kk
theorem n_icmp_eq {a b : Nat} {off : Int} (tgt : Nat) (hd : decode M.2.1 pc = .ok (.if_icmp .eq off, 3)) (ht : (pc : Int) + off = (tgt : Int)) (ha : a < 2 ^ 31) (hb : b < 2 ^ 31) (kt : a = b → WP M d b0 Po Px G bc bs tgt lv st) (kf : a ≠ b → WP M d b0 Po Px G bc bs (pc + 3) lv st) : WP M d b0 Po Px G bc bs pc lv (.int (nI b) :: .int (nI a) :: st) := r_icmp_eq tgt hd ht (fun h => kt (ni_eq ha hb h)) (fun h => kf (ni_ne ha hb h))
theorem n_if_eq {a : Nat} {off : Int} (tgt : Nat) (hd : decode M.2.1 pc = .ok (.ifCond .eq off, 3)) (ht : (pc : Int) + off = (tgt : Int)) (ha : a < 2 ^ 31) (kt : a = 0 → WP M d b0 Po Px G bc bs tgt lv st) (kf : a ≠ 0 → WP M d b0 Po Px G bc bs (pc + 3) lv st) : WP M d b0 Po Px G bc bs pc lv (.int (nI a) :: st) := r_if_eq tgt hd ht (fun h => kt (ni_eq ha (by decide) (show nI a = nI 0 from h))) (fun h => kf (ni_ne ha (by decide) (show ¬ nI a = nI 0 from h)))
theorem n_icmp_ne {a b : Nat} {off : Int} (tgt : Nat) (hd : decode M.2.1 pc = .ok (.if_icmp .ne off, 3)) (ht : (pc : Int) + off = (tgt : Int)) (ha : a < 2 ^ 31) (hb : b < 2 ^ 31) (kt : a ≠ b → WP M d b0 Po Px G bc bs tgt lv st) (kf : a = b → WP M d b0 Po Px G bc bs (pc + 3) lv st) : WP M d b0 Po Px G bc bs pc lv (.int (nI b) :: .int (nI a) :: st) := r_icmp_ne tgt hd ht (fun h => kt (ni_ne ha hb h)) (fun h => kf (ni_eq ha hb h))
theorem n_if_ne {a : Nat} {off : Int} (tgt : Nat) (hd : decode M.2.1 pc = .ok (.ifCond .ne off, 3)) (ht : (pc : Int) + off = (tgt : Int)) (ha : a < 2 ^ 31) (kt : a ≠ 0 → WP M d b0 Po Px G bc bs tgt lv st) (kf : a = 0 → WP M d b0 Po Px G bc bs (pc + 3) lv st) : WP M d b0 Po Px G bc bs pc lv (.int (nI a) :: st) := r_if_ne tgt hd ht (fun h => kt (ni_ne ha (by decide) (show ¬ nI a = nI 0 from h))) (fun h => kf (ni_eq ha (by decide) (show nI a = nI 0 from h)))
theorem n_icmp_lt {a b : Nat} {off : Int} (tgt : Nat) (hd : decode M.2.1 pc = .ok (.if_icmp .lt off, 3)) (ht : (pc : Int) + off = (tgt : Int)) (ha : a < 2 ^ 31) (hb : b < 2 ^ 31) (kt : a < b → WP M d b0 Po Px G bc bs tgt lv st) (kf : b ≤ a → WP M d b0 Po Px G bc bs (pc + 3) lv st) : WP M d b0 Po Px G bc bs pc lv (.int (nI b) :: .int (nI a) :: st) := r_icmp_lt tgt hd ht (fun h => kt (ni_lt ha hb h)) (fun h => kf (ni_nlt ha hb h))
theorem n_if_lt {a : Nat} {off : Int} (tgt : Nat) (hd : decode M.2.1 pc = .ok (.ifCond .lt off, 3)) (ht : (pc : Int) + off = (tgt : Int)) (ha : a < 2 ^ 31) (kt : a < 0 → WP M d b0 Po Px G bc bs tgt lv st) (kf : 0 ≤ a → WP M d b0 Po Px G bc bs (pc + 3) lv st) : WP M d b0 Po Px G bc bs pc lv (.int (nI a) :: st) := r_if_lt tgt hd ht (fun h => kt (ni_lt ha (by decide) (show nI a < nI 0 from h))) (fun h => kf (ni_nlt ha (by decide) (show ¬ nI a < nI 0 from h)))
theorem n_icmp_ge {a b : Nat} {off : Int} (tgt : Nat) (hd : decode M.2.1 pc = .ok (.if_icmp .ge off, 3)) (ht : (pc : Int) + off = (tgt : Int)) (ha : a < 2 ^ 31) (hb : b < 2 ^ 31) (kt : b ≤ a → WP M d b0 Po Px G bc bs tgt lv st) (kf : a < b → WP M d b0 Po Px G bc bs (pc + 3) lv st) : WP M d b0 Po Px G bc bs pc lv (.int (nI b) :: .int (nI a) :: st) := r_icmp_ge tgt hd ht (fun h => kt (ni_le hb ha h)) (fun h => kf (ni_nle hb ha h))
theorem n_if_ge {a : Nat} {off : Int} (tgt : Nat) (hd : decode M.2.1 pc = .ok (.ifCond .ge off, 3)) (ht : (pc : Int) + off = (tgt : Int)) (ha : a < 2 ^ 31) (kt : 0 ≤ a → WP M d b0 Po Px G bc bs tgt lv st) (kf : a < 0 → WP M d b0 Po Px G bc bs (pc + 3) lv st) : WP M d b0 Po Px G bc bs pc lv (.int (nI a) :: st) := r_if_ge tgt hd ht (fun h => kt (ni_le (by decide) ha (show nI 0 ≤ nI a from h))) (fun h => kf (ni_nle (by decide) ha (show ¬ nI 0 ≤ nI a from h)))
theorem n_icmp_gt {a b : Nat} {off : Int} (tgt : Nat) (hd : decode M.2.1 pc = .ok (.if_icmp .gt off, 3)) (ht : (pc : Int) + off = (tgt : Int)) (ha : a < 2 ^ 31) (hb : b < 2 ^ 31) (kt : b < a → WP M d b0 Po Px G bc bs tgt lv st) (kf : a ≤ b → WP M d b0 Po Px G bc bs (pc + 3) lv st) : WP M d b0 Po Px G bc bs pc lv (.int (nI b) :: .int (nI a) :: st) := r_icmp_gt tgt hd ht (fun h => kt (ni_lt hb ha h)) (fun h => kf (ni_nlt hb ha h))
theorem n_if_gt {a : Nat} {off : Int} (tgt : Nat) (hd : decode M.2.1 pc = .ok (.ifCond .gt off, 3)) (ht : (pc : Int) + off = (tgt : Int)) (ha : a < 2 ^ 31) (kt : 0 < a → WP M d b0 Po Px G bc bs tgt lv st) (kf : a ≤ 0 → WP M d b0 Po Px G bc bs (pc + 3) lv st) : WP M d b0 Po Px G bc bs pc lv (.int (nI a) :: st) := r_if_gt tgt hd ht (fun h => kt (ni_lt (by decide) ha (show nI 0 < nI a from h))) (fun h => kf (ni_nlt (by decide) ha (show ¬ nI 0 < nI a from h)))
theorem n_icmp_le {a b : Nat} {off : Int} (tgt : Nat) (hd : decode M.2.1 pc = .ok (.if_icmp .le off, 3)) (ht : (pc : Int) + off = (tgt : Int)) (ha : a < 2 ^ 31) (hb : b < 2 ^ 31) (kt : a ≤ b → WP M d b0 Po Px G bc bs tgt lv st) (kf : b < a → WP M d b0 Po Px G bc bs (pc + 3) lv st) : WP M d b0 Po Px G bc bs pc lv (.int (nI b) :: .int (nI a) :: st) := r_icmp_le tgt hd ht (fun h => kt (ni_le ha hb h)) (fun h => kf (ni_nle ha hb h))
theorem n_if_le {a : Nat} {off : Int} (tgt : Nat) (hd : decode M.2.1 pc = .ok (.ifCond .le off, 3)) (ht : (pc : Int) + off = (tgt : Int)) (ha : a < 2 ^ 31) (kt : a ≤ 0 → WP M d b0 Po Px G bc bs tgt lv st) (kf : 0 < a → WP M d b0 Po Px G bc bs (pc + 3) lv st) : WP M d b0 Po Px G bc bs pc lv (.int (nI a) :: st) := r_if_le tgt hd ht (fun h => kt (ni_le ha (by decide) (show nI a ≤ nI 0 from h))) (fun h => kf (ni_nle ha (by decide) (show ¬ nI a ≤ nI 0 from h)))
theorem n_bif_eq {x : Bool} {off : Int} (tgt : Nat) (hd : decode M.2.1 pc = .ok (.ifCond .eq off, 3)) (ht : (pc : Int) + off = (tgt : Int)) (kt : x = false → WP M d b0 Po Px G bc bs tgt lv st) (kf : x = true → WP M d b0 Po Px G bc bs (pc + 3) lv st) : WP M d b0 Po Px G bc bs pc lv (.int (b2i x) :: st) := r_if_eq tgt hd ht (fun h => kt (b2i_e0 h)) (fun h => kf (b2i_ne0 h))
theorem n_bif_ne {x : Bool} {off : Int} (tgt : Nat) (hd : decode M.2.1 pc = .ok (.ifCond .ne off, 3)) (ht : (pc : Int) + off = (tgt : Int)) (kt : x = true → WP M d b0 Po Px G bc bs tgt lv st) (kf : x = false → WP M d b0 Po Px G bc bs (pc + 3) lv st) : WP M d b0 Po Px G bc bs pc lv (.int (b2i x) :: st) := r_if_ne tgt hd ht (fun h => kt (b2i_ne0 h)) (fun h => kf (b2i_e0 h))
end NRU
