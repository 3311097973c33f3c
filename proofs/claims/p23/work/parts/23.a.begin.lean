theorem in_dcl : ∀ y ∈ cx_dcl, Cond.declares y ∈ lw_tbl := by decide +kernel
theorem in_nest : ∀ t ∈ cx_nest, Cond.methodLinkNest t.1 t.2.1 t.2.2.1 t.2.2.2 ∈ lw_tbl := by decide +kernel
theorem in_exc : ∀ E ∈ cx_exc, Cond.castable E E ∈ lw_tbl := by decide +kernel
theorem in_aov : ∀ C ∈ cx_aov, Cond.arrayOver (.object C) ∈ lw_tbl := by decide +kernel
theorem in_strs : ∀ t ∈ cx_strs, Cond.stringRef t.1 t.2.1 t.2.2 ∈ lw_tbl ∧ t.1 = RX8 := by decide +kernel
def fl_g : List Cond := flatC (Jvm.Cond.and given_1 narrow_1)
theorem in_nc : ∀ t ∈ cx_nc, Cond.not (.castable t.1 t.2) ∈ fl_g := by decide +kernel
theorem in_z1 : Cond.isRef (.static Bundle.tN "UNASSIGNED_STACK" Bundle.steD) ∈ fl_g := by decide +kernel
theorem in_z2 : Cond.isRef (.static Bundle.tN "SUPPRESSED_SENTINEL" Bundle.listD) ∈ fl_g := by decide +kernel
theorem in_w1 : Cond.laysStatic Bundle.tN "UNASSIGNED_STACK" Bundle.steD ∈ lw_tbl := by decide +kernel
theorem in_w2 : Cond.laysStatic Bundle.tN "SUPPRESSED_SENTINEL" Bundle.listD ∈ lw_tbl := by decide +kernel
theorem in_w3 : Cond.initialized Bundle.tN ∈ lw_tbl := by decide +kernel
theorem in_c0 : Cond.instantiable RX0 3 ∈ lw_tbl := by decide +kernel
theorem in_c1 : Cond.instantiable RX1 2 ∈ lw_tbl := by decide +kernel
theorem in_c2 : Cond.instantiable RX2 2 ∈ lw_tbl := by decide +kernel
theorem in_c3 : Cond.instantiable RX3 2 ∈ lw_tbl := by decide +kernel
theorem in_c4 : Cond.instantiable RX4 3 ∈ lw_tbl := by decide +kernel
theorem in_c5 : Cond.instantiable RX5 2 ∈ lw_tbl := by decide +kernel
theorem in_c6 : Cond.instantiable RX6 2 ∈ lw_tbl := by decide +kernel
theorem in_c7 : Cond.instantiable RX7 4 ∈ lw_tbl := by decide +kernel
theorem in_c8 : Cond.instantiable RX8 11 ∈ lw_tbl := by decide +kernel
theorem begins {s : State} {b : Nat} (hts : ∀ w ∈ lw_tbl, w.before #[Value.ref b] s = true) (hg : (Jvm.Cond.and given_1 narrow_1).before #[Value.ref b] s = true) : ∃ D : va_G, cx_K D s.heap.size s := by
  have htb : ∀ w ∈ cx_tb, w.before #[Value.ref b] s = true := fun w hw => hts w (List.mem_filter.mp hw).1
  have hf : ∀ w ∈ fl_g, w.before #[Value.ref b] s = true := flat_of_before _ hg
  obtain ⟨c0, i0, k0⟩ := u_known (C := RX0) (T := TX0) (N := 3) (n := 3) htb wi_0 (hts _ in_c0)
  obtain ⟨c1, i1, k1⟩ := u_known (C := RX1) (T := TX1) (N := 2) (n := 2) htb wi_1 (hts _ in_c1)
  obtain ⟨c2, i2, k2⟩ := u_known (C := RX2) (T := TX2) (N := 2) (n := 2) htb wi_2 (hts _ in_c2)
  obtain ⟨c3, i3, k3⟩ := u_known (C := RX3) (T := TX3) (N := 2) (n := 2) htb wi_3 (hts _ in_c3)
  obtain ⟨c4, i4, k4⟩ := u_known (C := RX4) (T := TX4) (N := 3) (n := 3) htb wi_4 (hts _ in_c4)
  obtain ⟨c5, i5, k5⟩ := u_known (C := RX5) (T := TX5) (N := 2) (n := 2) htb wi_5 (hts _ in_c5)
  obtain ⟨c6, i6, k6⟩ := u_known (C := RX6) (T := TX6) (N := 2) (n := 2) htb wi_6 (hts _ in_c6)
  obtain ⟨c7, i7, k7⟩ := u_known (C := RX7) (T := TX7) (N := 4) (n := 4) htb wi_7 (hts _ in_c7)
  obtain ⟨c8, i8, k8⟩ := u_known (C := RX8) (T := TX8) (N := 11) (n := 11) htb wi_8 (hts _ in_c8)
  refine ⟨(fun k => match k with | 0 => c0 | 1 => c1 | 2 => c2 | 3 => c3 | 4 => c4 | 5 => c5 | 6 => c6 | 7 => c7 | _ => c8, fun k => match k with | 0 => i0 | 1 => i1 | 2 => i2 | 3 => i3 | 4 => i4 | 5 => i5 | 6 => i6 | 7 => i7 | _ => i8), ⟨fun k q hq => ?_, fun k q hq => by simp at hq⟩, Nat.le_refl _, ⟨fun y hy => va_Nw.of rfl (hts _ (in_dcl y hy)), fun t ht => va_Nw.of rfl (hts _ (in_nest t ht)), fun E hE => va_Nw.of rfl (hts _ (in_exc E hE)), fun t ht => va_Nc.of (hf _ (in_nc t ht)), fun C hC => va_AO.of (hts _ (in_aov C hC)), fun t ht => ?_⟩, vx_Zqof (hts _ in_w1) (hts _ in_w3) (hf _ in_z1) (fun a h q => absurd h (Nat.not_lt.mpr q)), vx_Zqof (hts _ in_w2) (hts _ in_w3) (hf _ in_z2) (fun a h q => absurd h (Nat.not_lt.mpr q))⟩
  · match k, hq with
    | 0, hq => cases hq; exact k0
    | 1, hq => cases hq; exact k1
    | 2, hq => cases hq; exact k2
    | 3, hq => cases hq; exact k3
    | 4, hq => cases hq; exact k4
    | 5, hq => cases hq; exact k5
    | 6, hq => cases hq; exact k6
    | 7, hq => cases hq; exact k7
    | 8, hq => cases hq; exact k8
    | k + 9, hq => simp [vwCl] at hq
  · obtain ⟨h1, h2⟩ := in_strs t ht
    have hw := hts _ h1
    have hfc : s.vm.findClass t.1 = some c8 := by rw [h2]; exact k8.2.1
    obtain ⟨-, -, -, a, -, -, -, -, -, hev⟩ := Cond.stringRef_spec hfc hw
    exact ⟨a, vk_R.of hw hev⟩
theorem newL {s t : State} {L : List Loc} {k n : Nat} (h : s.sameButNew t L k n) (hL : ∀ z ∈ L, s.heap.size ≤ z.base) : s.sameButNew t [] k n := by
  obtain ⟨h1, h2, h3, h4, h5, h6⟩ := h
  refine ⟨h1, h2, h3, h4, h5, fun a c ha => ?_⟩
  obtain ⟨c', g1, g2, g3, g4⟩ := h6 a c ha
  refine ⟨c', g1, g2, g3, fun i _ => g4 i (fun hm => ?_)⟩
  have h7 := hL _ hm
  have h8 := (Array.getElem?_eq_some_iff.mp ha).1
  exact absurd h7 (Nat.not_le.mpr h8)
