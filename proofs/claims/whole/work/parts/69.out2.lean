/-! BOTH SIDES: judge, campaigns, plan -/
section OUT2
variable {M M1 N : ab_M} {n s : Nat} {ln gd pc kd : Nat → Nat} {k z a t : Nat}
theorem dig {b : Nat} (hb : b < 1000) : nI b / 100 = nI (b / 100) ∧ nI b / 10 - nI b / 10 / 10 * 10 = nI (b / 10 % 10) ∧ nI b - nI b / 10 * 10 = nI (b % 10) := by
  refine ⟨pk_div (d := 100) (by omega) (by omega) (by omega), ?_, pk_rem (d := 10) (by omega) (by omega) (by omega)⟩
  rw [show nI b / 10 = nI (b / 10) from pk_div (d := 10) (by omega) (by omega) (by omega)]
  exact pk_rem (d := 10) (by omega) (by omega) (by omega)
theorem nI_lit {e v : Nat} (he : e < 10) (hv : v < 10) : (nI e = nI v) ↔ e = v := nI_eq (by omega) (by omega)
/-- a doing is the same, if it can be -/
theorem ds_N (hX : XE M n s ln gd pc kd) (hM : ME N n s ln gd pc kd) (hN : NE n s ln gd pc kd) {r : mr_T} {P : Nat → Int32} {d b : Nat} (hR : PR r P) (hW : PW n (bn ln s) d P) (hk : MK n r.2.2.1 31) (hb : b < 1000) : ((ds_X M r (nI (b / 100)) (nI (b / 10 % 10)) (nI (b % 10))).1 = 0 ↔ (do_M N n s b P).1 = 0) ∧ (¬ (do_M N n s b P).1 = 0 → PR (ds_X M r (nI (b / 100)) (nI (b / 10 % 10)) (nI (b % 10))).2 (do_M N n s b P).2 ∧ PW n (bn ln s) (d + 1) (do_M N n s b P).2 ∧ (ds_X M r (nI (b / 100)) (nI (b / 10 % 10)) (nI (b % 10))).2.2.2.1 = r.2.2.1) := by
  have hn := hN.1.1
  have l : ∀ v, v < 10 → ((nI (b / 100) = nI v) ↔ b / 100 = v) := fun v hv => nI_lit (by omega) hv
  have l0 : (nI (b / 100) = 0) ↔ b / 100 = 0 := l 0 (by omega)
  have l1 : (nI (b / 100) = 1) ↔ b / 100 = 1 := l 1 (by omega)
  have l2 : (nI (b / 100) = 2) ↔ b / 100 = 2 := l 2 (by omega)
  have l3 : (nI (b / 100) = 3) ↔ b / 100 = 3 := l 3 (by omega)
  have l4 : (nI (b / 100) = 4) ↔ b / 100 = 4 := l 4 (by omega)
  have l5 : (nI (b / 100) = 5) ↔ b / 100 = 5 := l 5 (by omega)
  have l6 : (nI (b / 100) = 6) ↔ b / 100 = 6 := l 6 (by omega)
  have m0 : (nI (b / 10 % 10) = 0) ↔ b / 10 % 10 = 0 := nI_lit (v := 0) (by omega) (by omega)
  have e0 : (nI (b % 10) = 0) ↔ b % 10 = 0 := nI_lit (v := 0) (by omega) (by omega)
  have mo := fun d' (h : d ≤ d') => PW_mo h hW
  unfold ds_X do_M
  by_cases c5 : b / 100 = 5
  · rw [if_pos (l5.mpr c5), if_neg (by omega : ¬ b = 0), if_neg (by omega : ¬ b = 100), if_pos c5]
    have key : (nI (b / 10 % 10) < M.1 8 3 ∧ ¬ tf_X r.2.2.2 (nI (b / 10 % 10)) < nI (b % 10)) ↔ (b / 10 % 10 < n ∧ ¬ P (2 + b / 10 % 10) < nI (b % 10)) := by
      rw [hX.1.1, nI_ltI (by omega) (by omega)]
      constructor
      · rintro ⟨h1, h2⟩
        refine ⟨h1, ?_⟩
        unfold tf_X at h2
        rw [if_pos ⟨nI_pos (by omega), nI_lt (b := 5) (by omega) (by omega)⟩, nI_clamp (by omega), hR.2.2 _ (by omega)] at h2
        exact h2
      · rintro ⟨h1, h2⟩
        refine ⟨h1, ?_⟩
        unfold tf_X
        rw [if_pos ⟨nI_pos (by omega), nI_lt (b := 5) (by omega) (by omega)⟩, nI_clamp (by omega), hR.2.2 _ (by omega)]
        exact h2
    by_cases c : b / 10 % 10 < n ∧ ¬ P (2 + b / 10 % 10) < nI (b % 10)
    · rw [if_pos c, if_pos (key.mpr c)]
      exact ⟨Iff.rfl, fun _ => ⟨hR, mo _ (by omega), rfl⟩⟩
    · rw [if_neg c, if_neg (fun hx => c (key.mp hx))]
      exact ⟨Iff.rfl, fun h => absurd rfl h⟩
  rw [if_neg (fun hx => c5 (l5.mp hx))]
  by_cases c6 : b / 100 = 6
  · rw [if_pos (l6.mpr c6), if_neg (by omega : ¬ b = 0), if_neg (by omega : ¬ b = 100), if_neg c5, if_pos c6, hR.1]
    split
    · exact ⟨Iff.rfl, fun h => absurd rfl h⟩
    · exact ⟨Iff.rfl, fun _ => ⟨hR, mo _ (by omega), rfl⟩⟩
  rw [if_neg (fun hx => c6 (l6.mp hx))]
  by_cases cm : b / 10 % 10 = 0
  · rw [if_pos (m0.mpr cm)]
    have dz : ∀ (v : Int32) (q : mr_T), ((if v = 0 then (0 : Int32) else 1) = 0) ↔ v = 0 := fun v q => by
      by_cases h : v = 0
      · rw [if_pos h]
        exact ⟨fun _ => h, fun _ => rfl⟩
      · rw [if_neg h]
        exact ⟨fun hx => absurd hx (by decide), fun hx => absurd hx h⟩
    dsimp only
    rw [dz _ r]
    unfold dp_X
    by_cases c0 : b / 100 = 0
    · rw [if_pos (l0.mpr c0)]
      by_cases ce : b % 10 = 0
      · rw [if_pos (e0.mpr ce), if_pos (by omega : b = 0)]
        obtain ⟨_, h1, h2⟩ := dy_N hX hM hN hR hW hk
        exact ⟨Iff.rfl, fun _ => ⟨h1, h2, rfl⟩⟩
      · rw [if_neg (fun hx => ce (e0.mp hx)), if_neg (by omega : ¬ b = 0), if_neg (by omega : ¬ b = 100), if_neg c5, if_neg c6, if_neg (show ¬ ¬ b / 10 % 10 = 0 from fun hx => hx cm), if_neg (by omega : ¬ b / 100 = 2), if_neg (by omega : ¬ b / 100 = 3), if_neg (by omega : ¬ b / 100 = 4)]
        exact ⟨Iff.rfl, fun h => absurd rfl h⟩
    rw [if_neg (fun hx => c0 (l0.mp hx)), if_neg (by omega : ¬ b = 0)]
    by_cases c1 : b / 100 = 1
    · rw [if_pos (l1.mpr c1)]
      by_cases ce : b % 10 = 0
      · rw [if_pos (e0.mpr ce), if_pos (by omega : b = 100)]
        obtain ⟨h1, h2⟩ := st_N hX hM hN hR hW
        exact ⟨Iff.rfl, fun _ => ⟨h1, h2, rfl⟩⟩
      · rw [if_neg (fun hx => ce (e0.mp hx)), if_neg (by omega : ¬ b = 100), if_neg c5, if_neg c6, if_neg (show ¬ ¬ b / 10 % 10 = 0 from fun hx => hx cm), if_neg (by omega : ¬ b / 100 = 2), if_neg (by omega : ¬ b / 100 = 3), if_neg (by omega : ¬ b / 100 = 4)]
        exact ⟨Iff.rfl, fun h => absurd rfl h⟩
    rw [if_neg (fun hx => c1 (l1.mp hx)), if_neg (by omega : ¬ b = 100), if_neg c5, if_neg c6, if_neg (show ¬ ¬ b / 10 % 10 = 0 from fun hx => hx cm)]
    by_cases c2 : b / 100 = 2
    · rw [if_pos (l2.mpr c2), if_pos c2]
      obtain ⟨h1, h2, h3⟩ := pr_D hX hN hR hW (e := b % 10) (by omega)
      by_cases c : b % 10 < n ∧ P (2 + b % 10) < 9
      · rw [if_pos c] at h2 h3 ⊢
        rw [if_pos (h1.mpr c)]
        exact ⟨Iff.rfl, fun _ => ⟨h2, PW_mo (by omega) h3, rfl⟩⟩
      · rw [if_neg c, if_neg (fun hx => c (h1.mp hx))]
        exact ⟨Iff.rfl, fun h => absurd rfl h⟩
    rw [if_neg (fun hx => c2 (l2.mp hx)), if_neg c2]
    by_cases c3 : b / 100 = 3
    · rw [if_pos (l3.mpr c3), if_pos c3]
      obtain ⟨h1, h2, h3⟩ := ea_D hX hN hR hW (e := b % 10) (by omega)
      by_cases c : b % 10 < n ∧ 0 < P (2 + b % 10)
      · rw [if_pos c] at h2 h3 ⊢
        rw [if_pos (h1.mpr c)]
        exact ⟨Iff.rfl, fun _ => ⟨h2, PW_mo (by omega) h3, rfl⟩⟩
      · rw [if_neg c, if_neg (fun hx => c (h1.mp hx))]
        exact ⟨Iff.rfl, fun h => absurd rfl h⟩
    rw [if_neg (fun hx => c3 (l3.mp hx)), if_neg c3]
    by_cases c4 : b / 100 = 4
    · rw [if_pos (l4.mpr c4), if_pos c4, (ld_eq hX hM hN hR.2.2 hk).1]
      split
      · exact ⟨Iff.rfl, fun _ => ⟨hR, mo _ (by omega), rfl⟩⟩
      · exact ⟨Iff.rfl, fun h => absurd rfl h⟩
    rw [if_neg (fun hx => c4 (l4.mp hx)), if_neg c4]
    exact ⟨Iff.rfl, fun h => absurd rfl h⟩
  · rw [if_neg (fun hx => cm (m0.mp hx)), if_neg (by omega : ¬ b = 0), if_neg (by omega : ¬ b = 100), if_neg c5, if_neg c6, if_pos cm]
    exact ⟨Iff.rfl, fun h => absurd rfl h⟩
theorem fi_N (hX : XE M n s ln gd pc kd) (hM : ME N n s ln gd pc kd) (hN : NE n s ln gd pc kd) {g : Nat → Int32} {q m : Nat} (hg : ∀ i, i < m → g i = nI (q / 1000 ^ (m - 1 - i) % 1000)) : ∀ (j i : Nat) {r : mr_T} {P : Nat → Int32} {d : Nat}, i + j = m → PR r P → PW n (bn ln s) d P → MK n r.2.2.1 31 → fi_l M g j i r = ju_l N n s q m j i P
  | 0, _, _, _, _, _, _, _, _ => rfl
  | j + 1, i, r, P, d, hi, hR, hW, hk => by
    have hb : q / 1000 ^ (m - 1 - i) % 1000 < 1000 := Nat.mod_lt _ (by omega)
    unfold fi_l ju_l
    rw [hg i (by omega)]
    generalize q / 1000 ^ (m - 1 - i) % 1000 = b at hb ⊢
    obtain ⟨d1, d2, d3⟩ := dig hb
    rw [d1, d2, d3]
    obtain ⟨h1, h2⟩ := ds_N hX hM hN hR hW hk hb
    by_cases c : (do_M N n s b P).1 = 0
    · rw [if_pos c, if_pos (h1.mpr c)]
    · rw [if_neg c, if_neg (fun hx => c (h1.mp hx))]
      obtain ⟨h3, h4, h5⟩ := h2 c
      exact fi_N hX hM hN hg j (i + 1) (by omega) h3 h4 (by rw [h5]; exact hk)
theorem lf_N {q : Nat} (hq : q < 2 ^ 63) : ∀ k, lf_X (lN q) k = lN (q / 1000 ^ k)
  | 0 => by simp [lf_X]
  | k + 1 => by
    unfold lf_X
    have h1 : q / 1000 ^ k ≤ q := Nat.div_le_self _ _
    rw [lf_N hq k, show (1000 : Int64) = lN 1000 from rfl, pk_lDiv (by omega) (by omega) (by omega), Nat.div_div_eq_div_mul, Nat.pow_succ]
theorem dg_N {q m i : Nat} (hq : q < 2 ^ 63) : dg_X (lN q) m i = nI (q / 1000 ^ (m - 1 - i) % 1000) := by
  have h1 : q / 1000 ^ (m - 1 - i) ≤ q := Nat.div_le_self _ _
  unfold dg_X
  rw [lf_N hq, show lN (q / 1000 ^ (m - 1 - i)) - lN (q / 1000 ^ (m - 1 - i)) / 1000 * 1000 = lN (q / 1000 ^ (m - 1 - i) % 1000) from pk_lRem (b := 1000) (by omega) (by omega) (by omega), lN_i]
theorem jl_N : ∀ m, m < 5 → 1 ≤ m → jl_X (nI m) = lN (1000 ^ m) := by decide +kernel
theorem w_judge {x : Int32} {u : Int64} (hk : k + 1 ≤ 1000) (h : RLK k M) : CX s_X8_judge s_X9_judge [.ref 0, .int x, .long u] [.ref 30, .int x, .long u] k M := by
  obtain ⟨_, n, s, ln, gd, pc, kd, z, a, t, hR⟩ := h
  have hR0 := hR
  obtain ⟨hN, hX, hM, hT, hW, hA, hP, hD, hS⟩ := hR
  intro Po hK
  have fin := fin_t0 SX_rf SM_rf rfl hk hR0
  have bad : ¬ ((¬ x < 1 ∧ ¬ 4 < x) ∧ (¬ u < 0 ∧ ¬ lw_M 1000 x.toNatClampNeg - 1 < u)) → Po (some (.int (-2))) M := fun hb => by
    refine hK _ _ (fun Po' hP' => ⟨n, s, ct_N hM hN, ?_⟩)
    by_cases c1 : ¬ x < 1 ∧ ¬ 4 < x
    · rw [if_pos c1, if_neg (fun c3 => hb ⟨c1, c3⟩)]
      exact hP' _ fin
    · rw [if_neg c1]
      exact hP' _ fin
  show if x < 1 then _ else _
  by_cases c1 : x < 1
  · rw [if_pos c1]
    exact bad (fun hx => hx.1.1 c1)
  rw [if_neg c1]
  by_cases c2 : 4 < x
  · rw [if_pos c2]
    exact bad (fun hx => hx.1.2 c2)
  rw [if_neg c2]
  by_cases c3 : u < 0
  · rw [if_pos c3]
    exact bad (fun hx => hx.2.1 c3)
  rw [if_neg c3]
  obtain ⟨m, m1, m4, rfl⟩ := nI_le4 ⟨c1, c2⟩
  obtain ⟨q, hq, rfl⟩ := pk_lOf c3
  have hp : 1000 ^ m ≤ 1000 ^ 4 := Nat.pow_le_pow_right (by omega) m4
  have hp0 : 0 < 1000 ^ m := Nat.pow_pos (by omega)
  have ecl : (nI m).toNatClampNeg = m := nI_clamp (by omega)
  have el : lw_M 1000 (nI m).toNatClampNeg - 1 = lN (1000 ^ m - 1) := by
    rw [ecl, lw_N, show (1 : Int64) = lN 1 from rfl, lN_sub (by omega)]
  have iff1 : (¬ lw_M 1000 (nI m).toNatClampNeg - 1 < lN q) ↔ q < 1000 ^ m := by
    rw [el, pk_lLT (by omega) (by omega)]
    omega
  rw [jl_N m (by omega) m1]
  by_cases c4 : q < 1000 ^ m
  · rw [if_pos ((pk_lLT (by omega) (by omega)).mpr c4)]
    intro g r
    refine hK _ _ (fun Po' hP' => ⟨n, s, ct_N (ME_s SM_18 (ME_s SM_17 hM)) hN, ?_⟩)
    rw [if_pos ⟨c1, c2⟩, if_pos ⟨c3, iff1.mpr c4⟩]
    intro m' r' hm' hr' em er N hj
    have e1 : m' = m := ((nI_eq (by omega) (by omega)).mp em).symm
    have e2 : r' = q := ((pk_lEQ hq hr').mp er).symm
    subst e1
    subst e2
    rw [show (t0 (mws (wt M 17 g) 18 r)).1 38 = M.1 38 from rfl, ← fi_N hX (ME_s SM_t0 (ME_s SM_18 (ME_s SM_17 hM))) hN (g := dg_X (lN r') m') (fun i _ => dg_N hq) m' 0 (by omega) hW.2.1 hW.2.2 (nw_k hN)]
    rw [ecl] at hP'
    exact hP' _ (fin_jj (SX_tr SX_17 SX_18) (SM_tr SM_17 SM_18) rfl hk hR0 hj)
  · rw [if_neg (fun hx => c4 ((pk_lLT (by omega) (by omega)).mp hx))]
    exact bad (fun hx => c4 (iff1.mp hx.2.2))
theorem mb_N (hX : XE M n s ln gd pc kd) (hM : ME N n s ln gd pc kd) (hN : NE n s ln gd pc kd) {r : mr_T} {P : Nat → Int32} {d c : Nat} (hR : PR r P) (hW : PW n (bn ln s) d P) (hk : MK n r.2.2.1 31) (hc : c < 20) : PR (mb_X M r (nI c)) (do_M N n s (ld_3 c) P).2 ∧ PW n (bn ln s) (d + 1) (do_M N n s (ld_3 c) P).2 ∧ (mb_X M r (nI c)).2.2.1 = r.2.2.1 := by
  unfold mb_X ld_3
  by_cases c1 : c < 5
  · rw [if_pos (show nI c < 5 from nI_lt (b := 5) c1 (by omega)), if_pos c1]
    unfold do_M
    rw [if_neg (by omega), if_neg (by omega), if_neg (by omega), if_neg (by omega), if_neg (by omega), if_pos (by omega), show (200 + c) % 10 = c by omega]
    obtain ⟨h1, h2, h3⟩ := pr_D hX hN hR hW (e := c) (by omega)
    by_cases c9 : c < n ∧ P (2 + c) < 9
    · rw [if_pos c9] at h2 h3 ⊢
      exact ⟨h2, PW_mo (by omega) h3, rfl⟩
    · rw [if_neg c9] at h2 h3 ⊢
      exact ⟨h2, PW_mo (by omega) h3, rfl⟩
  rw [if_neg (show ¬ nI c < 5 from nI_nlt (b := 5) (by omega) (by omega)), if_neg c1]
  by_cases c2 : c < 10
  · rw [if_pos (show nI c < 10 from nI_lt (b := 10) c2 (by omega)), if_pos c2, show nI c - 5 = nI (c - 5) from pk_sub (b := 5) (by omega)]
    unfold do_M
    rw [if_neg (by omega), if_neg (by omega), if_neg (by omega), if_neg (by omega), if_neg (by omega), if_neg (by omega), if_pos (by omega), show (295 + c) % 10 = c - 5 by omega]
    obtain ⟨h1, h2, h3⟩ := ea_D hX hN hR hW (e := c - 5) (by omega)
    by_cases c9 : c - 5 < n ∧ 0 < P (2 + (c - 5))
    · rw [if_pos c9] at h2 h3 ⊢
      exact ⟨h2, PW_mo (by omega) h3, rfl⟩
    · rw [if_neg c9] at h2 h3 ⊢
      exact ⟨h2, PW_mo (by omega) h3, rfl⟩
  rw [if_neg (show ¬ nI c < 10 from nI_nlt (b := 10) (by omega) (by omega)), if_neg c2]
  by_cases c3 : c = 10
  · rw [if_pos (by rw [c3]; rfl), if_pos c3]
    unfold do_M
    rw [if_neg (by omega), if_pos rfl]
    obtain ⟨h1, h2⟩ := st_N hX hM hN hR hW
    exact ⟨h1, h2, rfl⟩
  · rw [if_neg (show ¬ nI c = 10 from fun hx => c3 ((nI_eq (b := 10) (by omega) (by omega)).mp hx)), if_neg c3]
    unfold do_M
    rw [if_pos rfl]
    obtain ⟨_, h1, h2⟩ := dy_N hX hM hN hR hW hk
    exact ⟨h1, h2, rfl⟩
theorem cm_N (hX : XE M n s ln gd pc kd) (hM : ME N n s ln gd pc kd) (hN : NE n s ln gd pc kd) : ∀ (j : Nat) (u : Int64) (v : Int32) {r : mr_T} {P : Nat → Int32} {d : Nat}, PR r P → PW n (bn ln s) d P → MK n r.2.2.1 31 → cm_l M sd_X lt_X j u r v = cs_l N n s sd_X b3_M j u P v
  | 0, _, _, _, _, _, _, _, _ => rfl
  | j + 1, u, v, r, P, d, hR, hW, hk => by
    obtain ⟨c, hc, e⟩ := lt_N (sd_X u)
    unfold cm_l cs_l
    have hb3 : b3_M (sd_X u) = ld_3 c := by
      unfold b3_M
      rw [e, nI_clamp (by omega)]
    rw [hb3, e]
    obtain ⟨h1, h2, h3⟩ := mb_N hX hM hN hR hW hk hc
    rw [h1.1]
    exact cm_N hX hM hN j _ _ h1 h2 (by rw [h3]; exact hk)
theorem w_campaigns {x : Int32} (hk : k + 1 ≤ 1000) (h : RLK k M) : CX s_X8_campaigns s_X9_campaigns [.ref 0, .int x] [.ref 30, .int x] k M := by
  obtain ⟨_, n, s, ln, gd, pc, kd, z, a, t, hR⟩ := h
  have hR0 := hR
  obtain ⟨hN, hX, hM, hT, hW, hA, hP, hD, hS⟩ := hR
  intro Po hK
  have fin := fin_t0 SX_rf SM_rf rfl hk hR0
  have bad : ¬ (¬ x < 1 ∧ ¬ 30 < x) → Po (some (.int (-2))) M := fun hb => by
    refine hK _ _ (fun Po' hP' => ⟨n, s, ct_N hM hN, ?_⟩)
    rw [if_neg hb]
    exact hP' _ fin
  show if x < 1 then _ else _
  by_cases c1 : x < 1
  · rw [if_pos c1]
    exact bad (fun hx => hx.1 c1)
  rw [if_neg c1]
  by_cases c2 : 30 < x
  · rw [if_pos c2]
    exact bad (fun hx => hx.2 c2)
  rw [if_neg c2]
  intro r
  generalize hu : cm_l M sd_X lt_X x.toNatClampNeg (M.2 0 9) (nw_X M) 0 = w
  have sx : SX M (cw_X M r w.2) := ⟨⟨rfl, rfl, rfl, rfl, rfl, rfl, rfl, rfl, rfl⟩, ⟨rfl, rfl⟩, ⟨rfl, rfl, rfl, rfl⟩, ⟨rfl, rfl⟩, rfl, ⟨rfl, rfl, rfl, rfl⟩⟩
  have sm : SM M (cw_X M r w.2) := ⟨⟨rfl, rfl, rfl, rfl, rfl, rfl, rfl⟩, ⟨rfl, rfl⟩, rfl, ⟨rfl, rfl⟩, ⟨rfl, rfl⟩, ⟨rfl, rfl, rfl, rfl⟩⟩
  have key : cs_l (t0 (cw_X M r w.2)) n s sd_X b3_M x.toNatClampNeg ((cw_X M r w.2).2 30 26) ((t0 (cw_X M r w.2)).1 38) 0 = w := by
    have h1 := cm_N hX (ME_s SM_t0 (ME_s sm hM)) hN x.toNatClampNeg (M.2 0 9) 0 hW.2.1 hW.2.2 (nw_k hN)
    rw [hu] at h1
    rw [show (cw_X M r w.2).2 30 26 = M.2 0 9 from hS.symm]
    exact h1.symm
  refine hK _ _ (fun Po' hP' => ⟨n, s, ct_N (ME_s sm hM) hN, ?_⟩)
  rw [if_pos ⟨c1, c2⟩, key]
  intro N hj
  have sx2 : SX (cw_X M r w.2) (sw_M (t0 (cw_X M r w.2)) w.2) := ⟨⟨rfl, rfl, rfl, rfl, rfl, rfl, rfl, rfl, rfl⟩, ⟨rfl, rfl⟩, ⟨rfl, rfl, rfl, rfl⟩, ⟨rfl, rfl⟩, rfl, ⟨rfl, rfl, rfl, rfl⟩⟩
  have sm2 : SM (cw_X M r w.2) (sw_M (t0 (cw_X M r w.2)) w.2) := ⟨⟨rfl, rfl, rfl, rfl, rfl, rfl, rfl⟩, ⟨rfl, rfl⟩, rfl, ⟨rfl, rfl⟩, ⟨rfl, rfl⟩, ⟨rfl, rfl, rfl, rfl⟩⟩
  refine hP' _ ⟨hk, n, s, ln, gd, pc, kd, z, a, t, RQ_s (SX_tr sx (SX_tr sx2 (SX_jj hj))) (SM_tr sm (SM_tr sm2 (SM_jj hj))) ?_ hR0⟩
  unfold SD
  rw [SL_jj hj]
  rfl
end OUT2
