/-! BOTH SIDES: calls that ask -/
section CALLS2
variable {M M1 N : ab_M} {n s : Nat} {ln gd pc kd : Nat → Nat} {k z a t : Nat}
theorem nw_k (hN : NE n s ln gd pc kd) : MK n (nw_X M).2.2.1 31 := MK_all hN.1.1
theorem sa_eq (hX : XE M n s ln gd pc kd) (hM : ME N n s ln gd pc kd) (hN : NE n s ln gd pc kd) {m : Nat} (hm : m ≤ bn ln s) : sa_X M (nI m) = sa_l N (nI m) s 0 (-9) := by
  have h72 := bn_72 hN (k := s) (Nat.le_refl _)
  by_cases c : m < bn ln s
  · obtain ⟨i, _, h1, h2, _⟩ := sa_N hX hM hN c
    rw [h1, h2]
  · have e : m = bn ln s := by omega
    rw [e, sa_E hM hN]
    unfold sa_X
    rw [hX.1.2.2, if_neg (fun hx => nI_nlt (Nat.le_refl _) (by omega) hx.2.1)]
/-- his speed -/
theorem sm_N (hX : XE M n s ln gd pc kd) (hM : ME N n s ln gd pc kd) (hN : NE n s ln gd pc kd) {f P : Nat → Int32} (hT : TR f P) {j : Nat} (hj : j < n) : sp_X (pc_X M (nI j)) (kd_X M (nI j)) (tf_X f (nI j)) = sm_M N P j := by
  have hn := hN.1.1
  unfold sm_M tf_X
  rw [pc_N hX hN hj, kd_N hX hN hj, if_pos ⟨nI_pos (by omega), nI_lt (b := 5) (by omega) (by omega)⟩, nI_clamp (by omega), hT j (by omega), (hM.2.1 j hj).1, (hM.2.1 j hj).2]
  exact sp_eq (hN.2.1 j hj).2.2
theorem th_12 {x : Int32} : th_X M 12 x = tf_X (M.1 13) x := rfl
theorem w_about {x : Int32} (hk : k + 1 ≤ 1000) (h : RLK k M) : CX s_X8_about s_X9_about [.ref 0, .int x] [.ref 30, .int x] k M := by
  obtain ⟨_, n, s, ln, gd, pc, kd, z, a, t, hR⟩ := h
  have hR0 := hR
  obtain ⟨hN, hX, hM, hT, hW, hA, hP, hD, hS⟩ := hR
  have fin := fin_t0 SX_rf SM_rf rfl hk hR0
  have ct := ct_N hM hN
  obtain ⟨w5, ⟨r1, r2, r3⟩, hPW⟩ := hW
  obtain ⟨hl, hj⟩ := ld_eq hX hM hN (f := M.1 13) (P := M.1 38) r3 (MK_all hN.1.1)
  intro Po hK
  show if x = 0 then _ else _
  by_cases c0 : x = 0
  · rw [if_pos c0]
    refine hK _ _ (fun Po' hP' => ⟨n, s, ct, ?_⟩)
    rw [if_pos c0, hM.1.2.1, ← hX.1.2.1]
    exact hP' _ fin
  rw [if_neg c0]
  by_cases c1 : x = 1
  · rw [if_pos c1]
    refine hK _ _ (fun Po' hP' => ⟨n, s, ct, ?_⟩)
    rw [if_neg c0, if_pos c1, hM.1.1, ← hX.1.1]
    exact hP' _ fin
  rw [if_neg c1]
  by_cases c2 : x = 2
  · rw [if_pos c2]
    refine hK _ _ (fun Po' hP' => ⟨n, s, ct, ?_⟩)
    rw [if_neg c0, if_neg c1, if_pos c2, hM.1.2.2, ← hX.1.2.2]
    exact hP' _ fin
  rw [if_neg c2]
  by_cases c3 : x = 3
  · rw [if_pos c3]
    refine hK _ _ (fun Po' hP' => ⟨n, s, ct, ?_⟩)
    rw [if_neg c0, if_neg c1, if_neg c2, if_pos c3, ← r1]
    exact hP' _ fin
  rw [if_neg c3]
  by_cases c4 : x = 4
  · rw [if_pos c4]
    refine hK _ _ (fun Po' hP' => ⟨n, s, ct, ?_⟩)
    rw [if_neg c0, if_neg c1, if_neg c2, if_neg c3, if_pos c4, ← r2]
    exact hP' _ fin
  rw [if_neg c4]
  by_cases c5 : x = 5
  · rw [if_pos c5, w5]
    refine hK _ _ (fun Po' hP' => ⟨n, s, ct, ?_⟩)
    rw [if_neg c0, if_neg c1, if_neg c2, if_neg c3, if_neg c4, if_pos c5, ← hl]
    exact hP' _ fin
  rw [if_neg c5]
  by_cases c6 : x = 6
  · rw [if_pos c6, w5, th_12]
    refine hK _ _ (fun Po' hP' => ⟨n, s, ct, ?_⟩)
    rw [if_neg c0, if_neg c1, if_neg c2, if_neg c3, if_neg c4, if_neg c5, if_pos c6]
    have e : vl_M M n = (if ld_X M (-1) (M.1 13) = -9 then 0 else sp_X (pc_X M (ld_X M (-1) (M.1 13))) (kd_X M (ld_X M (-1) (M.1 13))) (tf_X (M.1 13) (ld_X M (-1) (M.1 13)))) := by
      unfold vl_M
      rw [hl]
      cases hL : lm_l M (M.1 38) 31 n none with
      | none => rfl
      | some j =>
        have hjn := hj j hL
        have hn := hN.1.1
        show sm_M M (M.1 38) j = _
        rw [show fv_M (some j) = nI j from rfl, if_neg (fv_9 (by omega))]
        exact (sm_N hX hM hN r3 hjn).symm
    rw [e]
    exact hP' _ fin
  rw [if_neg c6]
  by_cases c7 : x = 7
  · rw [if_pos c7]
    refine hK _ _ (fun Po' hP' => ⟨n, s, ct, ?_⟩)
    rw [if_neg c0, if_neg c1, if_neg c2, if_neg c3, if_neg c4, if_neg c5, if_neg c6, if_pos c7]
    obtain ⟨m, hm, em⟩ := hPW.1
    have e : sa_X M (M.1 12 3) = sa_l M (M.1 38 0) s 0 (-9) := by
      rw [show M.1 12 3 = M.1 38 0 from r1, em]
      exact sa_eq hX hM hN hm
    rw [← e]
    exact hP' _ fin
  rw [if_neg c7]
  by_cases c8 : x = 8
  · rw [if_pos c8]
    refine hK _ _ (fun Po' hP' => ⟨n, s, ct, ?_⟩)
    rw [if_neg c0, if_neg c1, if_neg c2, if_neg c3, if_neg c4, if_neg c5, if_neg c6, if_neg c7, if_pos c8]
    have e : al_M (M.1 38) = 0 + M.1 13 0 + M.1 13 1 + M.1 13 2 + M.1 13 3 + M.1 13 4 := by
      unfold al_M
      rw [show M.1 13 0 = M.1 38 2 from r3 0 (by omega), show M.1 13 1 = M.1 38 3 from r3 1 (by omega), show M.1 13 2 = M.1 38 4 from r3 2 (by omega), show M.1 13 3 = M.1 38 5 from r3 3 (by omega), show M.1 13 4 = M.1 38 6 from r3 4 (by omega), Int32.zero_add]
    rw [e]
    exact hP' _ fin
  rw [if_neg c8]
  by_cases c9 : x = 9
  · rw [if_pos c9]
    refine hK _ _ (fun Po' hP' => ⟨n, s, ct, ?_⟩)
    rw [if_neg c0, if_neg c1, if_neg c2, if_neg c3, if_neg c4, if_neg c5, if_neg c6, if_neg c7, if_neg c8, if_pos c9, hA.1.2.2, ← hA.1.2.1]
    exact hP' _ fin
  rw [if_neg c9]
  by_cases c10 : x = 10
  · rw [if_pos c10]
    refine hK _ _ (fun Po' hP' => ⟨n, s, ct, ?_⟩)
    rw [if_neg c0, if_neg c1, if_neg c2, if_neg c3, if_neg c4, if_neg c5, if_neg c6, if_neg c7, if_neg c8, if_neg c9, if_pos c10, hD.1.2.2, ← hD.1.2.1]
    exact hP' _ fin
  rw [if_neg c10]
  by_cases c11 : x = 11
  · rw [if_pos c11]
    refine hK _ _ (fun Po' hP' => ⟨n, s, ct, ?_⟩)
    rw [if_neg c0, if_neg c1, if_neg c2, if_neg c3, if_neg c4, if_neg c5, if_neg c6, if_neg c7, if_neg c8, if_neg c9, if_neg c10, if_pos c11, hT.2.2.1, ← hT.2.1]
    exact hP' _ fin
  rw [if_neg c11]
  refine hK _ _ (fun Po' hP' => ⟨n, s, ct, ?_⟩)
  rw [if_neg c0, if_neg c1, if_neg c2, if_neg c3, if_neg c4, if_neg c5, if_neg c6, if_neg c7, if_neg c8, if_neg c9, if_neg c10, if_neg c11]
  exact hP' _ fin
theorem man_i (hX : XE M n s ln gd pc kd) (hN : NE n s ln gd pc kd) {x : Int32} : (¬ x < 0 ∧ x < M.1 8 3 ∧ x < 5) ↔ ∃ i, i < n ∧ x = nI i := inx (b := 5) hN.1.1 (by omega) hX.1.1
theorem str_i (hX : XE M n s ln gd pc kd) (hN : NE n s ln gd pc kd) {x : Int32} : (¬ x < 0 ∧ x < M.1 3 4 ∧ x < 8) ↔ ∃ i, i < s ∧ x = nI i := inx (b := 8) hN.1.2 (by omega) hX.1.2.1
theorem nI_inj {i j n b : Nat} (hb : n ≤ b) (hb2 : b < 2 ^ 31) (hi : i < n) (hj : j < n) (e : nI i = nI j) : i = j := (nI_eq (by omega) (by omega)).mp e
theorem w_man {x y : Int32} (hk : k + 1 ≤ 1000) (h : RLK k M) : CX s_X8_man s_X9_man [.ref 0, .int x, .int y] [.ref 30, .int x, .int y] k M := by
  obtain ⟨_, n, s, ln, gd, pc, kd, z, a, t, hR⟩ := h
  have hR0 := hR
  obtain ⟨hN, hX, hM, hT, hW, hA, hP, hD, hS⟩ := hR
  have fin := fin_t0 SX_rf SM_rf rfl hk hR0
  have ct := ct_N hM hN
  have hn := hN.1.1
  obtain ⟨w5, ⟨r1, r2, r3⟩, hPW⟩ := hW
  intro Po hK
  show if ¬ x < 0 ∧ x < M.1 8 3 ∧ x < 5 then _ else _
  by_cases c : ¬ x < 0 ∧ x < M.1 8 3 ∧ x < 5
  · rw [if_pos c]
    obtain ⟨i, hi, rfl⟩ := (man_i hX hN).mp c
    have u : ∀ i', i' < n → nI i = nI i' → i' = i := fun i' h1 h2 => nI_inj hn (by omega) h1 hi h2.symm
    by_cases c0 : y = 0
    · rw [if_pos c0]
      refine hK _ _ (fun Po' hP' => ⟨n, s, ct, fun i' hi' e => ?_, fun hx => absurd rfl (hx i hi)⟩)
      have := u i' hi' e
      subst this
      rw [if_pos c0, (hM.2.1 _ hi).1, ← pc_N hX hN hi]
      exact hP' _ fin
    rw [if_neg c0]
    by_cases c1 : y = 1
    · rw [if_pos c1]
      refine hK _ _ (fun Po' hP' => ⟨n, s, ct, fun i' hi' e => ?_, fun hx => absurd rfl (hx i hi)⟩)
      have := u i' hi' e
      subst this
      rw [if_neg c0, if_pos c1, (hM.2.1 _ hi).2, ← kd_N hX hN hi]
      exact hP' _ fin
    rw [if_neg c1]
    by_cases c2 : y = 2
    · rw [if_pos c2]
      refine hK _ _ (fun Po' hP' => ⟨n, s, ct, fun i' hi' e => ?_, fun hx => absurd rfl (hx i hi)⟩)
      have := u i' hi' e
      subst this
      have e2 : th_X M 12 (nI i') = M.1 38 (2 + i') := by
        unfold th_X
        rw [if_pos ⟨c.1, c.2.2⟩, nI_clamp (by omega)]
        exact r3 i' (by omega)
      rw [if_neg c0, if_neg c1, if_pos c2, ← e2]
      exact hP' _ fin
    rw [if_neg c2]
    by_cases c3 : y = 3
    · rw [if_pos c3]
      refine hK _ _ (fun Po' hP' => ⟨n, s, ct, fun i' hi' e => ?_, fun hx => absurd rfl (hx i hi)⟩)
      have := u i' hi' e
      subst this
      rw [if_neg c0, if_neg c1, if_neg c2, if_pos c3, ← sm_N hX hM hN r3 hi]
      exact hP' _ fin
    rw [if_neg c3]
    refine hK _ _ (fun Po' hP' => ⟨n, s, ct, fun i' hi' e => ?_, fun hx => absurd rfl (hx i hi)⟩)
    rw [if_neg c0, if_neg c1, if_neg c2, if_neg c3]
    exact hP' _ fin
  · rw [if_neg c]
    refine hK _ _ (fun Po' hP' => ⟨n, s, ct, fun i hi e => absurd ((man_i hX hN).mpr ⟨i, hi, e⟩) c, fun _ => hP' _ fin⟩)
theorem w_stretch {x y : Int32} (hk : k + 1 ≤ 1000) (h : RLK k M) : CX s_X8_stretch s_X9_stretch [.ref 0, .int x, .int y] [.ref 30, .int x, .int y] k M := by
  obtain ⟨_, n, s, ln, gd, pc, kd, z, a, t, hR⟩ := h
  have hR0 := hR
  obtain ⟨hN, hX, hM, hT, hW, hA, hP, hD, hS⟩ := hR
  have fin := fin_t0 SX_rf SM_rf rfl hk hR0
  have ct := ct_N hM hN
  have hs := hN.1.2
  intro Po hK
  show if ¬ x < 0 ∧ x < M.1 3 4 ∧ x < 8 then _ else _
  by_cases c : ¬ x < 0 ∧ x < M.1 3 4 ∧ x < 8
  · rw [if_pos c]
    obtain ⟨i, hi, rfl⟩ := (str_i hX hN).mp c
    have u : ∀ i', i' < s → nI i = nI i' → i' = i := fun i' h1 h2 => nI_inj hs (by omega) h1 hi h2.symm
    obtain ⟨x1, x2, x3⟩ := hX.2.2.1 i hi
    obtain ⟨m1, m2⟩ := hM.2.2 i hi
    by_cases c0 : y = 0
    · rw [if_pos c0, if_pos c, nI_clamp (by omega)]
      refine hK _ _ (fun Po' hP' => ⟨n, s, ct, fun i' hi' e => ?_, fun hx => absurd rfl (hx i hi)⟩)
      have := u i' hi' e
      subst this
      rw [if_pos c0, m1, ← x1]
      exact hP' _ fin
    rw [if_neg c0]
    by_cases c1 : y = 1
    · rw [if_pos c1]
      refine hK _ _ (fun Po' hP' => ⟨n, s, ct, fun i' hi' e => ?_, fun hx => absurd rfl (hx i hi)⟩)
      have := u i' hi' e
      subst this
      have e2 : go_X M (nI i') = nI (gd i') := by
        unfold go_X
        rw [if_pos c, nI_clamp (by omega), x2]
      rw [if_neg c0, if_pos c1, m2, ← e2]
      exact hP' _ fin
    rw [if_neg c1]
    by_cases c2 : y = 2
    · rw [if_pos c2, if_pos c, nI_clamp (by omega)]
      refine hK _ _ (fun Po' hP' => ⟨n, s, ct, fun i' hi' e => ?_, fun hx => absurd rfl (hx i hi)⟩)
      have := u i' hi' e
      subst this
      rw [if_neg c0, if_neg c1, if_pos c2, bg_N hM i' (by omega), ← x3]
      exact hP' _ fin
    rw [if_neg c2]
    refine hK _ _ (fun Po' hP' => ⟨n, s, ct, fun i' hi' e => ?_, fun hx => absurd rfl (hx i hi)⟩)
    rw [if_neg c0, if_neg c1, if_neg c2]
    exact hP' _ fin
  · rw [if_neg c]
    refine hK _ _ (fun Po' hP' => ⟨n, s, ct, fun i hi e => absurd ((str_i hX hN).mpr ⟨i, hi, e⟩) c, fun _ => hP' _ fin⟩)
/-- the seed: a long is answered -/
theorem w_seed {u : Int64} (hk : k + 1 ≤ 1000) (h : RLK k M) : ∀ Po : ab_P, (∀ (v : Int64) (M1 : ab_M), (∀ Po' : ab_P, (∀ M2, RLK (k + 1) M2 → Po' (some (.long v)) M2) → s_X9_seed [.ref 30, .long u] M1 Po') → Po (some (.long v)) M1) → s_X8_seed [.ref 0, .long u] M Po := by
  obtain ⟨_, n, s, ln, gd, pc, kd, z, a, t, hR⟩ := h
  obtain ⟨hN, hX, hM, hT, hW, hA, hP, hD, hS⟩ := hR
  intro Po hK
  refine hK _ _ (fun Po' hP' => ?_)
  show Po' (some (.long (M.2 30 26))) _
  rw [show M.2 30 26 = M.2 0 9 from hS.symm]
  exact hP' _ ⟨hk, n, s, ln, gd, pc, kd, z, a, t, hN, XE_fr rfl rfl rfl rfl rfl rfl rfl rfl rfl hX, ME_fr rfl rfl rfl rfl rfl rfl rfl hM, TX_fr rfl rfl rfl rfl hT, NW_mo (by omega) (NW_fr rfl rfl rfl rfl rfl hW), AC_mo (by omega) (AC_fr rfl rfl rfl rfl hA), KP_mo (by omega) (KP_fr rfl rfl rfl hP), TD_fr rfl rfl rfl rfl rfl rfl rfl rfl hD, rfl⟩
end CALLS2
