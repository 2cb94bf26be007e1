/-! BOTH SIDES: calls -/
/-- a call of the class, then the same one of the model: the same answer, and both stay the same -/
def CX (fx fm : ab_Sem) (ax am : List Value) (k : Nat) (M : ab_M) : Prop := ∀ Po : ab_P, (∀ (v : Int32) (M1 : ab_M), (∀ Po' : ab_P, (∀ M2, RLK (k + 1) M2 → Po' (some (.int v)) M2) → fm am M1 Po') → Po (some (.int v)) M1) → fx ax M Po
section CALLS
variable {M M1 N : ab_M} {n s : Nat} {ln gd pc kd : Nat → Nat} {k z a t : Nat}
theorem fin_t0 (hx : SX M M1) (hm : SM M M1) (hl : M1.2 = M.2) (hk : k + 1 ≤ 1000) (hR : RQ k M n s ln gd pc kd z a t) : RLK (k + 1) (t0 M1) := ⟨hk, n, s, ln, gd, pc, kd, z, a, t, RQ_s (SX_tr hx SX_t0) (SM_tr hm SM_t0) (by
  have h := hR.2.2.2.2.2.2.2.2
  unfold SD at *
  rw [show (t0 M1).2 = M1.2 from rfl, hl]
  exact h) hR⟩
theorem fin_jj (hx : SX M M1) (hm : SM M M1) (hl : M1.2 = M.2) (hk : k + 1 ≤ 1000) (hR : RQ k M n s ln gd pc kd z a t) (hj : jj (t0 M1) N) : RLK (k + 1) N := ⟨hk, n, s, ln, gd, pc, kd, z, a, t, RQ_s (SX_tr hx (SX_tr SX_t0 (SX_jj hj))) (SM_tr hm (SM_tr SM_t0 (SM_jj hj))) (by
  have h := hR.2.2.2.2.2.2.2.2
  unfold SD at *
  rw [SL_jj hj, show (t0 M1).2 = M1.2 from rfl, hl]
  exact h) hR⟩
theorem ct_N (hM : ME M n s ln gd pc kd) (hN : NE n s ln gd pc kd) : ct_M M n s := ⟨hN.1.1, hM.1.1, hN.1.2, hM.1.2.1⟩
theorem inx {b : Nat} {x c : Int32} (hn : n ≤ b) (hb : b < 2 ^ 31) (hc : c = nI n) : (¬ x < 0 ∧ x < c ∧ x < nI b) ↔ ∃ i, i < n ∧ x = nI i := by
  subst hc
  constructor
  · rintro ⟨h1, h2, h3⟩
    obtain ⟨j, hj, rfl⟩ := nI_of h1
    exact ⟨j, (nI_ltI hj (by omega)).mp h2, rfl⟩
  · rintro ⟨i, hi, rfl⟩
    exact ⟨nI_pos (by omega), nI_lt hi (by omega), nI_lt (by omega) hb⟩
theorem w_write {x : Int32} (hk : k + 1 ≤ 1000) (h : RLK k M) : CX s_X8_write s_X9_write [.ref 0, .int x] [.ref 30, .int x] k M := by
  obtain ⟨_, n, s, ln, gd, pc, kd, z, a, t, hR⟩ := h
  have hR0 := hR
  obtain ⟨hN, hX, hM, hT, hW, hA, hP, hD, hS⟩ := hR
  obtain ⟨hz, e1, e2, e3⟩ := hT
  intro Po hK
  show if x < 0 then _ else _
  by_cases c1 : x < 0
  · rw [if_pos c1]
    refine hK _ _ (fun Po' hP' => ?_)
    show if ¬ x < 0 ∧ ¬ 255 < x then _ else _
    rw [if_neg (fun hx => hx.1 c1)]
    exact hP' _ (fin_t0 SX_rf SM_rf rfl hk hR0)
  rw [if_neg c1]
  by_cases c2 : 255 < x
  · rw [if_pos c2]
    refine hK _ _ (fun Po' hP' => ?_)
    show if ¬ x < 0 ∧ ¬ 255 < x then _ else _
    rw [if_neg (fun hx => hx.2 c2)]
    exact hP' _ (fin_t0 SX_rf SM_rf rfl hk hR0)
  rw [if_neg c2]
  by_cases c3 : z < 48
  · rw [if_pos (show M.1 1 1 < 48 from by rw [e1]; exact nI_lt (b := 48) c3 (by omega))]
    have ea : ap_X M x = ab_si (ab_si M 2 z x) 1 1 (nI (z + 1)) := by
      unfold ap_X
      rw [e1, if_neg (nI_pos (by omega)), if_pos (show nI z < 48 from nI_lt (b := 48) c3 (by omega)), nI_clamp (by omega), nI_1]
    rw [ea]
    refine hK (nI (z + 1)) _ (fun Po' hP' => ?_)
    show if ¬ x < 0 ∧ ¬ 255 < x then _ else _
    rw [if_pos ⟨c1, c2⟩]
    refine ⟨z, hz, e2, ?_⟩
    rw [if_neg (by omega)]
    refine hP' _ ⟨hk, n, s, ln, gd, pc, kd, z + 1, a, t, hN, XE_fr rfl rfl rfl rfl rfl rfl rfl rfl rfl hX, ME_fr rfl rfl rfl rfl rfl rfl rfl hM, ⟨by omega, rfl, rfl, fun i hi => ?_⟩, NW_mo (by omega) (NW_fr rfl rfl rfl rfl rfl hW), AC_mo (by omega) (AC_fr rfl rfl rfl rfl hA), KP_mo (by omega) (KP_fr rfl rfl rfl hP), TD_fr rfl rfl rfl rfl rfl rfl rfl rfl hD, hS⟩
    show (if 2 = 2 ∧ i = z then x else M.1 2 i) = (if 31 = 31 ∧ i = z then x else M.1 31 i)
    by_cases c4 : i = z
    · rw [if_pos ⟨rfl, c4⟩, if_pos ⟨rfl, c4⟩]
    · rw [if_neg (fun hx => c4 hx.2), if_neg (fun hx => c4 hx.2)]
      exact e3 i (by omega)
  · rw [if_neg (show ¬ M.1 1 1 < 48 from by rw [e1]; exact nI_nlt (b := 48) (by omega) (by omega))]
    refine hK _ _ (fun Po' hP' => ?_)
    show if ¬ x < 0 ∧ ¬ 255 < x then _ else _
    rw [if_pos ⟨c1, c2⟩]
    refine ⟨z, hz, e2, ?_⟩
    rw [if_pos (by omega)]
    exact hP' _ (fin_t0 SX_rf SM_rf rfl hk hR0)
theorem w_wipe (hk : k + 1 ≤ 1000) (h : RLK k M) : CX s_X8_wipe s_X9_wipe [.ref 0] [.ref 30] k M := by
  obtain ⟨_, n, s, ln, gd, pc, kd, z, a, t, hR⟩ := h
  obtain ⟨hN, hX, hM, hT, hW, hA, hP, hD, hS⟩ := hR
  obtain ⟨hz, e1, e2, e3⟩ := hT
  intro Po hK
  refine hK _ _ (fun Po' hP' => ?_)
  show Po' (some (.int (M.1 30 2))) _
  rw [e2, ← e1]
  exact hP' _ ⟨hk, n, s, ln, gd, pc, kd, 0, a, t, hN, XE_fr rfl rfl rfl rfl rfl rfl rfl rfl rfl hX, ME_fr rfl rfl rfl rfl rfl rfl rfl hM, ⟨by omega, rfl, rfl, fun i hi => by omega⟩, NW_mo (by omega) (NW_fr rfl rfl rfl rfl rfl hW), AC_mo (by omega) (AC_fr rfl rfl rfl rfl hA), KP_mo (by omega) (KP_fr rfl rfl rfl hP), TD_fr rfl rfl rfl rfl rfl rfl rfl rfl hD, hS⟩
theorem w_unattempt (hk : k + 1 ≤ 1000) (h : RLK k M) : CX s_X8_unattempt s_X9_unattempt [.ref 0] [.ref 30] k M := by
  obtain ⟨_, n, s, ln, gd, pc, kd, z, a, t, hR⟩ := h
  obtain ⟨hN, hX, hM, hT, hW, hA, hP, ⟨⟨ht, e1, e2⟩, e3⟩, hS⟩ := hR
  intro Po hK
  refine hK _ _ (fun Po' hP' => ?_)
  show Po' (some (.int (M.1 30 22))) _
  rw [e2, ← e1]
  exact hP' _ ⟨hk, n, s, ln, gd, pc, kd, z, a, 0, hN, XE_fr rfl rfl rfl rfl rfl rfl rfl rfl rfl hX, ME_fr rfl rfl rfl rfl rfl rfl rfl hM, TX_fr rfl rfl rfl rfl hT, NW_mo (by omega) (NW_fr rfl rfl rfl rfl rfl hW), AC_mo (by omega) (AC_fr rfl rfl rfl rfl hA), KP_mo (by omega) (KP_fr rfl rfl rfl hP), ⟨⟨by omega, rfl, rfl⟩, fun i hi => by omega⟩, hS⟩
theorem ch_i {y : Int32} : (y = 0 ∨ y = 1) ↔ (¬ y < 0 ∧ ¬ 1 < y) := by
  constructor
  · rintro (rfl | rfl) <;> decide
  · intro h
    obtain ⟨c, hc, rfl⟩ := nI_2 y h
    rcases (show c = 0 ∨ c = 1 by omega) with rfl | rfl
    · exact Or.inl rfl
    · exact Or.inr rfl
theorem w_attempt {x v y : Int32} (hk : k + 1 ≤ 1000) (h : RLK k M) : CX s_X8_attempt s_X9_attempt [.ref 0, .int x, .int v, .int y] [.ref 30, .int x, .int v, .int y] k M := by
  obtain ⟨_, n, s, ln, gd, pc, kd, z, a, t, hR⟩ := h
  have hR0 := hR
  obtain ⟨hN, hX, hM, hT, hW, hA, hP, ⟨⟨ht, e1, e2⟩, e3⟩, hS⟩ := hR
  intro Po hK
  have bad : ¬ ((¬ x < 0 ∧ ¬ 3 < x) ∧ (¬ v < 1 ∧ ¬ 9 < v) ∧ (¬ y < 0 ∧ ¬ 1 < y)) → Po (some (.int (-2))) M := fun hb => by
    refine hK _ _ (fun Po' hP' => ?_)
    refine ⟨t, ht, e2, ?_⟩
    have fin := hP' _ (fin_t0 SX_rf SM_rf rfl hk hR0)
    by_cases c1 : ¬ x < 0 ∧ ¬ 3 < x
    · rw [if_pos c1]
      by_cases c2 : ¬ v < 1 ∧ ¬ 9 < v
      · rw [if_pos c2, if_neg (fun c3 => hb ⟨c1, c2, c3⟩)]
        exact fin
      · rw [if_neg c2]
        exact fin
    · rw [if_neg c1]
      exact fin
  show if x < 0 then _ else _
  by_cases c1 : x < 0
  · rw [if_pos c1]
    exact bad (fun hx => hx.1.1 c1)
  rw [if_neg c1]
  by_cases c2 : 3 < x
  · rw [if_pos c2]
    exact bad (fun hx => hx.1.2 c2)
  rw [if_neg c2]
  by_cases c3 : v < 1
  · rw [if_pos c3]
    exact bad (fun hx => hx.2.1.1 c3)
  rw [if_neg c3]
  by_cases c4 : 9 < v
  · rw [if_pos c4]
    exact bad (fun hx => hx.2.1.2 c4)
  rw [if_neg c4]
  by_cases c5 : y = 0 ∨ y = 1
  · rw [if_pos c5]
    have c6 := ch_i.mp c5
    by_cases c7 : t < 6
    · rw [if_pos (show M.1 25 3 < 6 from by rw [e1]; exact nI_lt (b := 6) c7 (by omega))]
      have ea : ∀ w : Int32, tr_A M x v w = ab_si (ab_si (ab_si (ab_si M 26 t x) 27 t v) 28 t (vp_nar .boolean w)) 25 3 (nI (t + 1)) := fun w => by
        unfold tr_A
        rw [e1, if_neg (nI_pos (by omega)), if_pos (show nI t < 6 from nI_lt (b := 6) c7 (by omega)), nI_clamp (by omega), nI_1]
      have fin : ∀ w : Int32, vp_nar .boolean w = y → Po (some (.int (nI (t + 1)))) (ab_si (ab_si (ab_si (ab_si M 26 t x) 27 t v) 28 t (vp_nar .boolean w)) 25 3 (nI (t + 1))) := by
        intro w hw
        rw [hw]
        refine hK (nI (t + 1)) _ (fun Po' hP' => ?_)
        refine ⟨t, ht, e2, ?_⟩
        rw [if_pos ⟨c1, c2⟩, if_pos ⟨c3, c4⟩, if_pos c6, if_neg (by omega)]
        refine hP' _ ⟨hk, n, s, ln, gd, pc, kd, z, a, t + 1, hN, XE_fr rfl rfl rfl rfl rfl rfl rfl rfl rfl hX, ME_fr rfl rfl rfl rfl rfl rfl rfl hM, TX_fr rfl rfl rfl rfl hT, NW_mo (by omega) (NW_fr rfl rfl rfl rfl rfl hW), AC_mo (by omega) (AC_fr rfl rfl rfl rfl hA), KP_mo (by omega) (KP_fr rfl rfl rfl hP), ⟨⟨by omega, rfl, rfl⟩, fun i hi => ?_⟩, hS⟩
        show (if 26 = 26 ∧ i = t then x else M.1 26 i) = (if 44 = 44 ∧ i = t then x else M.1 44 i) ∧ (if 27 = 27 ∧ i = t then v else M.1 27 i) = (if 45 = 45 ∧ i = t then v else M.1 45 i) ∧ (if 28 = 28 ∧ i = t then y else M.1 28 i) = (if 46 = 46 ∧ i = t then y else M.1 46 i) ∧ ((if 46 = 46 ∧ i = t then y else M.1 46 i) = 0 ∨ (if 46 = 46 ∧ i = t then y else M.1 46 i) = 1)
        by_cases c8 : i = t
        · simp only [c8, and_self, if_true, true_and]
          exact c5
        · simp only [c8, and_false, if_false]
          exact e3 i (by omega)
      by_cases c8 : y = 1
      · rw [if_pos c8, ea]
        exact fin 1 (by rw [c8]; rfl)
      · rw [if_neg c8, ea]
        exact fin 0 (by rcases c5 with h | h; rw [h]; rfl; exact absurd h c8)
    · rw [if_neg (show ¬ M.1 25 3 < 6 from by rw [e1]; exact nI_nlt (b := 6) (by omega) (by omega))]
      refine hK _ _ (fun Po' hP' => ?_)
      refine ⟨t, ht, e2, ?_⟩
      rw [if_pos ⟨c1, c2⟩, if_pos ⟨c3, c4⟩, if_pos c6, if_pos (by omega)]
      exact hP' _ (fin_t0 SX_rf SM_rf rfl hk hR0)
  · rw [if_neg c5]
    exact bad (fun hx => c5 (ch_i.mpr hx.2.2))
end CALLS
