/-! BOTH SIDES: fault, army -/
section ARMY2
variable {M M1 N : ab_M} {n s : Nat} {ln gd pc kd : Nat → Nat} {k z a t : Nat}
theorem SX_rd {p u m : Nat} {R Q : Nat → Int32} : SX M (rd M p u m R Q) := ⟨⟨rfl, rfl, rfl, rfl, rfl, rfl, rfl, rfl, rfl⟩, ⟨rfl, rfl⟩, ⟨rfl, rfl, rfl, rfl⟩, ⟨rfl, rfl⟩, rfl, ⟨rfl, rfl, rfl, rfl⟩⟩
theorem SM_rd {p u m : Nat} {R Q : Nat → Int32} : SM M (rd M p u m R Q) := ⟨⟨rfl, rfl, rfl, rfl, rfl, rfl, rfl⟩, ⟨rfl, rfl⟩, rfl, ⟨rfl, rfl⟩, ⟨rfl, rfl⟩, ⟨rfl, rfl, rfl, rfl⟩⟩
theorem fin_rd {p u m : Nat} {R Q : Nat → Int32} (hk : k + 1 ≤ 1000) (hR : RQ k M n s ln gd pc kd z a t) : RLK (k + 1) (rd (t0 M) p u m R Q) := ⟨hk, n, s, ln, gd, pc, kd, z, a, t, RQ_s (SX_tr SX_t0 SX_rd) (SM_tr SM_t0 SM_rd) hR.2.2.2.2.2.2.2.2 hR⟩
theorem fa_0 (hT : TX M z) : (la_X M 0 = 65) ↔ ¬ (z = 0 ∨ ¬ M.1 31 0 = 65) := by
  by_cases c : z = 0
  · have h1 : la_X M 0 = -1 := la_Z hT (p := 0) (by omega) (by omega)
    rw [h1]
    exact ⟨fun h => absurd h (by decide), fun h => absurd (Or.inl c) h⟩
  · have h1 : la_X M 0 = M.1 31 0 := la_N hT (p := 0) (by omega)
    rw [h1]
    exact ⟨fun h hx => hx.elim c (fun hx => hx h), fun h => Classical.byContradiction (fun hx => h (Or.inr hx))⟩
theorem w_fault (hk : k + 1 ≤ 1000) (h : RLK k M) : CX s_X8_fault s_X9_fault [.ref 0] [.ref 30] k M := by
  obtain ⟨_, n, s, ln, gd, pc, kd, z, a, t, hR⟩ := h
  have hR0 := hR
  obtain ⟨hN, hX, hM, hT, hW, hA, hP, hD, hS⟩ := hR
  intro Po hK
  refine hK _ _ (fun Po' hP' => ⟨z, hT.1, hT.2.2.1, ?_⟩)
  have h0 := fa_0 hT
  unfold fa_X at hP'
  by_cases c : z = 0 ∨ ¬ M.1 31 0 = 65
  · rw [if_pos c]
    rw [if_neg (fun hx => h0.mp hx c)] at hP'
    exact hP' _ (fin_rd hk hR0)
  · rw [if_neg c]
    rw [if_pos (h0.mpr c)] at hP'
    obtain ⟨p', s', m', R', Q', k1, _⟩ := ra_N (N := t0 M) hT rfl 48 1 0 0 (M.1 36) (M.1 37) (by omega) (by omega) (by omega)
    rw [k1]
    exact hP' _ (fin_rd hk hR0)
theorem bl_r : ∀ (T : List tk_T) (c e : Nat) (B : ab_M) (q : Nat), (q ≠ 3 ∧ q ≠ 4 ∧ q ≠ 5 ∧ q ≠ 6 ∧ q ≠ 7 ∧ q ≠ 8 ∧ q ≠ 9 ∧ q ≠ 10 ∧ q ≠ 11) → (bl_X T c e B).1 q = B.1 q
  | [], _, _, _, _, _ => rfl
  | (true, x, y, w) :: t, c, e, B, q, h => by
    unfold bl_X
    rw [bl_r t _ _ _ q h]
    obtain ⟨h3, h4, h5, h6, h7, _⟩ := h
    funext b
    simp only [ra_X, ra_k, ab_si, wt]
    rw [if_neg (fun hx => h3 hx.1), if_neg (fun hx => h3 hx.1), if_neg h7, if_neg h6, if_neg h5, if_neg h4]
  | (false, x, y, w) :: t, c, e, B, q, h => by
    unfold bl_X
    rw [bl_r t _ _ _ q h]
    obtain ⟨_, _, _, _, _, h8, h9, h10, h11⟩ := h
    funext b
    unfold ta_X
    split
    · rfl
    · split
      · simp only [ab_si]
        rw [if_neg (fun hx => h8 hx.1), if_neg (fun hx => h11 hx.1), if_neg (fun hx => h10 hx.1), if_neg (fun hx => h9 hx.1)]
      · rfl
theorem bl_l : ∀ (T : List tk_T) (c e : Nat) (B : ab_M), (bl_X T c e B).2 = B.2
  | [], _, _, _ => rfl
  | (true, x, y, w) :: t, c, e, B => by
    unfold bl_X
    rw [bl_l t]
    rfl
  | (false, x, y, w) :: t, c, e, B => by
    unfold bl_X
    rw [bl_l t]
    unfold ta_X
    split
    · rfl
    · split <;> rfl
theorem su_N {R : Nat → Int32} : ∀ k, (∀ i, i < k → ∃ l, l ≤ 9 ∧ R (2 * i) = nI l) → su_k R k = nI (bn (lnR R) k)
  | 0, _ => rfl
  | k + 1, h => by
    obtain ⟨l, hl, e⟩ := h k (by omega)
    simp only [su_k, bn]
    rw [su_N k (fun i hi => h i (by omega)), e, lnR_v e hl, nI_add]
def gdR (R : Nat → Int32) (i : Nat) : Nat := (R (2 * i + 1)).toNatClampNeg
def pcQ (Q : Nat → Int32) (i : Nat) : Nat := (Q (3 * i)).toNatClampNeg
def kdQ (Q : Nat → Int32) (i : Nat) : Nat := (Q (3 * i + 1)).toNatClampNeg
/-- a memory of the class behind army() -/
def am_X (B : ab_M) : ab_M := ab_sl (ab_sl (ab_si (bg_X B) 14 1 0) 29 0 (-1)) 29 1 (-1)
theorem arm_N {B : ab_M} {m e p : Nat} {R Q : Nat → Int32} (hk : k + 1 ≤ 1000) (hB : BR B s m e R Q) (hT : TX B z) (hD : TD B t) (hS : SD B) (h5 : B.1 12 5 = -1) : RLK (k + 1) (ar_M (rd (t0 (am_X B)) p s m R Q) s m R Q) := by
  obtain ⟨⟨a1, a2⟩, ⟨b1, b2, b3, b4⟩, c1, c2, c3⟩ := hB
  have x1 : ∀ i, i < s → lnR R i = (R (2 * i)).toNatClampNeg := fun _ _ => rfl
  refine ⟨hk, m, s, lnR R, gdR R, pcQ Q, kdQ Q, z, 0, t, ⟨⟨a2, a1⟩, fun i hi => ?_, fun i hi => ?_⟩, ⟨⟨b3, b1, by rw [← b4]; exact b2⟩, fun i hi => ?_, fun i hi => ?_, c2⟩, ⟨⟨rfl, rfl, ?_⟩, fun i hi => ?_, fun i hi => ?_⟩, TX_fr rfl rfl rfl rfl hT, ⟨h5, ⟨rfl, rfl, fun i hi => ?_⟩, ⟨0, by omega, rfl⟩, ⟨0, by omega, rfl⟩, fun i hi => ?_⟩, ⟨⟨by omega, rfl, rfl⟩, fun j hj => by omega⟩, fun c hc => ?_, TD_fr rfl rfl rfl rfl rfl rfl rfl rfl hD, hS⟩
  · obtain ⟨p, q, u, ⟨d1, d2, d3, d4⟩, ⟨d5, d6, d7⟩, _⟩ := c3 i hi
    unfold pcQ kdQ
    rw [d5, d6, nI_clamp (by omega), nI_clamp (by omega)]
    exact ⟨d1, d2, d3⟩
  · obtain ⟨l, g, ⟨d1, d2, d3⟩, ⟨d5, d6⟩, _⟩ := c1 i hi
    unfold lnR gdR
    rw [d5, d6, nI_clamp (by omega), nI_clamp (by omega)]
    exact ⟨d1, d2, d3⟩
  · obtain ⟨p, q, u, ⟨d1, d2, d3, d4⟩, ⟨d5, d6, d7⟩, d8, d9, _⟩ := c3 i hi
    unfold pcQ kdQ
    rw [d5, d6, nI_clamp (by omega), nI_clamp (by omega)]
    exact ⟨d8, d9⟩
  · obtain ⟨l, g, ⟨d1, d2, d3⟩, ⟨d5, d6⟩, d7, d8, d9⟩ := c1 i hi
    rw [lnR_v d5 d2]
    unfold gdR
    rw [d6, nI_clamp (by omega)]
    exact ⟨d7, d8, d9⟩
  · show su_k R s = _
    exact su_N s (fun i hi => by
      obtain ⟨l, g, ⟨d1, d2, d3⟩, ⟨d5, d6⟩, _⟩ := c1 i hi
      exact ⟨l, d2, d5⟩)
  · obtain ⟨p, q, u, ⟨d1, d2, d3, d4⟩, ⟨d5, d6, d7⟩, d8, d9, _⟩ := c3 i hi
    show (if i < m then Q (3 * i + 0) else _) = _ ∧ (if i < m then Q (3 * i + 1) else _) = _
    unfold pcQ kdQ
    rw [if_pos hi, if_pos hi, Nat.add_zero, d5, d6, nI_clamp (by omega), nI_clamp (by omega)]
    exact ⟨rfl, rfl⟩
  · obtain ⟨l, g, ⟨d1, d2, d3⟩, ⟨d5, d6⟩, _⟩ := c1 i hi
    show (if i < s then R (2 * i + 0) else _) = _ ∧ (if i < s then R (2 * i + 1) else _) = _
    unfold lnR gdR
    rw [if_pos hi, if_pos hi, Nat.add_zero, d5, d6, nI_clamp (by omega), nI_clamp (by omega)]
    exact ⟨rfl, rfl⟩
  · show (if i < 5 then td_X B (nI i) else _) = (if 2 ≤ 2 + i ∧ 2 + i < 2 + m then Q (3 * (2 + i - 2) + 2) else if 2 + i < 7 then 0 else _)
    rw [if_pos hi]
    unfold td_X
    by_cases c : i < m
    · obtain ⟨p, q, u, ⟨d1, d2, d3, d4⟩, ⟨d5, d6, d7⟩, d8, d9, d10⟩ := c3 i c
      rw [b3, if_pos ⟨nI_pos (by omega), nI_lt c (by omega), nI_lt (b := 5) (by omega) (by omega)⟩, if_pos (by omega), nI_clamp (by omega), show 2 + i - 2 = i by omega, d7, d10]
    · rw [b3, if_neg (fun hx => nI_nlt (by omega) (by omega) hx.2.1), if_neg (by omega), if_pos (by omega)]
  · show ∃ u, u ≤ 9 ∧ (if 2 ≤ 2 + i ∧ 2 + i < 2 + m then Q (3 * (2 + i - 2) + 2) else if 2 + i < 7 then 0 else _) = nI u ∧ _
    by_cases c : i < m
    · obtain ⟨p, q, u, ⟨d1, d2, d3, d4⟩, ⟨d5, d6, d7⟩, d8, d9, d10⟩ := c3 i c
      rw [if_pos (by omega), show 2 + i - 2 = i by omega, d7]
      exact ⟨u, d4, rfl, fun h => by omega⟩
    · rw [if_neg (by omega), if_pos (by omega)]
      exact ⟨0, by omega, rfl, fun _ => rfl⟩
  · refine Or.inl ?_
    rcases (show c = 0 ∨ c = 1 by omega) with rfl | rfl <;> exact ⟨rfl, rfl⟩
theorem w_army (hk : k + 1 ≤ 1000) (h : RLK k M) : CX s_X8_army s_X9_army [.ref 0] [.ref 30] k M := by
  obtain ⟨_, n, s, ln, gd, pc, kd, z, a, t, hR⟩ := h
  have hR0 := hR
  obtain ⟨hN, hX, hM, hT, hW, hA, hP, hD, hS⟩ := hR
  intro Po hK
  have h0 := fa_0 hT
  show if fa_X M = -9 then _ else _
  by_cases c : z = 0 ∨ ¬ M.1 31 0 = 65
  · have e : fa_X M = 0 := by
      unfold fa_X
      rw [if_neg (fun hx => h0.mp hx c)]
    rw [e, if_neg (by decide)]
    refine hK _ _ (fun Po' hP' => ⟨z, hT.1, hT.2.2.1, ?_⟩)
    rw [if_pos c]
    exact hP' _ (fin_rd hk hR0)
  · have e : fa_X M = fp_T M 48 0 0 1 := by
      unfold fa_X
      rw [if_pos (h0.mpr c)]
    rw [e]
    by_cases c9 : fp_T M 48 0 0 1 = -9
    · rw [if_pos c9]
      obtain ⟨p', s', m', R', Q', k1, k2⟩ := ra_N (M := M) (N := t0 (am_X (bu_X M))) hT (by
        show (bu_X M).1 31 = _
        unfold bu_X
        rw [bl_r _ _ _ _ 31 (by omega)]
        rfl) 48 1 0 0 (M.1 36) (M.1 37) (by omega) (by omega) (by omega)
      obtain ⟨k3, e', k4⟩ := k2 c9 (ab_si (ab_si (ab_si M 3 4 0) 3 5 0) 8 3 0) 0 ⟨⟨by omega, by omega⟩, ⟨rfl, rfl, rfl, rfl⟩, fun i hi => by omega, fun i hi => by omega, fun i hi => by omega⟩
      refine ⟨k3, ?_⟩
      have k4 : BR (bu_X M) s' m' e' R' Q' := k4
      have ev : 10 * (bu_X M).1 3 4 + (bu_X M).1 8 3 = 10 * nI s' + nI m' := by rw [k4.2.1.1, k4.2.1.2.2.1]
      rw [ev]
      have q1 : ∀ q, (q ≠ 3 ∧ q ≠ 4 ∧ q ≠ 5 ∧ q ≠ 6 ∧ q ≠ 7 ∧ q ≠ 8 ∧ q ≠ 9 ∧ q ≠ 10 ∧ q ≠ 11) → (bu_X M).1 q = M.1 q := fun q hq => by
        unfold bu_X
        rw [bl_r _ _ _ _ q hq]
        obtain ⟨h3, _, _, _, _, h8, _⟩ := hq
        funext b
        simp only [ab_si]
        rw [if_neg (fun hx => h8 hx.1), if_neg (fun hx => h3 hx.1), if_neg (fun hx => h3 hx.1)]
      have q2 : (bu_X M).2 = M.2 := by
        unfold bu_X
        rw [bl_l]
        rfl
      have hT' : TX (bu_X M) z := TX_fr (by rw [q1 1 (by omega)]) (by rw [q1 30 (by omega)]) (q1 2 (by omega)) (q1 31 (by omega)) hT
      have hD' : TD (bu_X M) t := TD_fr (by rw [q1 25 (by omega)]) (by rw [q1 30 (by omega)]) (q1 26 (by omega)) (q1 27 (by omega)) (q1 28 (by omega)) (q1 44 (by omega)) (q1 45 (by omega)) (q1 46 (by omega)) hD
      have hS' : SD (bu_X M) := by
        unfold SD
        rw [q2]
        exact hS
      have h5' : (bu_X M).1 12 5 = -1 := by
        rw [q1 12 (by omega)]
        exact hW.1
      have g36 : (am_X (bu_X M)).1 36 = M.1 36 := q1 36 (by omega)
      have g37 : (am_X (bu_X M)).1 37 = M.1 37 := q1 37 (by omega)
      have g31 : (am_X (bu_X M)).1 31 0 = M.1 31 0 := by
        show (bu_X M).1 31 0 = _
        rw [q1 31 (by omega)]
      refine hK _ (am_X (bu_X M)) (fun Po' hP' => ⟨z, hT.1, hT'.2.2.1, ?_⟩)
      rw [g31, if_neg c, g36, g37, k1]
      show if fp_T M 48 0 0 1 = -9 then _ else _
      rw [if_pos c9]
      exact hP' _ (arm_N hk k4 hT' hD' hS' h5')
    · rw [if_neg c9]
      refine hK _ _ (fun Po' hP' => ⟨z, hT.1, hT.2.2.1, ?_⟩)
      obtain ⟨p', s', m', R', Q', k1, _⟩ := ra_N (N := t0 M) hT rfl 48 1 0 0 (M.1 36) (M.1 37) (by omega) (by omega) (by omega)
      rw [if_neg c, k1]
      show if fp_T M 48 0 0 1 = -9 then _ else _
      rw [if_neg c9]
      exact hP' _ (fin_rd hk hR0)
end ARMY2
