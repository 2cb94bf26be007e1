/-! BOTH SIDES: a day, days, when they are there -/
section EQ3
variable {M N : ab_M} {n s : Nat} {ln gd pc kd : Nat → Nat}
theorem q2_N (hX : XE M n s ln gd pc kd) (hM : ME N n s ln gd pc kd) (hN : NE n s ln gd pc kd) {f Q : Nat → Int32} {d : Nat} (hT : TR f Q) (hW : PW n (bn ln s) d Q) {y : Int32} (hy : y = Q 1) : (q2_M N n Q 0 = Q 0 ∧ q2_M N n Q 1 = y + 1 ∧ TR (if y - y / 3 * 3 = 2 then he_X M f else f) (q2_M N n Q)) ∧ PW n (bn ln s) (d + 1) (q2_M N n Q) := by
  subst hy
  obtain ⟨h1, h2⟩ := he_N hX hM hN hT hW.2.2
  obtain ⟨k, hk, ek⟩ := hW.2.1
  unfold q2_M
  by_cases c : Q 1 - Q 1 / 3 * 3 = 2
  · rw [if_pos c, if_pos c]
    refine ⟨⟨?_, ?_, TR_0 h1 (by omega)⟩, ?_, ⟨k + 1, by omega, ?_⟩, TW_0 h2 (by omega)⟩
    · simp only [up_f]
      rw [if_neg (by omega)]
      exact hk_0 n 0 (by omega)
    · simp only [up_f]
      rw [if_pos trivial, hk_0 n 1 (by omega)]
    · obtain ⟨m, hm, em⟩ := hW.1
      refine ⟨m, hm, ?_⟩
      simp only [up_f]
      rw [if_neg (by omega), hk_0 n 0 (by omega), em]
    · simp only [up_f]
      rw [if_pos trivial, hk_0 n 1 (by omega), ek, nI_1]
  · rw [if_neg c, if_neg c]
    refine ⟨⟨?_, ?_, TR_0 hT (by omega)⟩, ?_, ⟨k + 1, by omega, ?_⟩, TW_0 hW.2.2 (by omega)⟩
    · simp only [up_f]
      rw [if_neg (by omega)]
    · simp only [up_f]
      rw [if_pos trivial]
    · obtain ⟨m, hm, em⟩ := hW.1
      refine ⟨m, hm, ?_⟩
      simp only [up_f]
      rw [if_neg (by omega), em]
    · simp only [up_f]
      rw [if_pos trivial, ek, nI_1]
theorem nI_b {e m b : Nat} (hm : m ≤ e) (he : e ≤ 72) (hb : b ≤ 9) : ((nI e - nI m < nI b) ↔ e - m < b) ∧ ((nI e < nI m + nI b) ↔ e < m + b) := by
  rw [pk_sub hm, nI_add]
  exact ⟨nI_ltI (by omega) (by omega), nI_ltI (by omega) (by omega)⟩
/-- A DAY is the same -/
theorem dy_N (hX : XE M n s ln gd pc kd) (hM : ME N n s ln gd pc kd) (hN : NE n s ln gd pc kd) {t : mr_T} {P : Nat → Int32} {d : Nat} (hR : PR t P) (hW : PW n (bn ln s) d P) {w : Int32} (hk : MK n t.2.2.1 w) : gone_X M t = (dd_M N n s P w).1 ∧ PR (dy_X M t) (dd_M N n s P w).2 ∧ PW n (bn ln s) (d + 1) (dd_M N n s P w).2 := by
  have hn := hN.1.1
  have h72 := bn_72 hN (k := s) (Nat.le_refl _)
  obtain ⟨r1, r2, hT⟩ := hR
  obtain ⟨hl, hj⟩ := ld_eq hX hM hN hT hk
  obtain ⟨m, hm, em⟩ := hW.1
  have em2 : t.1 = nI m := r1.trans em
  have e35 := hX.1.2.2
  have plain : gone_X M t = 0 → thd_X M t = t.2.2.2 → gone_X M t = 0 ∧ PR (dy_X M t) (q2_M N n P) ∧ PW n (bn ln s) (d + 1) (q2_M N n P) := by
    intro g1 g2
    obtain ⟨⟨a1, a2, a3⟩, a4⟩ := q2_N hX hM hN hT hW r2
    refine ⟨g1, ⟨?_, ?_, ?_⟩, a4⟩
    · show t.1 + gone_X M t = _
      rw [g1, a1, r1, Int32.add_zero]
    · show t.2.1 + 1 = _
      rw [a2]
    · show TR (if t.2.1 - t.2.1 / 3 * 3 = 2 then he_X M (thd_X M t) else thd_X M t) _
      rw [g2]
      exact a3
  by_cases c0 : m < bn ln s
  · obtain ⟨i, hi, s1, s2, s3, s4⟩ := sa_N hX hM hN c0
    have cl : t.1 < M.1 3 5 := by
      rw [em2, e35]
      exact nI_lt c0 (by omega)
    have eg : gr_X M t.1 = nI (gd i) := by
      unfold gr_X
      rw [em2, s1, s3]
    unfold dd_M
    cases hL : lm_l N P w n none with
    | none =>
      have l9 : ld_X M t.2.2.1 t.2.2.2 = -9 := by rw [hl, hL]; rfl
      dsimp only
      refine plain ?_ ?_
      · unfold gone_X
        rw [if_neg (fun hx => hx.2 l9)]
      · unfold thd_X
        rw [if_neg (fun hx => hx.1.2 l9)]
    | some j =>
      have hjn := hj j hL
      have lj : ld_X M t.2.2.1 t.2.2.2 = nI j := by rw [hl, hL]; rfl
      have l9 : ¬ ld_X M t.2.2.1 t.2.2.2 = -9 := by
        rw [lj]
        exact fv_9 (by omega)
      obtain ⟨p1, p2, p3⟩ := hN.2.1 j hjn
      obtain ⟨q1, q2, q3⟩ := hN.2.2 i hi
      obtain ⟨th, ht, eth, _⟩ := hW.2.2 j (by omega)
      obtain ⟨v, v1, v2, ev⟩ := sp_N p1 p2 p3 ht
      obtain ⟨b, b1, b2, eb1, eb2⟩ := mo_N q3 v1 v2
      obtain ⟨c1, c2⟩ := nI_b (b := b) hm h72 b2
      have esm : sm_M N P j = nI v := by
        unfold sm_M
        rw [(hM.2.1 j hjn).1, (hM.2.1 j hjn).2, eth, ev]
      have esp : sp_X (pc_X M (nI j)) (kd_X M (nI j)) (tf_X t.2.2.2 (nI j)) = nI v := by
        rw [pc_N hX hN hjn, kd_N hX hN hjn]
        unfold tf_X
        rw [if_pos ⟨nI_pos (by omega), nI_lt (b := 5) (by omega) (by omega)⟩, nI_clamp (by omega), hT j (by omega), eth, sp_eq p3, ev]
      obtain ⟨g, hg, e1, e2⟩ : ∃ g : Nat, m + g ≤ bn ln s ∧ gone_X M t = nI g ∧ b1_M N P (nI b) = nI g := by
        unfold gone_X b1_M
        rw [if_pos ⟨cl, l9⟩]
        unfold by_X
        rw [lj, esp, eg, eb1, e35, hM.1.2.2, em2, em]
        by_cases c3 : bn ln s < m + b
        · refine ⟨bn ln s - m, by omega, ?_, ?_⟩
          · rw [if_pos (c1.mpr (by omega)), pk_sub hm]
          · rw [if_pos (c2.mpr c3), pk_sub hm]
        · refine ⟨b, by omega, ?_, ?_⟩
          · rw [if_neg (fun hx => c3 (by have := c1.mp hx; omega))]
          · rw [if_neg (fun hx => c3 (c2.mp hx))]
      dsimp only
      rw [em, s2, if_neg (show ¬ nI i = -9 from fun hx => by
        have h8 : ∀ i, i < 8 → ¬ nI i = -9 := by decide +kernel
        exact h8 i (by have := hN.1.2; omega) hx), nI_clamp (by have := hN.1.2; omega), s4, esm, eb2, e2]
      have hT0 : TR t.2.2.2 (up_f P 0 (P 0 + nI g)) := TR_0 hT (by omega)
      have hW0 : TW n (up_f P 0 (P 0 + nI g)) := TW_0 hW.2.2 (by omega)
      have key : TR (thd_X M t) (q1_M P (nI g) (nI (gd i)) j) ∧ TW n (q1_M P (nI g) (nI (gd i)) j) ∧ q1_M P (nI g) (nI (gd i)) j 0 = nI (m + g) ∧ q1_M P (nI g) (nI (gd i)) j 1 = P 1 := by
        unfold thd_X q1_M
        rw [eg, lj]
        by_cases c3 : nI (gd i) = 3
        · rw [if_pos ⟨⟨cl, by rw [← lj]; exact l9⟩, c3⟩, if_pos c3]
          obtain ⟨x1, x2⟩ := pr_N hX hN hT0 hW0 hjn
          refine ⟨x1, x2, ?_, ?_⟩
          · simp only [up_M, up_f]
            rw [if_neg (by omega), if_pos trivial, em, nI_add]
          · simp only [up_M, up_f]
            rw [if_neg (by omega), if_neg (by omega)]
        · rw [if_neg (fun hx => c3 hx.2), if_neg c3]
          refine ⟨hT0, hW0, ?_, ?_⟩
          · simp only [up_f]
            rw [if_pos trivial, em, nI_add]
          · simp only [up_f]
            rw [if_neg (by omega)]
      obtain ⟨k1, k2, k3, k4⟩ := key
      obtain ⟨⟨a1, a2, a3⟩, a4⟩ := q2_N hX hM hN (d := d) k1 ⟨⟨m + g, hg, k3⟩, by rw [k4]; exact hW.2.1, k2⟩ (y := t.2.1) (by rw [k4]; exact r2)
      refine ⟨e1, ⟨?_, ?_, ?_⟩, a4⟩
      · show t.1 + gone_X M t = q2_M N n (q1_M P (nI g) (nI (gd i)) j) 0
        rw [a1, k3, e1, em2, nI_add]
      · show t.2.1 + 1 = q2_M N n (q1_M P (nI g) (nI (gd i)) j) 1
        rw [a2]
      · exact a3
  · have hme : m = bn ln s := by omega
    have ncl : ¬ t.1 < M.1 3 5 := by
      rw [em2, e35]
      exact nI_nlt (by omega) (by omega)
    have eg : gone_X M t = 0 := by
      unfold gone_X
      rw [if_neg (fun hx => ncl hx.1)]
    have et : thd_X M t = t.2.2.2 := by
      unfold thd_X
      rw [if_neg (fun hx => ncl hx.1.1)]
    have e9 : sa_l N (P 0) s 0 (-9) = -9 := by
      rw [em, hme]
      exact sa_E hM hN
    unfold dd_M
    cases hL : lm_l N P w n none with
    | none => exact plain eg et
    | some j =>
      dsimp only
      rw [if_pos e9]
      exact plain eg et
theorem dy_p {t : mr_T} : (dy_X M t).2.2.1 = t.2.2.1 := rfl
theorem its_p {t : mr_T} : ∀ k, (its_X M k t).2.2.1 = t.2.2.1
  | 0 => rfl
  | k + 1 => its_p k
/-- days -/
theorem its_N (hX : XE M n s ln gd pc kd) (hM : ME N n s ln gd pc kd) (hN : NE n s ln gd pc kd) {t : mr_T} {P : Nat → Int32} {d : Nat} (hR : PR t P) (hW : PW n (bn ln s) d P) {w : Int32} (hk : MK n t.2.2.1 w) : ∀ k, PR (its_X M k t) (it_M N n s w k P) ∧ PW n (bn ln s) (d + k) (it_M N n s w k P)
  | 0 => ⟨hR, hW⟩
  | k + 1 => by
    obtain ⟨h1, h2⟩ := its_N hX hM hN hR hW hk k
    exact (dy_N hX hM hN h1 h2 (by rw [its_p]; exact hk)).2
theorem PW_end (hX : XE M n s ln gd pc kd) (hM : ME N n s ln gd pc kd) (hN : NE n s ln gd pc kd) {t : mr_T} {P : Nat → Int32} {d : Nat} (hR : PR t P) (hW : PW n (bn ln s) d P) : (t.1 < M.1 3 5) ↔ ¬ P 0 = N.1 30 10 := by
  have h72 := bn_72 hN (k := s) (Nat.le_refl _)
  obtain ⟨m, hm, em⟩ := hW.1
  rw [hR.1, em, hX.1.2.2, hM.1.2.2, nI_ltI (by omega) (by omega), nI_eq (by omega) (by omega)]
  omega
/-- when they are there -/
theorem ge_N (hX : XE M n s ln gd pc kd) (hM : ME N n s ln gd pc kd) (hN : NE n s ln gd pc kd) : ∀ (j k : Nat) {t : mr_T} {P : Nat → Int32} {d : Nat}, PR t P → PW n (bn ln s) d P → MK n t.2.2.1 31 → (ge_X M j k t).1 = co_l N n s (j + 1) k P
  | 0, k, t, P, d, hR, hW, hk => by
    have he := PW_end hX hM hN hR hW
    simp only [ge_X, co_l]
    by_cases c : P 0 = N.1 30 10
    · rw [if_neg (fun hx => he.mp hx c), if_pos c]
    · rw [if_pos (he.mpr c), if_neg c]
  | j + 1, k, t, P, d, hR, hW, hk => by
    have he := PW_end hX hM hN hR hW
    unfold ge_X co_l
    by_cases c : P 0 = N.1 30 10
    · rw [if_neg (fun hx => he.mp hx c), if_pos c]
    · rw [if_pos (he.mpr c), if_neg c]
      obtain ⟨_, h1, h2⟩ := dy_N hX hM hN hR hW hk
      exact ge_N hX hM hN j (k + 1) h1 h2 hk
/-- in time: so many days or fewer -/
theorem ge_T : ∀ (d D k : Nat) (t : mr_T), d ≤ D → k + D < 100 → ((ge_X M D k t).1 = -9 ∧ (ge_X M d k t).1 = -9) ∨ ∃ j, k ≤ j ∧ j ≤ k + D ∧ (ge_X M D k t).1 = nI j ∧ (if j ≤ k + d then (ge_X M d k t).1 = nI j else (ge_X M d k t).1 = -9)
  | 0, 0, k, t, _, _ => by
    simp only [ge_X]
    by_cases c : t.1 < M.1 3 5
    · rw [if_pos c]
      exact Or.inl ⟨rfl, rfl⟩
    · rw [if_neg c]
      refine Or.inr ⟨k, Nat.le_refl _, by omega, rfl, ?_⟩
      rw [if_pos (by omega)]
  | 0, D + 1, k, t, _, hD => by
    unfold ge_X
    by_cases c : t.1 < M.1 3 5
    · rw [if_pos c, if_pos c]
      rcases ge_T 0 D (k + 1) (dy_X M t) (by omega) (by omega) with h | ⟨j, h1, h2, h3, h4⟩
      · exact Or.inl ⟨h.1, rfl⟩
      · refine Or.inr ⟨j, by omega, by omega, h3, ?_⟩
        rw [if_neg (by omega)]
    · rw [if_neg c, if_neg c]
      refine Or.inr ⟨k, Nat.le_refl _, by omega, rfl, ?_⟩
      rw [if_pos (by omega)]
  | d + 1, 0, k, t, h, _ => by omega
  | d + 1, D + 1, k, t, h, hD => by
    unfold ge_X
    by_cases c : t.1 < M.1 3 5
    · rw [if_pos c, if_pos c]
      rcases ge_T d D (k + 1) (dy_X M t) (by omega) (by omega) with h | ⟨j, h1, h2, h3, h4⟩
      · exact Or.inl h
      · refine Or.inr ⟨j, by omega, by omega, h3, ?_⟩
        rw [show k + (d + 1) = k + 1 + d by omega]
        exact h4
    · rw [if_neg c, if_neg c]
      refine Or.inr ⟨k, Nat.le_refl _, by omega, rfl, ?_⟩
      rw [if_pos (by omega)]
theorem nI_99 {j : Nat} (h : j < 100) : ¬ nI j = -9 := by
  have h8 : ∀ i, i < 100 → ¬ nI i = -9 := by decide +kernel
  exact h8 j h
/-- in time, as the class asks it and as the model does -/
theorem it_T (hX : XE M n s ln gd pc kd) (hM : ME N n s ln gd pc kd) (hN : NE n s ln gd pc kd) {t : mr_T} {P : Nat → Int32} {d x : Nat} (hR : PR t P) (hW : PW n (bn ln s) d P) (hk : MK n t.2.2.1 31) (hx : x ≤ 20) : (¬ (ge_X M x 0 t).1 = -9) ↔ (¬ co_l N n s 61 0 P = -9 ∧ ¬ nI x < co_l N n s 61 0 P) := by
  rw [← ge_N hX hM hN 60 0 hR hW hk]
  rcases ge_T (M := M) x 60 0 t (by omega) (by omega) with ⟨h1, h2⟩ | ⟨j, h1, h2, h3, h4⟩
  · rw [h1, h2]
    exact ⟨fun h => absurd rfl h, fun h => absurd rfl h.1⟩
  · rw [h3]
    by_cases c : j ≤ 0 + x
    · rw [if_pos c] at h4
      rw [h4]
      exact ⟨fun h => ⟨h, nI_nlt (by omega) (by omega)⟩, fun h => h.1⟩
    · rw [if_neg c] at h4
      rw [h4]
      exact ⟨fun h => absurd rfl h, fun h => absurd (nI_lt (by omega) (by omega)) h.2⟩
end EQ3
