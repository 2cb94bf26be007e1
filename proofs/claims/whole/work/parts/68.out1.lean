/-! BOTH SIDES: later, comes, leads, cure, judge, campaigns -/
section OUT1
variable {M M1 N : ab_M} {n s : Nat} {ln gd pc kd : Nat → Nat} {k z a t : Nat}
theorem nc_N (hX : XE M n s ln gd pc kd) (hN : NE n s ln gd pc kd) : nc_X M = n := by
  have := hN.1.1
  unfold nc_X
  rw [hX.1.1, nI_clamp (by omega)]
theorem w_later {x y : Int32} (hk : k + 1 ≤ 1000) (h : RLK k M) : CX s_X8_later s_X9_later [.ref 0, .int x, .int y] [.ref 30, .int x, .int y] k M := by
  obtain ⟨_, n, s, ln, gd, pc, kd, z, a, t, hR⟩ := h
  have hR0 := hR
  obtain ⟨hN, hX, hM, hT, hW, hA, hP, hD, hS⟩ := hR
  intro Po hK
  have fin := fin_t0 SX_rf SM_rf rfl hk hR0
  have bad : ¬ ((¬ x < 0 ∧ ¬ 40 < x) ∧ (¬ y < 0 ∧ ¬ 1 < y)) → Po (some (.int (-2))) M := fun hb => by
    refine hK _ _ (fun Po' hP' => ⟨n, s, ct_N hM hN, ?_⟩)
    by_cases c1 : ¬ x < 0 ∧ ¬ 40 < x
    · rw [if_pos c1, if_neg (fun c3 => hb ⟨c1, c3⟩)]
      exact hP' _ fin
    · rw [if_neg c1]
      exact hP' _ fin
  show if x < 0 then _ else _
  by_cases c1 : x < 0
  · rw [if_pos c1]
    exact bad (fun hx => hx.1.1 c1)
  rw [if_neg c1]
  by_cases c2 : 40 < x
  · rw [if_pos c2]
    exact bad (fun hx => hx.1.2 c2)
  rw [if_neg c2]
  by_cases c3 : y = 0 ∨ y = 1
  · rw [if_pos c3]
    have c4 := ch_i.mp c3
    have key : ∀ r : mr_T, PR (its_X M x.toNatClampNeg (nw_X M)) (it_M (t0 (mws M 18 r)) n s 31 x.toNatClampNeg (M.1 38)) := fun r => (its_N hX (ME_s SM_t0 (ME_s SM_18 hM)) hN hW.2.1 hW.2.2 (nw_k hN) _).1
    by_cases c5 : y = 0
    · rw [if_pos c5]
      intro r
      refine hK _ _ (fun Po' hP' => ⟨n, s, ct_N (ME_s SM_18 hM) hN, ?_⟩)
      rw [if_pos ⟨c1, c2⟩, if_pos c4]
      intro N hj
      rw [if_pos c5, show (t0 (mws M 18 r)).1 38 = M.1 38 from rfl, ← (key r).1]
      exact hP' _ (fin_jj SX_18 SM_18 rfl hk hR0 hj)
    · rw [if_neg c5]
      intro r
      refine hK _ _ (fun Po' hP' => ⟨n, s, ct_N (ME_s SM_18 hM) hN, ?_⟩)
      rw [if_pos ⟨c1, c2⟩, if_pos c4]
      intro N hj
      rw [if_neg c5, show (t0 (mws M 18 r)).1 38 = M.1 38 from rfl, ← (ld_eq hX (ME_s SM_t0 (ME_s SM_18 hM)) hN (p := (its_X M x.toNatClampNeg (nw_X M)).2.2.1) (key r).2.2 (by rw [its_p]; exact nw_k hN)).1]
      exact hP' _ (fin_jj SX_18 SM_18 rfl hk hR0 hj)
  · rw [if_neg c3]
    exact bad (fun hx => c3 (ch_i.mpr hx.2))
theorem w_comes (hk : k + 1 ≤ 1000) (h : RLK k M) : CX s_X8_comes s_X9_comes [.ref 0] [.ref 30] k M := by
  obtain ⟨_, n, s, ln, gd, pc, kd, z, a, t, hR⟩ := h
  have hR0 := hR
  obtain ⟨hN, hX, hM, hT, hW, hA, hP, hD, hS⟩ := hR
  intro Po hK r
  refine hK _ _ (fun Po' hP' => ⟨n, s, ct_N (ME_s SM_18 hM) hN, fun N hj => ?_⟩)
  rw [show (t0 (mws M 18 r)).1 38 = M.1 38 from rfl, ← ge_N hX (ME_s SM_t0 (ME_s SM_18 hM)) hN 60 0 hW.2.1 hW.2.2 (nw_k hN)]
  exact hP' _ (fin_jj SX_18 SM_18 rfl hk hR0 hj)
theorem dl_N (hX : XE M n s ln gd pc kd) (hM : ME N n s ln gd pc kd) (hN : NE n s ln gd pc kd) {x : Int32} : ∀ (j i : Nat) {r : mr_T} {P : Nat → Int32} {d : Nat}, PR r P → PW n (bn ln s) d P → MK n r.2.2.1 31 → dl_l M x j i r = le_l N n s x j i P
  | 0, _, _, _, _, _, _, _ => rfl
  | j + 1, i, r, P, d, hR, hW, hk => by
    unfold dl_l le_l
    rw [(ld_eq hX hM hN hR.2.2 hk).1]
    split
    · rfl
    · obtain ⟨_, h1, h2⟩ := dy_N hX hM hN hR hW hk
      exact dl_N hX hM hN j (i + 1) h1 h2 hk
theorem w_leads {x : Int32} (hk : k + 1 ≤ 1000) (h : RLK k M) : CX s_X8_leads s_X9_leads [.ref 0, .int x] [.ref 30, .int x] k M := by
  obtain ⟨_, n, s, ln, gd, pc, kd, z, a, t, hR⟩ := h
  have hR0 := hR
  obtain ⟨hN, hX, hM, hT, hW, hA, hP, hD, hS⟩ := hR
  intro Po hK
  have fin := fin_t0 SX_rf SM_rf rfl hk hR0
  show if ¬ x < 0 ∧ x < M.1 8 3 ∧ x < 5 then _ else _
  by_cases c : ¬ x < 0 ∧ x < M.1 8 3 ∧ x < 5
  · rw [if_pos c]
    intro r
    refine hK _ _ (fun Po' hP' => ⟨n, s, ct_N (ME_s SM_18 hM) hN, fun i hi e N hj => ?_, fun hx => ?_⟩)
    · rw [show (t0 (mws M 18 r)).1 38 = M.1 38 from rfl, ← dl_N hX (ME_s SM_t0 (ME_s SM_18 hM)) hN 41 0 hW.2.1 hW.2.2 (nw_k hN)]
      exact hP' _ (fin_jj SX_18 SM_18 rfl hk hR0 hj)
    · obtain ⟨i, hi, e⟩ := (man_i hX hN).mp c
      exact absurd e (hx i hi)
  · rw [if_neg c]
    exact hK _ _ (fun Po' hP' => ⟨n, s, ct_N hM hN, fun i hi e => absurd ((man_i hX hN).mpr ⟨i, hi, e⟩) c, fun _ => hP' _ fin⟩)
theorem PW_0 {e d : Nat} {P : Nat → Int32} (h : PW n e d P) {j : Nat} {x : Int32} (hT : TW n (up_f P (2 + j) x)) : PW n e d (up_f P (2 + j) x) := by
  obtain ⟨⟨m, hm, em⟩, ⟨i, hi, ei⟩, _⟩ := h
  refine ⟨⟨m, hm, ?_⟩, ⟨i, hi, ?_⟩, hT⟩
  · simp only [up_f]
    rw [if_neg (by omega), em]
  · simp only [up_f]
    rw [if_neg (by omega), ei]
theorem PR_0 {r : mr_T} {P : Nat → Int32} (h : PR r P) {f : Nat → Int32} {j : Nat} {x : Int32} (hT : TR f (up_f P (2 + j) x)) : PR (r.1, r.2.1, r.2.2.1, f) (up_f P (2 + j) x) := by
  refine ⟨?_, ?_, hT⟩
  · simp only [up_f]
    rw [if_neg (by omega)]
    exact h.1
  · simp only [up_f]
    rw [if_neg (by omega)]
    exact h.2.1
/-- a thorn more, or less, of a man told by a figure -/
theorem pr_D (hX : XE M n s ln gd pc kd) (hN : NE n s ln gd pc kd) {r : mr_T} {P : Nat → Int32} {d e : Nat} (hR : PR r P) (hW : PW n (bn ln s) d P) (he : e < 10) : ((((¬ nI e < 0 ∧ nI e < M.1 8 3 ∧ nI e < 5) ∧ tf_X r.2.2.2 (nI e) < 9) ↔ (e < n ∧ P (2 + e) < 9))) ∧ PR (r.1, r.2.1, r.2.2.1, pr_X M r.2.2.2 (nI e)) (if e < n ∧ P (2 + e) < 9 then up_M P e else P) ∧ PW n (bn ln s) d (if e < n ∧ P (2 + e) < 9 then up_M P e else P) := by
  have hn := hN.1.1
  by_cases c : e < n
  · have c0 := X_men hX hN c
    have et : tf_X r.2.2.2 (nI e) = P (2 + e) := by
      unfold tf_X
      rw [if_pos ⟨c0.1, c0.2.2⟩, nI_clamp (by omega)]
      exact hR.2.2 e (by omega)
    refine ⟨?_, ?_⟩
    · rw [et]
      exact ⟨fun h => ⟨c, h.2⟩, fun h => ⟨c0, h.2⟩⟩
    · obtain ⟨h1, h2⟩ := pr_N hX hN hR.2.2 hW.2.2 c
      by_cases c9 : P (2 + e) < 9
      · rw [if_pos ⟨c, c9⟩]
        exact ⟨PR_0 hR h1, PW_0 hW h2⟩
      · rw [if_neg (fun hx => c9 hx.2)]
        have e2 : pr_X M r.2.2.2 (nI e) = r.2.2.2 := by
          unfold pr_X
          rw [if_neg]
          intro hx
          rw [nI_clamp (by omega), hR.2.2 e (by omega)] at hx
          exact c9 hx.2
        rw [e2]
        exact ⟨hR, hW⟩
  · have c0 : ¬ (¬ nI e < 0 ∧ nI e < M.1 8 3 ∧ nI e < 5) := fun hx => by
      obtain ⟨i, hi, e1⟩ := (man_i hX hN).mp hx
      have := (nI_eq (by omega) (by omega)).mp e1
      omega
    refine ⟨⟨fun h => absurd h.1 c0, fun h => absurd h.1 c⟩, ?_⟩
    rw [if_neg (fun hx => c hx.1)]
    have e2 : pr_X M r.2.2.2 (nI e) = r.2.2.2 := by
      unfold pr_X
      rw [if_neg (fun hx => c0 hx.1)]
    rw [e2]
    exact ⟨hR, hW⟩
theorem ea_D (hX : XE M n s ln gd pc kd) (hN : NE n s ln gd pc kd) {r : mr_T} {P : Nat → Int32} {d e : Nat} (hR : PR r P) (hW : PW n (bn ln s) d P) (he : e < 10) : ((((¬ nI e < 0 ∧ nI e < M.1 8 3 ∧ nI e < 5) ∧ 0 < tf_X r.2.2.2 (nI e)) ↔ (e < n ∧ 0 < P (2 + e)))) ∧ PR (r.1, r.2.1, r.2.2.1, ea_X M r.2.2.2 (nI e)) (if e < n ∧ 0 < P (2 + e) then up_f P (2 + e) (P (2 + e) - 1) else P) ∧ PW n (bn ln s) d (if e < n ∧ 0 < P (2 + e) then up_f P (2 + e) (P (2 + e) - 1) else P) := by
  have hn := hN.1.1
  by_cases c : e < n
  · have c0 := X_men hX hN c
    have et : tf_X r.2.2.2 (nI e) = P (2 + e) := by
      unfold tf_X
      rw [if_pos ⟨c0.1, c0.2.2⟩, nI_clamp (by omega)]
      exact hR.2.2 e (by omega)
    refine ⟨?_, ?_⟩
    · rw [et]
      exact ⟨fun h => ⟨c, h.2⟩, fun h => ⟨c0, h.2⟩⟩
    · by_cases c9 : 0 < P (2 + e)
      · obtain ⟨h1, h2⟩ := ea_N hX hN hR.2.2 hW.2.2 c c9
        rw [if_pos ⟨c, c9⟩]
        exact ⟨PR_0 hR h1, PW_0 hW h2⟩
      · rw [if_neg (fun hx => c9 hx.2)]
        have e2 : ea_X M r.2.2.2 (nI e) = r.2.2.2 := by
          unfold ea_X
          rw [if_neg]
          intro hx
          rw [nI_clamp (by omega), hR.2.2 e (by omega)] at hx
          exact c9 hx.2
        rw [e2]
        exact ⟨hR, hW⟩
  · have c0 : ¬ (¬ nI e < 0 ∧ nI e < M.1 8 3 ∧ nI e < 5) := fun hx => by
      obtain ⟨i, hi, e1⟩ := (man_i hX hN).mp hx
      have := (nI_eq (by omega) (by omega)).mp e1
      omega
    refine ⟨⟨fun h => absurd h.1 c0, fun h => absurd h.1 c⟩, ?_⟩
    rw [if_neg (fun hx => c hx.1)]
    have e2 : ea_X M r.2.2.2 (nI e) = r.2.2.2 := by
      unfold ea_X
      rw [if_neg (fun hx => c0 hx.1)]
    rw [e2]
    exact ⟨hR, hW⟩
theorem cu_N (hX : XE M n s ln gd pc kd) (hM : ME N n s ln gd pc kd) (hN : NE n s ln gd pc kd) {d : Nat} (hR : PR (nw_X M) (N.1 38)) (hW : PW n (bn ln s) d (N.1 38)) : ∀ (j i : Nat) (b f : Int32), i + j = n → (b = -9 ↔ f = -9) → cu_l M 60 j i b f = cq_l N n s j i f b
  | 0, _, _, _, _, _ => rfl
  | j + 1, i, b, f, hi, hb => by
    have hn := hN.1.1
    have c0 := X_men hX hN (i := i) (by omega)
    have et : th_X M 12 (nI i) = N.1 38 (2 + i) := by
      unfold th_X
      rw [if_pos ⟨c0.1, c0.2.2⟩, nI_clamp (by omega)]
      exact hR.2.2 i (by omega)
    unfold cu_l cq_l
    by_cases c : 0 < N.1 38 (2 + i)
    · have ed : de_n M 60 (nI i) = cm_1 N n s i := by
        unfold de_n cm_1
        rw [et, if_pos ⟨c0, c⟩]
        obtain ⟨h1, h2⟩ := ea_N hX hN hR.2.2 hW.2.2 (j := i) (by omega) c
        exact ge_N hX hM hN 60 0 (PR_0 hR h1) (PW_0 hW h2) (nw_k (M := M) hN)
      rw [ed]
      by_cases c2 : ¬ cm_1 N n s i = -9 ∧ (b = -9 ∨ cm_1 N n s i < f)
      · rw [if_pos c2, if_pos ⟨c, c2.1, by rw [← hb]; exact c2.2⟩]
        exact cu_N hX hM hN hR hW j (i + 1) _ _ (by omega) ⟨fun h => absurd h (fv_9 (by omega)), fun h => absurd h c2.1⟩
      · rw [if_neg c2, if_neg (fun hx => c2 ⟨hx.2.1, by rw [hb]; exact hx.2.2⟩)]
        exact cu_N hX hM hN hR hW j (i + 1) _ _ (by omega) hb
    · have ed : de_n M 60 (nI i) = -9 := by
        unfold de_n
        rw [et, if_neg (fun hx => c hx.2)]
      rw [ed, if_neg (fun hx => hx.1 rfl), if_neg (fun hx => c hx.1)]
      exact cu_N hX hM hN hR hW j (i + 1) _ _ (by omega) hb
theorem w_cure {y : Int32} (hk : k + 1 ≤ 1000) (h : RLK k M) : CX s_X8_cure s_X9_cure [.ref 0, .int y] [.ref 30, .int y] k M := by
  obtain ⟨_, n, s, ln, gd, pc, kd, z, a, t, hR⟩ := h
  have hR0 := hR
  obtain ⟨hN, hX, hM, hT, hW, hA, hP, hD, hS⟩ := hR
  intro Po hK
  have fin := fin_t0 SX_rf SM_rf rfl hk hR0
  show if y = 0 ∨ y = 1 then _ else _
  by_cases c3 : y = 0 ∨ y = 1
  · rw [if_pos c3]
    have c4 := ch_i.mp c3
    have key : ∀ r : mr_T, cu_l M 60 (nc_X M) 0 (-9) (-9) = cq_l (t0 (mws M 18 r)) n s n 0 (-9) (-9) := fun r => by
      rw [nc_N hX hN]
      exact cu_N hX (ME_s SM_t0 (ME_s SM_18 hM)) hN hW.2.1 hW.2.2 n 0 (-9) (-9) (by omega) Iff.rfl
    by_cases c5 : y = 0
    · rw [if_pos c5]
      intro r
      refine hK _ _ (fun Po' hP' => ⟨n, s, ct_N (ME_s SM_18 hM) hN, ?_⟩)
      rw [if_pos c4]
      intro N hj
      rw [if_pos c5, ← key r]
      exact hP' _ (fin_jj SX_18 SM_18 rfl hk hR0 hj)
    · rw [if_neg c5]
      intro r
      refine hK _ _ (fun Po' hP' => ⟨n, s, ct_N (ME_s SM_18 hM) hN, ?_⟩)
      rw [if_pos c4]
      intro N hj
      rw [if_neg c5, ← key r]
      exact hP' _ (fin_jj SX_18 SM_18 rfl hk hR0 hj)
  · rw [if_neg c3]
    refine hK _ _ (fun Po' hP' => ⟨n, s, ct_N hM hN, ?_⟩)
    rw [if_neg (fun hx => c3 (ch_i.mpr hx))]
    exact hP' _ fin
end OUT1
