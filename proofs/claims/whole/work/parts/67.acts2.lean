/-! BOTH SIDES: day, halt, gravel, pull, undo, keep, again -/
section ACTS2
variable {M M1 N : ab_M} {n s : Nat} {ln gd pc kd : Nat → Nat} {k z a t : Nat}
theorem re_XE {u : Int64} (h : XE M n s ln gd pc kd) : XE (re_X M u) n s ln gd pc kd := XE_fr (by rw [re_r (by omega)]) (by rw [re_r (by omega)]) (by rw [re_r (by omega)]) (re_r (by omega)) (re_r (by omega)) (re_r (by omega)) (re_r (by omega)) (re_r (by omega)) (re_r (by omega)) h
theorem re_mrs {u : Int64} (h5 : M.1 12 5 = -1) : mrs (re_X M u) 12 = nw_X M := by
  unfold mrs nw_X
  rw [re_r (q := 12) (by omega), re_r (q := 12 + 1) (by omega), h5]
theorem st_N (hX : XE M n s ln gd pc kd) (hM : ME N n s ln gd pc kd) (hN : NE n s ln gd pc kd) {r : mr_T} {P : Nat → Int32} {d : Nat} (hR : PR r P) (hW : PW n (bn ln s) d P) : PR (st_X M r) (hh_M N n P) ∧ PW n (bn ln s) (d + 1) (hh_M N n P) := by
  obtain ⟨r1, r2, r3⟩ := hR
  obtain ⟨⟨m, hm, em⟩, ⟨j, hj, ej⟩, hT⟩ := hW
  obtain ⟨h1, h2⟩ := he_N hX hM hN r3 hT
  have z0 : hh_M N n P 0 = P 0 := by
    simp only [hh_M, up_f]
    rw [if_neg (by omega)]
    exact hk_0 n 0 (by omega)
  have z1 : hh_M N n P 1 = P 1 + 1 := by
    simp only [hh_M, up_f]
    rw [if_pos trivial, hk_0 n 1 (by omega)]
  refine ⟨⟨?_, ?_, TR_0 h1 (by omega)⟩, ⟨m, hm, by rw [z0, em]⟩, ⟨j + 1, by omega, by rw [z1, ej, nI_1]⟩, TW_0 h2 (by omega)⟩
  · rw [z0]
    exact r1
  · rw [z1]
    show r.2.1 + 1 = _
    rw [r2]
theorem AC_pos {e : Nat} (h : AC M n e k a) : ¬ M.1 14 1 < 0 := by
  rw [h.1.2.1]
  exact nI_pos (by have := h.1.1; omega)
theorem w_day (hk : k + 1 ≤ 1000) (h : RLK k M) : CX s_X8_day s_X9_day [.ref 0] [.ref 30] k M := by
  obtain ⟨_, n, s, ln, gd, pc, kd, z, a, t, hR⟩ := h
  have hR0 := hR
  obtain ⟨hN, hX, hM, hT, hW, hA, hP, hD, hS⟩ := hR
  intro Po hK
  have hX1 := re_XE (u := pn_X M) hX
  refine ⟨AC_pos hA, ?_⟩
  rw [re_mrs hW.1]
  have m38 : ∀ r : mr_T, (mws (re_X M (pn_X M)) 12 r).1 38 = M.1 38 := fun r => by
    show (re_X M (pn_X M)).1 38 = _
    exact re_r (by omega)
  have hM1 : ∀ r : mr_T, ME (mws (re_X M (pn_X M)) 12 r) n s ln gd pc kd := fun r => ME_fr (show (re_X M (pn_X M)).1 30 7 = _ by rw [re_r (by omega)]) (show (re_X M (pn_X M)).1 30 4 = _ by rw [re_r (by omega)]) (show (re_X M (pn_X M)).1 30 10 = _ by rw [re_r (by omega)]) (show (re_X M (pn_X M)).1 32 = _ from re_r (by omega)) (show (re_X M (pn_X M)).1 33 = _ from re_r (by omega)) (show (re_X M (pn_X M)).1 34 = _ from re_r (by omega)) (show (re_X M (pn_X M)).1 35 = _ from re_r (by omega)) hM
  obtain ⟨e1, e2, e3⟩ := dy_N hX1 (hM1 (dy_X (re_X M (pn_X M)) (nw_X M))) hN hW.2.1 hW.2.2 (nw_k hN)
  refine hK _ _ (fun Po' hP' => ⟨a, n, s, hA.1.1, ?_, ct_N (hM1 _) hN, ?_⟩)
  · show (re_X M (pn_X M)).1 30 19 = _
    rw [re_r (by omega)]
    exact hA.1.2.2
  · rw [m38, ← e1]
    exact hP' _ (act_N hk hR0 rfl e2 e3)
theorem al_N {f P : Nat → Int32} (h : TR f P) : 0 + f 0 + f 1 + f 2 + f 3 + f 4 = al_M P := by
  unfold al_M
  rw [show f 0 = P 2 from h 0 (by omega), show f 1 = P 3 from h 1 (by omega), show f 2 = P 4 from h 2 (by omega), show f 3 = P 5 from h 3 (by omega), show f 4 = P 6 from h 4 (by omega), Int32.zero_add]
theorem w_halt (hk : k + 1 ≤ 1000) (h : RLK k M) : CX s_X8_halt s_X9_halt [.ref 0] [.ref 30] k M := by
  obtain ⟨_, n, s, ln, gd, pc, kd, z, a, t, hR⟩ := h
  have hR0 := hR
  obtain ⟨hN, hX, hM, hT, hW, hA, hP, hD, hS⟩ := hR
  intro Po hK
  have hX1 := re_XE (u := pn_X M) hX
  refine ⟨AC_pos hA, ?_⟩
  unfold hl_X
  rw [re_mrs hW.1]
  have m38 : ∀ r : mr_T, (mws (re_X M (pn_X M)) 12 r).1 38 = M.1 38 := fun r => by
    show (re_X M (pn_X M)).1 38 = _
    exact re_r (by omega)
  have hM1 : ∀ r : mr_T, ME (mws (re_X M (pn_X M)) 12 r) n s ln gd pc kd := fun r => ME_fr (show (re_X M (pn_X M)).1 30 7 = _ by rw [re_r (by omega)]) (show (re_X M (pn_X M)).1 30 4 = _ by rw [re_r (by omega)]) (show (re_X M (pn_X M)).1 30 10 = _ by rw [re_r (by omega)]) (show (re_X M (pn_X M)).1 32 = _ from re_r (by omega)) (show (re_X M (pn_X M)).1 33 = _ from re_r (by omega)) (show (re_X M (pn_X M)).1 34 = _ from re_r (by omega)) (show (re_X M (pn_X M)).1 35 = _ from re_r (by omega)) hM
  obtain ⟨e2, e3⟩ := st_N hX1 (hM1 (st_X (re_X M (pn_X M)) (nw_X M))) hN hW.2.1 hW.2.2
  refine hK _ _ (fun Po' hP' => ⟨a, n, s, hA.1.1, ?_, ct_N (hM1 _) hN, ?_⟩)
  · show (re_X M (pn_X M)).1 30 19 = _
    rw [re_r (by omega)]
    exact hA.1.2.2
  · rw [m38, ← al_N e2.2.2]
    exact hP' _ (act_N hk hR0 rfl e2 e3)
theorem re_13 {u : Int64} : (re_X M u).1 13 = M.1 13 := re_r (by omega)
theorem si_mws {i : Nat} {x : Int32} (h5 : M.1 12 5 = -1) {u : Int64} : ab_si (re_X M u) 13 i x = mws (re_X M u) 12 ((nw_X M).1, (nw_X M).2.1, (nw_X M).2.2.1, up_f (nw_X M).2.2.2 i x) := by
  have e : re_X M u = mws (re_X M u) 12 (nw_X M) := by
    rw [← re_mrs (u := u) h5, mws_id]
  have e2 : ab_si (mws (re_X M u) 12 (nw_X M)) 13 i x = mws (re_X M u) 12 ((nw_X M).1, (nw_X M).2.1, (nw_X M).2.2.1, up_f (nw_X M).2.2.2 i x) := mw_t (q := 12)
  rw [← e] at e2
  exact e2
theorem w_gravel {x : Int32} (hk : k + 1 ≤ 1000) (h : RLK k M) : CX s_X8_gravel s_X9_gravel [.ref 0, .int x] [.ref 30, .int x] k M := by
  obtain ⟨_, n, s, ln, gd, pc, kd, z, a, t, hR⟩ := h
  have hR0 := hR
  obtain ⟨hN, hX, hM, hT, hW, hA, hP, hD, hS⟩ := hR
  have hn := hN.1.1
  have fin := fin_t0 SX_rf SM_rf rfl hk hR0
  obtain ⟨w5, ⟨r1, r2, r3⟩, hPW⟩ := id hW
  intro Po hK
  show if ¬ x < 0 ∧ x < M.1 8 3 ∧ x < 5 then _ else _
  by_cases c : ¬ x < 0 ∧ x < M.1 8 3 ∧ x < 5
  · rw [if_pos c]
    obtain ⟨i, hi, rfl⟩ := (man_i hX hN).mp c
    have u : ∀ i', i' < n → nI i = nI i' → i' = i := fun i' h1 h2 => nI_inj hn (by omega) h1 hi h2.symm
    obtain ⟨th, ht, eth, _⟩ := hPW.2.2 i (by omega)
    have e13 : M.1 13 i = nI th := by rw [show M.1 13 i = M.1 38 (2 + i) from r3 i (by omega), eth]
    have eth2 : th_X M 12 (nI i) = nI th := by
      unfold th_X
      rw [if_pos ⟨c.1, c.2.2⟩, nI_clamp (by omega)]
      exact e13
    obtain ⟨i9, _, j9, _, _⟩ := i_9 th (by omega)
    rw [eth2]
    by_cases c9 : th < 9
    · rw [if_pos (i9.mpr c9)]
      refine ⟨AC_pos hA, ?_⟩
      have e8 : (re_X M (pn_X M)).1 8 3 = M.1 8 3 := by rw [re_r (by omega)]
      have ep : pk_m (re_X M (pn_X M)) (nI i) = mws (re_X M (pn_X M)) 12 ((nw_X M).1, (nw_X M).2.1, (nw_X M).2.2.1, up_f (nw_X M).2.2.2 i (nI (th + 1))) := by
        unfold pk_m
        rw [e8, re_13, nI_clamp (by omega), e13, if_pos ⟨c, i9.mpr c9⟩, nI_1]
        exact si_mws w5
      have ev : th_X (pk_m (re_X M (pn_X M)) (nI i)) 12 (nI i) = nI (th + 1) := by
        rw [ep]
        unfold th_X
        rw [if_pos ⟨c.1, c.2.2⟩, nI_clamp (by omega)]
        show (if i = i then nI (th + 1) else _) = _
        rw [if_pos rfl]
      rw [ev, ep]
      have eu : up_M (M.1 38) i = up_f (M.1 38) (2 + i) (nI (th + 1)) := by
        unfold up_M
        rw [eth, if_pos (i9.mpr c9), nI_1]
      have m38 : ∀ r : mr_T, (mws (re_X M (pn_X M)) 12 r).1 38 = M.1 38 := fun r => by
        show (re_X M (pn_X M)).1 38 = _
        exact re_r (by omega)
      have hM1 : ∀ r : mr_T, ME (mws (re_X M (pn_X M)) 12 r) n s ln gd pc kd := fun r => ME_fr (show (re_X M (pn_X M)).1 30 7 = _ by rw [re_r (by omega)]) (show (re_X M (pn_X M)).1 30 4 = _ by rw [re_r (by omega)]) (show (re_X M (pn_X M)).1 30 10 = _ by rw [re_r (by omega)]) (show (re_X M (pn_X M)).1 32 = _ from re_r (by omega)) (show (re_X M (pn_X M)).1 33 = _ from re_r (by omega)) (show (re_X M (pn_X M)).1 34 = _ from re_r (by omega)) (show (re_X M (pn_X M)).1 35 = _ from re_r (by omega)) hM
      refine hK _ _ (fun Po' hP' => ⟨a, n, s, hA.1.1, ?_, ct_N (hM1 _) hN, fun i' hi' e => ?_, fun hx => absurd rfl (hx i hi)⟩)
      · show (re_X M (pn_X M)).1 30 19 = _
        rw [re_r (by omega)]
        exact hA.1.2.2
      · have := u i' hi' e
        subst this
        rw [m38, eu, eth, if_neg (fun hx => by have := j9.mp hx; omega), show up_f (M.1 38) (2 + i') (nI (th + 1)) (2 + i') = nI (th + 1) by simp only [up_f, if_true]]
        refine hP' _ (act_N hk hR0 rfl ⟨?_, ?_, TR_up r3 rfl⟩ ⟨?_, ?_, TW_up hPW.2.2 hi (by omega)⟩)
        · show M.1 12 3 = (if 0 = 2 + i' then _ else M.1 38 0)
          rw [if_neg (by omega)]
          exact r1
        · show M.1 12 4 = (if 1 = 2 + i' then _ else M.1 38 1)
          rw [if_neg (by omega)]
          exact r2
        · obtain ⟨m, hm, em⟩ := hPW.1
          refine ⟨m, hm, ?_⟩
          show (if 0 = 2 + i' then _ else M.1 38 0) = _
          rw [if_neg (by omega), em]
        · obtain ⟨m, hm, em⟩ := hPW.2.1
          refine ⟨m, by omega, ?_⟩
          show (if 1 = 2 + i' then _ else M.1 38 1) = _
          rw [if_neg (by omega), em]
    · rw [if_neg (fun hx => c9 (i9.mp hx))]
      refine hK _ _ (fun Po' hP' => ⟨a, n, s, hA.1.1, hA.1.2.2, ct_N hM hN, fun i' hi' e => ?_, fun hx => absurd rfl (hx i hi)⟩)
      have := u i' hi' e
      subst this
      rw [if_pos (by rw [eth]; exact j9.mpr (by omega))]
      exact hP' _ fin
  · rw [if_neg c]
    exact hK _ _ (fun Po' hP' => ⟨a, n, s, hA.1.1, hA.1.2.2, ct_N hM hN, fun i hi e => absurd ((man_i hX hN).mpr ⟨i, hi, e⟩) c, fun _ => hP' _ fin⟩)
theorem w_pull {x : Int32} (hk : k + 1 ≤ 1000) (h : RLK k M) : CX s_X8_pull s_X9_pull [.ref 0, .int x] [.ref 30, .int x] k M := by
  obtain ⟨_, n, s, ln, gd, pc, kd, z, a, t, hR⟩ := h
  have hR0 := hR
  obtain ⟨hN, hX, hM, hT, hW, hA, hP, hD, hS⟩ := hR
  have hn := hN.1.1
  have fin := fin_t0 SX_rf SM_rf rfl hk hR0
  obtain ⟨w5, ⟨r1, r2, r3⟩, hPW⟩ := id hW
  intro Po hK
  show if ¬ x < 0 ∧ x < M.1 8 3 ∧ x < 5 then _ else _
  by_cases c : ¬ x < 0 ∧ x < M.1 8 3 ∧ x < 5
  · rw [if_pos c]
    obtain ⟨i, hi, rfl⟩ := (man_i hX hN).mp c
    have u : ∀ i', i' < n → nI i = nI i' → i' = i := fun i' h1 h2 => nI_inj hn (by omega) h1 hi h2.symm
    obtain ⟨th, ht, eth, _⟩ := hPW.2.2 i (by omega)
    have e13 : M.1 13 i = nI th := by rw [show M.1 13 i = M.1 38 (2 + i) from r3 i (by omega), eth]
    have eth2 : th_X M 12 (nI i) = nI th := by
      unfold th_X
      rw [if_pos ⟨c.1, c.2.2⟩, nI_clamp (by omega)]
      exact e13
    obtain ⟨_, i9, _, j9, k9⟩ := i_9 th (by omega)
    rw [eth2]
    by_cases c9 : 0 < th
    · rw [if_pos (i9.mpr c9)]
      refine ⟨AC_pos hA, ?_⟩
      have e8 : (re_X M (pn_X M)).1 8 3 = M.1 8 3 := by rw [re_r (by omega)]
      have ep : ea_m (re_X M (pn_X M)) (nI i) = mws (re_X M (pn_X M)) 12 ((nw_X M).1, (nw_X M).2.1, (nw_X M).2.2.1, up_f (nw_X M).2.2.2 i (nI (th - 1))) := by
        unfold ea_m
        rw [e8, re_13, nI_clamp (by omega), e13, if_pos ⟨c, i9.mpr c9⟩, k9 c9]
        exact si_mws w5
      have ev : th_X (ea_m (re_X M (pn_X M)) (nI i)) 12 (nI i) = nI (th - 1) := by
        rw [ep]
        unfold th_X
        rw [if_pos ⟨c.1, c.2.2⟩, nI_clamp (by omega)]
        show (if i = i then nI (th - 1) else _) = _
        rw [if_pos rfl]
      rw [ev, ep]
      have m38 : ∀ r : mr_T, (mws (re_X M (pn_X M)) 12 r).1 38 = M.1 38 := fun r => by
        show (re_X M (pn_X M)).1 38 = _
        exact re_r (by omega)
      have hM1 : ∀ r : mr_T, ME (mws (re_X M (pn_X M)) 12 r) n s ln gd pc kd := fun r => ME_fr (show (re_X M (pn_X M)).1 30 7 = _ by rw [re_r (by omega)]) (show (re_X M (pn_X M)).1 30 4 = _ by rw [re_r (by omega)]) (show (re_X M (pn_X M)).1 30 10 = _ by rw [re_r (by omega)]) (show (re_X M (pn_X M)).1 32 = _ from re_r (by omega)) (show (re_X M (pn_X M)).1 33 = _ from re_r (by omega)) (show (re_X M (pn_X M)).1 34 = _ from re_r (by omega)) (show (re_X M (pn_X M)).1 35 = _ from re_r (by omega)) hM
      refine hK _ _ (fun Po' hP' => ⟨a, n, s, hA.1.1, ?_, ct_N (hM1 _) hN, fun i' hi' e => ?_, fun hx => absurd rfl (hx i hi)⟩)
      · show (re_X M (pn_X M)).1 30 19 = _
        rw [re_r (by omega)]
        exact hA.1.2.2
      · have := u i' hi' e
        subst this
        rw [m38, eth, if_neg (fun hx => by have := j9.mp hx; omega), k9 c9]
        refine hP' _ (act_N hk hR0 rfl ⟨?_, ?_, TR_up r3 rfl⟩ ⟨?_, ?_, TW_up hPW.2.2 hi (by omega)⟩)
        · show M.1 12 3 = (if 0 = 2 + i' then _ else M.1 38 0)
          rw [if_neg (by omega)]
          exact r1
        · show M.1 12 4 = (if 1 = 2 + i' then _ else M.1 38 1)
          rw [if_neg (by omega)]
          exact r2
        · obtain ⟨m, hm, em⟩ := hPW.1
          refine ⟨m, hm, ?_⟩
          show (if 0 = 2 + i' then _ else M.1 38 0) = _
          rw [if_neg (by omega), em]
        · obtain ⟨m, hm, em⟩ := hPW.2.1
          refine ⟨m, by omega, ?_⟩
          show (if 1 = 2 + i' then _ else M.1 38 1) = _
          rw [if_neg (by omega), em]
    · rw [if_neg (fun hx => c9 (i9.mp hx))]
      refine hK _ _ (fun Po' hP' => ⟨a, n, s, hA.1.1, hA.1.2.2, ct_N hM hN, fun i' hi' e => ?_, fun hx => absurd rfl (hx i hi)⟩)
      have := u i' hi' e
      subst this
      rw [if_pos (by rw [eth]; exact j9.mpr (by omega))]
      exact hP' _ fin
  · rw [if_neg c]
    exact hK _ _ (fun Po' hP' => ⟨a, n, s, hA.1.1, hA.1.2.2, ct_N hM hN, fun i hi e => absurd ((man_i hX hN).mpr ⟨i, hi, e⟩) c, fun _ => hP' _ fin⟩)
/-- a page that was packed is unpacked -/
theorem un_N {P : Nat → Int32} {e d : Nat} (hp : PW n e d P) (he : e ≤ 72) (hd : d ≤ 1000) {f Q : Nat → Int32} (hq : ∀ i, i < 7 → Q i = P i) : PR (up_m (PK P), up_d (PK P), -1, fi_5 (up_t (PK P)) f) Q ∧ PW n e d Q := by
  obtain ⟨⟨h1, h2⟩, h3, _⟩ := PK_up hp he hd
  refine ⟨⟨?_, ?_, fun i hi => ?_⟩, PW_c (fun i hi => (hq i hi).symm) hp⟩
  · rw [hq 0 (by omega)]
    exact h1
  · rw [hq 1 (by omega)]
    exact h2
  · show (if i < 5 then up_t (PK P) i else f i) = _
    rw [if_pos hi, hq (2 + i) (by omega)]
    exact h3 i hi
theorem w_undo (hk : k + 1 ≤ 1000) (h : RLK k M) : CX s_X8_undo s_X9_undo [.ref 0] [.ref 30] k M := by
  obtain ⟨hk0, n, s, ln, gd, pc, kd, z, a, t, hR⟩ := h
  have hR0 := hR
  obtain ⟨hN, hX, hM, hT, hW, hA, hP, hD, hS⟩ := hR
  have h72 := bn_72 hN (k := s) (Nat.le_refl _)
  obtain ⟨⟨ha, e1, e2⟩, hA2⟩ := id hA
  intro Po hK
  show if M.1 14 1 = 0 then _ else _
  by_cases c : a = 0
  · rw [if_pos (by rw [e1, c]; rfl)]
    refine hK _ _ (fun Po' hP' => ⟨a, ha, e2, ?_⟩)
    rw [if_pos c]
    exact hP' _ (fin_t0 SX_rf SM_rf rfl hk hR0)
  · rw [e1, if_neg (nI_ne0 (by omega) (by omega))]
    refine ⟨nI_lt (a := 0) (by omega) (by omega), nI_nlt (a := 14) (by omega) (by omega), ?_⟩
    have em : nI a - 1 = nI (a - 1) := pk_sub (b := 1) (by omega)
    rw [em, nI_clamp (by omega)]
    obtain ⟨b1, b2⟩ := hA2 (a - 1) (by omega)
    refine hK _ _ (fun Po' hP' => ⟨a, ha, e2, ?_⟩)
    rw [if_neg c]
    have hq : ∀ i, i < 7 → (cpk (fun i => M.1 41 (7 * (a - 1) + i)) (M.1 38) 7) i = (fun i => M.1 41 (7 * (a - 1) + i)) i := fun i hi => by
      show (if i < 7 then _ else _) = _
      rw [if_pos hi]
    obtain ⟨x1, x2⟩ := un_N b1 h72 hk0 (f := M.1 13) hq
    rw [← b2] at x1
    refine hP' _ ⟨hk, n, s, ln, gd, pc, kd, z, a - 1, t, hN, XE_fr rfl rfl rfl rfl rfl rfl rfl rfl rfl hX, ME_fr rfl rfl rfl rfl rfl rfl rfl hM, TX_fr rfl rfl rfl rfl hT, ⟨hW.1, x1, PW_mo (by omega) x2⟩, ⟨⟨by omega, rfl, rfl⟩, fun j hj => ⟨PW_mo (by omega) (hA2 j (by omega)).1, (hA2 j (by omega)).2⟩⟩, KP_mo (by omega) (KP_fr rfl rfl rfl hP), TD_fr rfl rfl rfl rfl rfl rfl rfl rfl hD, hS⟩
theorem w_keep {x : Int32} (hk : k + 1 ≤ 1000) (h : RLK k M) : CX s_X8_keep s_X9_keep [.ref 0, .int x] [.ref 30, .int x] k M := by
  obtain ⟨_, n, s, ln, gd, pc, kd, z, a, t, hR⟩ := h
  have hR0 := hR
  obtain ⟨hN, hX, hM, hT, hW, hA, hP, hD, hS⟩ := hR
  have fin := fin_t0 SX_rf SM_rf rfl hk hR0
  intro Po hK
  have no : ¬ (¬ x < 0 ∧ ¬ 1 < x) → Po (some (.int (-1))) M := fun hx => hK _ _ (fun Po' hP' => ⟨fun c hc e => absurd (by
    rw [e]
    exact ⟨nI_pos (by omega), nI_nlt (a := 1) (by omega) (by omega)⟩) hx, fun _ => hP' _ fin⟩)
  show if x < 0 then _ else _
  by_cases c1 : x < 0
  · rw [if_pos c1]
    exact no (fun hx => hx.1 c1)
  rw [if_neg c1]
  by_cases c2 : x < 2
  · rw [if_pos c2]
    obtain ⟨c, hc, rfl⟩ := nI_of c1
    have hc2 : c < 2 := (nI_ltI (b := 2) hc (by omega)).mp c2
    rw [nI_clamp hc]
    refine hK _ _ (fun Po' hP' => ⟨fun c' hc' e => ?_, fun hx => absurd ⟨c1, nI_nlt (a := 1) (by omega) (by omega)⟩ hx⟩)
    have : c' = c := nI_inj (b := 2) (Nat.le_refl _) (by omega) hc' hc2 e.symm
    subst this
    have ev : (t0 (ab_sl M 29 c' (pn_X M))).1 38 1 = M.1 12 4 := hW.2.1.2.1.symm
    rw [ev]
    refine hP' _ ⟨hk, n, s, ln, gd, pc, kd, z, a, t, hN, XE_fr rfl rfl rfl rfl rfl rfl rfl rfl rfl hX, ME_fr rfl rfl rfl rfl rfl rfl rfl hM, TX_fr rfl rfl rfl rfl hT, NW_mo (by omega) (NW_fr rfl rfl rfl rfl rfl hW), AC_mo (by omega) (AC_fr rfl rfl rfl rfl hA), fun d hd => ?_, TD_fr rfl rfl rfl rfl rfl rfl rfl rfl hD, hS⟩
    show ((if 43 = 43 ∧ d = c' then (1 : Int32) else M.1 43 d) = 0 ∧ (if 29 = 29 ∧ d = c' then pn_X M else M.2 29 d) = -1) ∨ ((if 43 = 43 ∧ d = c' then (1 : Int32) else M.1 43 d) = 1 ∧ PW n (bn ln s) (k + 1) (fun i => bw_k (M.1 42) c' (M.1 38) 7 (7 * d + i)) ∧ (if 29 = 29 ∧ d = c' then pn_X M else M.2 29 d) = PK (fun i => bw_k (M.1 42) c' (M.1 38) 7 (7 * d + i)))
    by_cases c3 : d = c'
    · subst c3
      right
      have e1 : ∀ i, i < 7 → M.1 38 i = (fun i => bw_k (M.1 42) d (M.1 38) 7 (7 * d + i)) i := fun i hi => by
        show M.1 38 i = bw_k (M.1 42) d (M.1 38) 7 (7 * d + i)
        unfold bw_k
        rw [if_pos (by omega), show 7 * d + i - 7 * d = i by omega]
      rw [if_pos ⟨rfl, rfl⟩, if_pos ⟨rfl, rfl⟩]
      refine ⟨rfl, PW_c e1 (PW_mo (by omega) hW.2.2), ?_⟩
      rw [pn_N hW]
      exact PK_c e1
    · have e1 : ∀ i, i < 7 → (fun i => M.1 42 (7 * d + i)) i = (fun i => bw_k (M.1 42) c' (M.1 38) 7 (7 * d + i)) i := fun i hi => by
        show M.1 42 (7 * d + i) = bw_k (M.1 42) c' (M.1 38) 7 (7 * d + i)
        unfold bw_k
        rw [if_neg (by omega)]
      rw [if_neg (fun hx => c3 hx.2), if_neg (fun hx => c3 hx.2)]
      rcases hP d hd with h | ⟨h1, h2, h3⟩
      · exact Or.inl h
      · exact Or.inr ⟨h1, PW_c e1 (PW_mo (by omega) h2), h3.trans (PK_c e1)⟩
  · rw [if_neg c2]
    refine no (fun hx => c2 ?_)
    obtain ⟨c, hc, rfl⟩ := nI_2 x hx
    exact nI_lt (b := 2) hc (by omega)
theorem w_again {x : Int32} (hk : k + 1 ≤ 1000) (h : RLK k M) : CX s_X8_again s_X9_again [.ref 0, .int x] [.ref 30, .int x] k M := by
  obtain ⟨hk0, n, s, ln, gd, pc, kd, z, a, t, hR⟩ := h
  have hR0 := hR
  obtain ⟨hN, hX, hM, hT, hW, hA, hP, hD, hS⟩ := hR
  have h72 := bn_72 hN (k := s) (Nat.le_refl _)
  have fin := fin_t0 SX_rf SM_rf rfl hk hR0
  intro Po hK
  have no : ¬ (¬ x < 0 ∧ ¬ 1 < x) → Po (some (.int (-1))) M := fun hx => hK _ _ (fun Po' hP' => ⟨fun c hc e => absurd (by
    rw [e]
    exact ⟨nI_pos (by omega), nI_nlt (a := 1) (by omega) (by omega)⟩) hx, fun _ => hP' _ fin⟩)
  show if x < 0 then _ else _
  by_cases c1 : x < 0
  · rw [if_pos c1]
    exact no (fun hx => hx.1 c1)
  rw [if_neg c1]
  by_cases c2 : x < 2
  · rw [if_pos c2]
    obtain ⟨c, hc, rfl⟩ := nI_of c1
    have hc2 : c < 2 := (nI_ltI (b := 2) hc (by omega)).mp c2
    rw [nI_clamp hc]
    have u : ∀ c', c' < 2 → nI c = nI c' → c' = c := fun c' h1 h2 => nI_inj (b := 2) (Nat.le_refl _) (by omega) h1 hc2 h2.symm
    rcases hP c hc2 with ⟨h1, h2⟩ | ⟨h1, h2, h3⟩
    · rw [if_pos h2]
      refine hK _ _ (fun Po' hP' => ⟨fun c' hc' e => ?_, fun hx => absurd ⟨c1, nI_nlt (a := 1) (by omega) (by omega)⟩ hx⟩)
      have := u c' hc' e
      subst this
      rw [if_pos h1]
      exact hP' _ fin
    · obtain ⟨⟨u1, u2⟩, _, u4⟩ := PK_up h2 h72 hk0
      rw [h3, if_neg u4, u2]
      refine hK _ _ (fun Po' hP' => ⟨fun c' hc' e => ?_, fun hx => absurd ⟨c1, nI_nlt (a := 1) (by omega) (by omega)⟩ hx⟩)
      have := u c' hc' e
      subst this
      have hq : ∀ i, i < 7 → (cpk (fun i => M.1 42 (7 * c' + i)) (M.1 38) 7) i = (fun i => M.1 42 (7 * c' + i)) i := fun i hi => by
        show (if i < 7 then _ else _) = _
        rw [if_pos hi]
      obtain ⟨x1, x2⟩ := un_N h2 h72 hk0 (f := M.1 13) hq
      show if M.1 43 c' = 0 then _ else _
      rw [if_neg (show ¬ M.1 43 c' = 0 by rw [h1]; decide)]
      exact hP' _ ⟨hk, n, s, ln, gd, pc, kd, z, 0, t, hN, XE_fr rfl rfl rfl rfl rfl rfl rfl rfl rfl hX, ME_fr rfl rfl rfl rfl rfl rfl rfl hM, TX_fr rfl rfl rfl rfl hT, ⟨hW.1, x1, PW_mo (by omega) x2⟩, ⟨⟨by omega, rfl, rfl⟩, fun j hj => by omega⟩, KP_mo (by omega) (KP_fr rfl rfl rfl hP), TD_fr rfl rfl rfl rfl rfl rfl rfl rfl hD, hS⟩
  · rw [if_neg c2]
    refine no (fun hx => c2 ?_)
    obtain ⟨c, hc, rfl⟩ := nI_2 x hx
    exact nI_lt (b := 2) hc (by omega)
end ACTS2
