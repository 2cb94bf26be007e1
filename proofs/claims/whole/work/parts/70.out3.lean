/-! BOTH SIDES: paces, rests -/
section OUT3
variable {M M1 N : ab_M} {n s : Nat} {ln gd pc kd : Nat → Nat} {k z a t : Nat}
theorem ft_N (hD : TD M t) {q : Nat} (hq : q ≤ 3) {p : Int32} (h44 : N.1 44 = M.1 44) (h45 : N.1 45 = M.1 45) (h46 : N.1 46 = M.1 46) : ∀ (j i : Nat), i + j = t → fi_M N (nI q) p j i 1 = ft_l M (nI q) p j i ∧ fi_M N (nI q) p j i 0 = 0
  | 0, _, _ => ⟨rfl, rfl⟩
  | j + 1, i, hi => by
    obtain ⟨e1, e2, e3, e4⟩ := hD.2 i (by omega)
    obtain ⟨h1, h2⟩ := ft_N hD hq (p := p) h44 h45 h46 j (i + 1) (by omega)
    unfold fi_M ft_l
    refine ⟨?_, ?_⟩
    · rw [if_neg (show ¬ (1 : Int32) = 0 by decide), h44, h45, h46, e1, e2, e3, sp_eq hq]
      have e5 : (if M.1 46 i = 1 then (1 : Int32) else 0) = M.1 46 i := by
        rcases e4 with h | h <;> rw [h] <;> rfl
      rw [e5]
      generalize (if M.1 45 i < sp_M p (nI q) (M.1 44 i) then (0 : Int32) else 1) = v
      by_cases c : v = M.1 46 i
      · rw [if_pos c, if_pos c]
        exact h1
      · rw [if_neg c, if_neg c]
        exact h2
    · rw [if_pos rfl]
      exact h2
theorem nt_N (hD : TD M t) : nt_X M = t := by
  have := hD.1.1
  unfold nt_X
  rw [hD.1.2.1, nI_clamp (by omega)]
  omega
theorem ftX_N (hD : TD M t) {q : Nat} (hq : q ≤ 3) {p : Int32} (h44 : N.1 44 = M.1 44) (h45 : N.1 45 = M.1 45) (h46 : N.1 46 = M.1 46) : fi_M N (nI q) p t 0 1 = ft_X M (nI q) p := by
  unfold ft_X
  rw [nt_N hD]
  exact (ft_N hD hq h44 h45 h46 t 0 (by omega)).1
/-- the paces in tens with a gap, and in nines -/
theorem cf_s {r i : Nat} {c : Int32} (h : ¬ i % 10 = 9) : cf_l M (r + 1) i c = cf_l M r (i + 1) (if ft_X M (nI (i / 10)) (nI (i % 10 + 1)) = 0 then c else c + 1) := by
  rw [cf_l, if_neg h]
  split <;> rfl
theorem cf_g {r i : Nat} {c : Int32} (h : i % 10 = 9) : cf_l M (r + 1) i c = cf_l M r (i + 1) c := by
  rw [cf_l, if_pos h]
theorem cf_N (hD : TD M t) (h44 : N.1 44 = M.1 44) (h45 : N.1 45 = M.1 45) (h46 : N.1 46 = M.1 46) : ∀ (j i : Nat) (c f : Int32), i + j = 27 → cf_l M (29 - (10 * (i / 9) + i % 9)) (10 * (i / 9) + i % 9) c = (pc_l N t j i c f).1
  | 0, i, c, f, hi => by
    have : i = 27 := by omega
    subst this
    rfl
  | j + 1, i, c, f, hi => by
    have ih := fun c f => cf_N hD h44 h45 h46 j (i + 1) c f (by omega)
    obtain ⟨r, hr⟩ : ∃ r, 29 - (10 * (i / 9) + i % 9) = r + 1 := ⟨28 - (10 * (i / 9) + i % 9), by omega⟩
    rw [hr, cf_s (by omega), show (10 * (i / 9) + i % 9) / 10 = i / 9 by omega, show (10 * (i / 9) + i % 9) % 10 = i % 9 by omega]
    unfold pc_l
    rw [ftX_N hD (by omega) h44 h45 h46]
    have step : ∀ c f, cf_l M r (10 * (i / 9) + i % 9 + 1) c = (pc_l N t j (i + 1) c f).1 := by
      intro c f
      rw [← ih c f]
      by_cases c9 : (i + 1) % 9 = 0
      · by_cases r0 : r = 0
        · subst r0
          have : 29 - (10 * ((i + 1) / 9) + (i + 1) % 9) = 0 := by omega
          rw [this]
          rfl
        · obtain ⟨r', hr'⟩ : ∃ r', r = r' + 1 := ⟨r - 1, by omega⟩
          subst hr'
          rw [cf_g (by omega), show 10 * (i / 9) + i % 9 + 1 + 1 = 10 * ((i + 1) / 9) + (i + 1) % 9 by omega, show 29 - (10 * ((i + 1) / 9) + (i + 1) % 9) = r' by omega]
      · rw [show 10 * (i / 9) + i % 9 + 1 = 10 * ((i + 1) / 9) + (i + 1) % 9 by omega, show 29 - (10 * ((i + 1) / 9) + (i + 1) % 9) = r by omega]
    by_cases c1 : ft_X M (nI (i / 9)) (nI (i % 9 + 1)) = 0
    · rw [if_pos c1, if_pos c1]
      exact step _ _
    · rw [if_neg c1, if_neg c1]
      exact step _ _
theorem ff_g {r i : Nat} (h : i % 10 = 9) : ff_l M (r + 1) i = ff_l M r (i + 1) := by
  rw [ff_l, if_pos h]
theorem pc_f {f : Int32} : ∀ (j i : Nat) (c : Nat), 0 < c → c + j < 100 → (pc_l N t j i (nI c) f).2 = f
  | 0, _, _, _, _ => rfl
  | j + 1, i, c, h0, hc => by
    unfold pc_l
    split
    · exact pc_f j (i + 1) c h0 (by omega)
    · rw [if_neg (nI_ne0 h0 (by omega)), nI_1]
      exact pc_f j (i + 1) (c + 1) (by omega) (by omega)
theorem ff_N (hD : TD M t) (h44 : N.1 44 = M.1 44) (h45 : N.1 45 = M.1 45) (h46 : N.1 46 = M.1 46) : ∀ (j i : Nat), i + j = 27 → ff_l M (29 - (10 * (i / 9) + i % 9)) (10 * (i / 9) + i % 9) = (pc_l N t j i 0 (-9)).2
  | 0, i, hi => by
    have : i = 27 := by omega
    subst this
    rfl
  | j + 1, i, hi => by
    have ih := ff_N hD h44 h45 h46 j (i + 1) (by omega)
    obtain ⟨r, hr⟩ : ∃ r, 29 - (10 * (i / 9) + i % 9) = r + 1 := ⟨28 - (10 * (i / 9) + i % 9), by omega⟩
    rw [hr, ff_l, if_neg (by omega), show (10 * (i / 9) + i % 9) / 10 = i / 9 by omega, show (10 * (i / 9) + i % 9) % 10 = i % 9 by omega]
    unfold pc_l
    rw [ftX_N hD (by omega) h44 h45 h46]
    by_cases c1 : ft_X M (nI (i / 9)) (nI (i % 9 + 1)) = 0
    · rw [if_pos c1, if_pos c1, ← ih]
      by_cases c9 : (i + 1) % 9 = 0
      · by_cases r0 : r = 0
        · subst r0
          have : 29 - (10 * ((i + 1) / 9) + (i + 1) % 9) = 0 := by omega
          rw [this]
          rfl
        · obtain ⟨r', hr'⟩ : ∃ r', r = r' + 1 := ⟨r - 1, by omega⟩
          subst hr'
          rw [ff_g (by omega), show 10 * (i / 9) + i % 9 + 1 + 1 = 10 * ((i + 1) / 9) + (i + 1) % 9 by omega, show 29 - (10 * ((i + 1) / 9) + (i + 1) % 9) = r' by omega]
      · rw [show 10 * (i / 9) + i % 9 + 1 = 10 * ((i + 1) / 9) + (i + 1) % 9 by omega, show 29 - (10 * ((i + 1) / 9) + (i + 1) % 9) = r by omega]
    · rw [if_neg c1, if_neg c1, if_pos rfl]
      have := pc_f (N := N) (t := t) (f := 10 * nI (i / 9) + nI (i % 9) + 1) j (i + 1) 1 (by omega) (by omega)
      rw [show (0 : Int32) + 1 = nI 1 from rfl, this, Int32.add_assoc, nI_1]
theorem w_paces {y : Int32} (hk : k + 1 ≤ 1000) (h : RLK k M) : CX s_X8_paces s_X9_paces [.ref 0, .int y] [.ref 30, .int y] k M := by
  obtain ⟨_, n, s, ln, gd, pc, kd, z, a, t, hR⟩ := h
  have hR0 := hR
  obtain ⟨hN, hX, hM, hT, hW, hA, hP, hD, hS⟩ := hR
  intro Po hK
  have fin := fin_t0 SX_rf SM_rf rfl hk hR0
  show if y = 0 ∨ y = 1 then _ else _
  by_cases c3 : y = 0 ∨ y = 1
  · rw [if_pos c3]
    have c4 := ch_i.mp c3
    by_cases c5 : y = 0
    · rw [if_pos c5]
      refine hK _ _ (fun Po' hP' => ⟨t, hD.1.1, hD.1.2.2, ?_⟩)
      rw [if_pos c4]
      intro N hj
      rw [if_pos c5, ← cf_N (N := t0 M) hD rfl rfl rfl 27 0 0 (-9) (by omega)]
      exact hP' _ (fin_jj SX_rf SM_rf rfl hk hR0 hj)
    · rw [if_neg c5]
      refine hK _ _ (fun Po' hP' => ⟨t, hD.1.1, hD.1.2.2, ?_⟩)
      rw [if_pos c4]
      intro N hj
      rw [if_neg c5, ← ff_N (N := t0 M) hD rfl rfl rfl 27 0 (by omega)]
      exact hP' _ (fin_jj SX_rf SM_rf rfl hk hR0 hj)
  · rw [if_neg c3]
    refine hK _ _ (fun Po' hP' => ⟨t, hD.1.1, hD.1.2.2, ?_⟩)
    rw [if_neg (fun hx => c3 (ch_i.mpr hx))]
    exact hP' _ fin
theorem PR_uM {r : mr_T} {P : Nat → Int32} (h : PR r P) {f : Nat → Int32} {j : Nat} (hT : TR f (up_M P j)) : PR (r.1, r.2.1, r.2.2.1, f) (up_M P j) := PR_0 h hT
theorem wp_N (hX : XE M n s ln gd pc kd) (hM : ME N n s ln gd pc kd) (hN : NE n s ln gd pc kd) {d : Nat} (hR : PR (nw_X M) (N.1 38)) (hW : PW n (bn ln s) d (N.1 38)) {a b : Nat} (ha : a < n) (hb : b < n) : ∀ j, j < 4 → PR (wp_s M (nI a) (nI b) (M.1 13) j) (gp_M N n s a b j (N.1 38)) := by
  obtain ⟨a1, a2⟩ := pr_N hX hN hR.2.2 hW.2.2 ha
  obtain ⟨b1, b2⟩ := pr_N hX hN hR.2.2 hW.2.2 hb
  obtain ⟨c1, c2⟩ := pr_N hX hN a1 a2 hb
  have ra := PR_uM hR a1
  have wa := PW_0 hW a2
  have mk := nw_k (M := M) hN
  intro j hj
  rcases (show j = 0 ∨ j = 1 ∨ j = 2 ∨ j = 3 by omega) with rfl | rfl | rfl | rfl
  · exact (its_N hX hM hN hR hW mk 3).1
  · exact (its_N hX hM hN (PR_uM hR b1) (PW_0 hW b2) mk 3).1
  · exact (its_N hX hM hN ra wa mk 3).1
  · exact (its_N hX hM hN (PR_uM ra c1) (PW_0 wa c2) mk 3).1
theorem on_N (hX : XE M n s ln gd pc kd) (hM : ME N n s ln gd pc kd) (hN : NE n s ln gd pc kd) {d : Nat} (hR : PR (nw_X M) (N.1 38)) (hW : PW n (bn ln s) d (N.1 38)) {a b : Nat} (ha : a < n) (hb : b < n) {j : Nat} (hj : j < 4) {c : Nat} : (wp_s M (nI a) (nI b) (M.1 13) j).1 - M.1 12 3 + (if ld_X M (wp_s M (nI a) (nI b) (M.1 13) j).2.2.1 (wp_s M (nI a) (nI b) (M.1 13) j).2.2.2 = nI c then 4 else 0) = (gp_M N n s a b j (N.1 38)) 0 - N.1 38 0 + (if fv_M (lm_l N (gp_M N n s a b j (N.1 38)) 31 n none) = nI c then 4 else 0) := by
  obtain ⟨h1, h2, h3⟩ := wp_N hX hM hN hR hW ha hb j hj
  rw [(ld_eq hX hM hN h3 (p := (wp_s M (nI a) (nI b) (M.1 13) j).2.2.1) (w := 31) (by unfold wp_s; rw [its_p]; exact nw_k (M := M) hN)).1, h1, show M.1 12 3 = N.1 38 0 from hR.1]
theorem rr_N {g h p : Nat → Int32} {N' : ab_M} (hg : ∀ j, j < 4 → g j = p (2 * j)) (hh : ∀ j, j < 4 → h j = p (2 * j + 1)) (h21 : N'.1 21 = g) (h22 : N'.1 22 = h) : rc_1 N' (rc_1 N' (rc_1 N' (rc_1 N' 0 0) 1) 2) 3 = (rr_M p).1 ∧ (if ir_X N' 0 = 0 then (if ir_X N' 1 = 0 then (if ir_X N' 2 = 0 then (if ir_X N' 3 = 0 then -9 else fr_v 3) else fr_v 2) else fr_v 1) else fr_v 0) = (rr_M p).2 := by
  have i0 : ir_X N' 0 = if p 0 < p 4 then 0 else if p 1 < p 3 then 0 else 1 := by
    unfold ir_X
    rw [h21, h22]
    show (if g 0 < g 2 then 0 else if h 0 < h 1 then 0 else 1) = _
    rw [hg 0 (by omega), hg 2 (by omega), hh 0 (by omega), hh 1 (by omega)]
  have i1 : ir_X N' 1 = if p 2 < p 6 then 0 else if p 3 < p 1 then 0 else 1 := by
    unfold ir_X
    rw [h21, h22]
    show (if g 1 < g 3 then 0 else if h 1 < h 0 then 0 else 1) = _
    rw [hg 1 (by omega), hg 3 (by omega), hh 1 (by omega), hh 0 (by omega)]
  have i2 : ir_X N' 2 = if p 4 < p 0 then 0 else if p 5 < p 7 then 0 else 1 := by
    unfold ir_X
    rw [h21, h22]
    show (if g 2 < g 0 then 0 else if h 2 < h 3 then 0 else 1) = _
    rw [hg 2 (by omega), hg 0 (by omega), hh 2 (by omega), hh 3 (by omega)]
  have i3 : ir_X N' 3 = if p 6 < p 2 then 0 else if p 7 < p 5 then 0 else 1 := by
    unfold ir_X
    rw [h21, h22]
    show (if g 3 < g 1 then 0 else if h 3 < h 2 then 0 else 1) = _
    rw [hg 3 (by omega), hg 1 (by omega), hh 3 (by omega), hh 2 (by omega)]
  have rw4 : ∀ (i j k l : Nat) (v c : Int32) (w : Int32 × Int32) (x : Int32), ir_X N' x = (if p i < p j then 0 else if p k < p l then 0 else 1) → r4_1 p i j k l v w = (rc_1 N' w.1 x, if ir_X N' x = 0 then w.2 else if w.1 = 0 then v else w.2) := by
    intro i j k l v c w x e
    unfold r4_1 rc_1
    rw [e]
    by_cases c1 : p i < p j
    · rw [if_pos c1, if_pos c1, if_pos rfl, if_pos rfl]
    · rw [if_neg c1, if_neg c1]
      by_cases c2 : p k < p l
      · rw [if_pos c2, if_pos c2, if_pos rfl, if_pos rfl]
      · rw [if_neg c2, if_neg c2, if_neg (show ¬ (1 : Int32) = 0 by decide), if_neg (show ¬ (1 : Int32) = 0 by decide)]
  unfold rr_M
  rw [rw4 0 4 1 3 0 0 (0, -9) 0 i0, rw4 2 6 3 1 1 0 _ 1 i1, rw4 4 0 5 7 10 0 _ 2 i2, rw4 6 2 7 5 11 0 _ 3 i3]
  refine ⟨rfl, ?_⟩
  dsimp only
  unfold rc_1
  by_cases c0 : ir_X N' 0 = 0 <;> by_cases c1 : ir_X N' 1 = 0 <;> by_cases c2 : ir_X N' 2 = 0 <;> by_cases c3 : ir_X N' 3 = 0 <;> simp (decide := true) only [c0, c1, c2, c3, if_true, if_false]
theorem w_rests {x y w : Int32} (hk : k + 1 ≤ 1000) (h : RLK k M) : CX s_X8_rests s_X9_rests [.ref 0, .int x, .int y, .int w] [.ref 30, .int x, .int y, .int w] k M := by
  obtain ⟨_, n, s, ln, gd, pc, kd, z, a, t, hR⟩ := h
  have hR0 := hR
  obtain ⟨hN, hX, hM, hT, hW, hA, hP, hD, hS⟩ := hR
  have hn := hN.1.1
  intro Po hK
  have fin := fin_t0 SX_rf SM_rf rfl hk hR0
  have no : (¬ ∃ a b, a < n ∧ b < n ∧ x = nI a ∧ y = nI b) → Po (some (.int (-1))) M := fun hb => hK _ _ (fun Po' hP' => ⟨n, s, ct_N hM hN, fun a b h1 h2 h3 h4 => absurd ⟨a, b, h1, h2, h3, h4⟩ hb, fun _ => hP' _ fin⟩)
  show if ¬ x < 0 ∧ x < M.1 8 3 ∧ x < 5 then _ else _
  by_cases c1 : ¬ x < 0 ∧ x < M.1 8 3 ∧ x < 5
  · rw [if_pos c1]
    obtain ⟨a, ha, rfl⟩ := (man_i hX hN).mp c1
    by_cases c2 : ¬ y < 0 ∧ y < M.1 8 3 ∧ y < 5
    · rw [if_pos c2]
      obtain ⟨b, hb, rfl⟩ := (man_i hX hN).mp c2
      have ua : ∀ i, i < n → nI a = nI i → i = a := fun i h1 h2 => nI_inj hn (by omega) h1 ha h2.symm
      have ub : ∀ i, i < n → nI b = nI i → i = b := fun i h1 h2 => nI_inj hn (by omega) h1 hb h2.symm
      have nx : ∀ {P : Prop}, (¬ ∃ a' b', a' < n ∧ b' < n ∧ nI a = nI a' ∧ nI b = nI b') → P := fun hx => absurd ⟨a, b, ha, hb, rfl, rfl⟩ hx
      by_cases c3 : a = b
      · rw [if_pos (by rw [c3])]
        refine hK _ _ (fun Po' hP' => ⟨n, s, ct_N hM hN, fun a' b' h1 h2 h3 h4 => ?_, nx⟩)
        rw [if_pos (by rw [ua a' h1 h3, ub b' h2 h4, c3])]
        exact hP' _ fin
      · rw [if_neg (fun hx => c3 ((nI_eq (by omega) (by omega)).mp hx))]
        by_cases c4 : w = 0 ∨ w = 1
        · rw [if_pos c4]
          have c5 := ch_i.mp c4
          intro g h r hg hh
          have sx : SX M (mws (w2 M g h) 23 r) := SX_tr SX_w2 SX_23
          have sm : SM M (mws (w2 M g h) 23 r) := SM_tr SM_w2 SM_23
          have hM1 := ME_s SM_t0 (ME_s sm hM)
          obtain ⟨r1, r2⟩ := rr_N (g := g) (h := h) (p := gn_M (t0 (mws (w2 M g h) 23 r)) n s a b) (N' := mws (w2 M g h) 23 r) (fun j hj => by
            rw [hg j hj]
            unfold on_X on_v
            rw [on_N hX hM1 hN hW.2.1 hW.2.2 ha hb hj]
            rcases (show j = 0 ∨ j = 1 ∨ j = 2 ∨ j = 3 by omega) with rfl | rfl | rfl | rfl <;> rfl) (fun j hj => by
            rw [hh j hj]
            unfold ot_X ot_v
            rw [on_N hX hM1 hN hW.2.1 hW.2.2 ha hb hj]
            rcases (show j = 0 ∨ j = 1 ∨ j = 2 ∨ j = 3 by omega) with rfl | rfl | rfl | rfl <;> rfl) rfl rfl
          by_cases c6 : w = 0
          · rw [if_pos c6, r1]
            refine hK _ _ (fun Po' hP' => ⟨n, s, ct_N (ME_s sm hM) hN, fun a' b' h1 h2 h3 h4 => ?_, nx⟩)
            have e1 := ua a' h1 h3
            have e2 := ub b' h2 h4
            subst e1
            subst e2
            rw [if_neg c3, if_pos c5]
            intro N hj
            rw [if_pos c6]
            exact hP' _ (fin_jj sx sm rfl hk hR0 hj)
          · rw [if_neg c6, r2]
            refine hK _ _ (fun Po' hP' => ⟨n, s, ct_N (ME_s sm hM) hN, fun a' b' h1 h2 h3 h4 => ?_, nx⟩)
            have e1 := ua a' h1 h3
            have e2 := ub b' h2 h4
            subst e1
            subst e2
            rw [if_neg c3, if_pos c5]
            intro N hj
            rw [if_neg c6]
            exact hP' _ (fin_jj sx sm rfl hk hR0 hj)
        · rw [if_neg c4]
          refine hK _ _ (fun Po' hP' => ⟨n, s, ct_N hM hN, fun a' b' h1 h2 h3 h4 => ?_, nx⟩)
          rw [if_neg (by rw [ua a' h1 h3, ub b' h2 h4]; exact c3), if_neg (fun hx => c4 (ch_i.mpr hx))]
          exact hP' _ fin
    · rw [if_neg c2]
      exact no (fun ⟨_, b, _, hb, _, e⟩ => c2 ((man_i hX hN).mpr ⟨b, hb, e⟩))
  · rw [if_neg c1]
    exact no (fun ⟨a, _, ha, _, e, _⟩ => c1 ((man_i hX hN).mpr ⟨a, ha, e⟩))
end OUT3
