/-! BOTH SIDES: the plan -/
section OUT4
variable {M M1 N : ab_M} {n s : Nat} {ln gd pc kd : Nat → Nat} {k z a t : Nat}
theorem po_N (hX : XE M n s ln gd pc kd) (hN : NE n s ln gd pc kd) {i b : Nat} (hi : i < n) (hb : b < 2 ^ 31) : po_X M (nI i) (nI b) = nI (d4 n b i) := by
  have hn := hN.1.1
  unfold po_X d4
  rw [hX.1.1, show (1 : Int32) = nI 1 from rfl, pk_sub (by omega), pk_sub (by omega)]
  have he : n - 1 - i ≤ 4 := by omega
  generalize n - 1 - i = e at he
  have h3 : ∀ q, q < 2 ^ 31 → nI q &&& 3 = nI (q % 4) := fun q hq => pk_andN (by omega) (m := 3) 2 (by decide)
  rcases (show e = 0 ∨ e = 1 ∨ e = 2 ∨ e = 3 ∨ e = 4 by omega) with rfl | rfl | rfl | rfl | rfl
  · rw [pk_shrN hb _ 0 (by decide), h3 _ (by omega)]
  · rw [pk_shrN hb _ 2 (by decide), h3 _ (by omega)]
  · rw [pk_shrN hb _ 4 (by decide), h3 _ (by omega)]
  · rw [pk_shrN hb _ 6 (by decide), h3 _ (by omega)]
  · rw [pk_shrN hb _ 8 (by decide), h3 _ (by omega)]
theorem uuf {P : Nat → Int32} {j : Nat} {x y : Int32} : up_f (up_f P j x) j y = up_f P j y := by
  funext i
  simp only [up_f]
  split <;> rfl
theorem uid {P : Nat → Int32} {j : Nat} {x : Int32} (h : P j = x) : up_f P j x = P := by
  funext i
  simp only [up_f]
  split
  · rename_i e
    rw [e, h]
  · rfl
theorem eas_N (hX : XE M n s ln gd pc kd) (hN : NE n s ln gd pc kd) {f P : Nat → Int32} (hT : TR f P) (hW : TW n P) {i : Nat} (hi : i < n) {u : Nat} (hu : u ≤ 9) (e : P (2 + i) = nI u) : ∀ c, c ≤ u → TR (eas_X M (nI i) c f) (up_f P (2 + i) (nI (u - c))) ∧ TW n (up_f P (2 + i) (nI (u - c)))
  | 0, _ => by
    rw [uid (by rw [e]; rfl)]
    exact ⟨hT, hW⟩
  | c + 1, hc => by
    obtain ⟨h1, h2⟩ := eas_N hX hN hT hW hi hu e c (by omega)
    have e1 : up_f P (2 + i) (nI (u - c)) (2 + i) = nI (u - c) := by simp only [up_f, if_true]
    obtain ⟨_, p1, _, _, p2⟩ := i_9 (u - c) (by omega)
    have h3 := ea_N hX hN h1 h2 hi (by rw [e1]; exact p1.mpr (by omega))
    rw [e1, p2 (by omega), uuf, show u - c - 1 = u - (c + 1) by omega] at h3
    exact h3
theorem d4_lt {b i : Nat} : d4 n b i < 4 := Nat.mod_lt _ (by omega)
/-- thorns pulled by figures -/
theorem pl_N (hX : XE M n s ln gd pc kd) (hN : NE n s ln gd pc kd) {A : Nat → Int32} (hA : TR (M.1 13) A) (hWA : TW n A) {b : Nat} (hb : b < 2 ^ 31) : ∀ (j i : Nat) (f P : Nat → Int32) (S : Nat) (w : Int32), i + j = n → TR f P → TW n P → (∀ i', i ≤ i' → i' < 5 → P (2 + i') = A (2 + i')) → S ≤ 3 * i →
    (cp_l M (nI b) j i = 0 ∧ (pl_M A n b j i (nI S) w P).1 = -9) ∨ (¬ cp_l M (nI b) j i = 0 ∧ ∃ S', S' ≤ 3 * n ∧ (pl_M A n b j i (nI S) w P).1 = nI S' ∧ pa_l M (nI b) j i (nI S) = nI S' ∧ (pl_M A n b j i (nI S) w P).2.1 = pf_l M (nI b) j i w ∧ TR (pl_l M (nI b) j i f) (pl_M A n b j i (nI S) w P).2.2 ∧ TW n (pl_M A n b j i (nI S) w P).2.2 ∧ (pl_M A n b j i (nI S) w P).2.2 0 = P 0 ∧ (pl_M A n b j i (nI S) w P).2.2 1 = P 1)
  | 0, i, f, P, S, w, hi, hT, hW, hP, hS => Or.inr ⟨by show ¬ (1 : Int32) = 0; decide, S, by omega, rfl, rfl, rfl, hT, hW, rfl, rfl⟩
  | j + 1, i, f, P, S, w, hi, hT, hW, hP, hS => by
    have hn := hN.1.1
    have c0 := X_men hX hN (i := i) (by omega)
    have et : th_X M 12 (nI i) = A (2 + i) := by
      unfold th_X
      rw [if_pos ⟨c0.1, c0.2.2⟩, nI_clamp (by omega)]
      exact hA i (by omega)
    have ep := po_N hX hN (i := i) (b := b) (by omega) hb
    have hd := d4_lt (n := n) (b := b) (i := i)
    obtain ⟨u, hu, eu, _⟩ := hWA i (by omega)
    have eP : P (2 + i) = nI u := by rw [hP i (by omega) (by omega), eu]
    unfold cp_l pl_M pa_l pf_l pl_l
    rw [et, ep, eu, nI_clamp (by omega)]
    by_cases c : u < d4 n b i
    · rw [if_pos (nI_lt c (by omega)), if_pos (nI_lt c (by omega))]
      exact Or.inl ⟨rfl, rfl⟩
    · rw [if_neg (nI_nlt (by omega) (by omega)), if_neg (nI_nlt (by omega) (by omega)), nI_add, eP, pk_sub (by omega)]
      obtain ⟨h1, h2⟩ := eas_N hX hN hT hW (by omega) hu eP (d4 n b i) (by omega)
      have h3 := pl_N hX hN hA hWA hb j (i + 1) _ _ (S + d4 n b i) (10 * w + nI (d4 n b i)) (by omega) h1 h2 (fun i' h4 h5 => by
        simp only [up_f]
        rw [if_neg (by omega)]
        exact hP i' (by omega) h5) (by omega)
      rcases h3 with h3 | ⟨h3, S', k1, k2, k3, k4, k5, k6, k7, k8⟩
      · exact Or.inl h3
      · refine Or.inr ⟨h3, S', k1, k2, k3, k4, k5, k6, ?_, ?_⟩
        · rw [k7]
          simp only [up_f]
          rw [if_neg (by omega)]
        · rw [k8]
          simp only [up_f]
          rw [if_neg (by omega)]
/-- a way of pulling -/
theorem w4_N (hX : XE M n s ln gd pc kd) (hM : ME N n s ln gd pc kd) (hN : NE n s ln gd pc kd) {d x : Nat} (hR : PR (nw_X M) (N.1 38)) (hW : PW n (bn ln s) d (N.1 38)) (hx : x ≤ 20) {b : Nat} (hb : b < 2 ^ 31) :
    (cp_l M (nI b) n 0 = 0 ∧ (w4 N n b).1 = -9) ∨ (¬ cp_l M (nI b) n 0 = 0 ∧ ¬ (w4 N n b).1 = -9 ∧ (w4 N n b).1 = pa_l M (nI b) n 0 0 ∧ (w4 N n b).2.1 = pf_l M (nI b) n 0 0 ∧ (¬ it_n M (nI b) x = 0 ↔ (¬ w4c N n s b = -9 ∧ ¬ nI x < w4c N n s b))) := by
  have hn := hN.1.1
  have key := pl_N hX hN hR.2.2 hW.2.2 hb n 0 (M.1 13) (N.1 38) 0 0 (by omega) hR.2.2 hW.2.2 (fun _ _ _ => rfl) (by omega)
  have key : (cp_l M (nI b) n 0 = 0 ∧ (w4 N n b).1 = -9) ∨ (¬ cp_l M (nI b) n 0 = 0 ∧ ∃ S', S' ≤ 3 * n ∧ (w4 N n b).1 = nI S' ∧ pa_l M (nI b) n 0 0 = nI S' ∧ (w4 N n b).2.1 = pf_l M (nI b) n 0 0 ∧ TR (pl_l M (nI b) n 0 (M.1 13)) (w4 N n b).2.2 ∧ TW n (w4 N n b).2.2 ∧ (w4 N n b).2.2 0 = N.1 38 0 ∧ (w4 N n b).2.2 1 = N.1 38 1) := key
  rcases key with h | ⟨h, S', k1, k2, k3, k4, k5, k6, k7, k8⟩
  · exact Or.inl h
  · refine Or.inr ⟨h, ?_, ?_, k4, ?_⟩
    · rw [k2]
      exact nI_99 (by omega)
    · rw [k2, k3]
    · have hR2 : PR (M.1 12 3, M.1 12 4, -1, pl_l M (nI b) n 0 (M.1 13)) (w4 N n b).2.2 := ⟨hR.1.trans k7.symm, hR.2.1.trans k8.symm, k5⟩
      have hW2 : PW n (bn ln s) d (w4 N n b).2.2 := ⟨by rw [k7]; exact hW.1, by rw [k8]; exact hW.2.1, k6⟩
      have := it_T hX hM hN hR2 hW2 (nw_k (M := M) hN) hx
      unfold w4c
      rw [← this]
      unfold it_n
      rw [nc_N hX hN]
      by_cases c : (ge_X M x 0 (M.1 12 3, M.1 12 4, -1, pl_l M (nI b) n 0 (M.1 13))).1 = -9
      · rw [if_pos c]
        exact ⟨fun h => absurd rfl h, fun h => absurd c h⟩
      · rw [if_neg c]
        exact ⟨fun _ => c, fun _ => by decide⟩
theorem fp_N (hX : XE M n s ln gd pc kd) (hM : ME N n s ln gd pc kd) (hN : NE n s ln gd pc kd) {d x : Nat} (hR : PR (nw_X M) (N.1 38)) (hW : PW n (bn ln s) d (N.1 38)) (hx : x ≤ 20) : ∀ (j i : Nat) (b f B v : Int32), i + j = 4 ^ n → ((b = -9 ∧ B = -9 ∧ v = -9) ∨ (¬ b = -9 ∧ ¬ B = -9 ∧ B = f ∧ B = pa_l M b n 0 0 ∧ v = pf_l M b n 0 0)) →
    ((fp_l M x j i b f = -9 ∧ (fq_l N n s (nI x) j i B v).1 = -9 ∧ (fq_l N n s (nI x) j i B v).2 = -9) ∨ (¬ fp_l M x j i b f = -9 ∧ (fq_l N n s (nI x) j i B v).1 = pa_l M (fp_l M x j i b f) n 0 0 ∧ (fq_l N n s (nI x) j i B v).2 = pf_l M (fp_l M x j i b f) n 0 0))
  | 0, i, b, f, B, v, _, h => by
    rcases h with h | ⟨h1, h2, h3, h4, h5⟩
    · exact Or.inl h
    · exact Or.inr ⟨h1, h4, h5⟩
  | j + 1, i, b, f, B, v, hi, h => by
    have hn := hN.1.1
    have h4 := p4_5 hn
    have key := w4_N hX hM hN hR hW hx (b := i) (by omega)
    unfold fp_l fq_l
    rw [nc_N hX hN]
    rcases key with ⟨k1, k2⟩ | ⟨k1, k2, k3, k4, k5⟩
    · rw [if_neg (fun hx => hx.2.1 k1), if_neg (fun hx => hx.1 k2)]
      exact fp_N hX hM hN hR hW hx j (i + 1) b f B v (by omega) h
    · have hcond : ((b = -9 ∨ pa_l M (nI i) n 0 0 < f) ↔ (B = -9 ∨ (w4 N n i).1 < B)) := by
        rw [k3]
        rcases h with ⟨h1, h2, _⟩ | ⟨h1, h2, h3, _, _⟩
        · exact ⟨fun _ => Or.inl h2, fun _ => Or.inl h1⟩
        · rw [h3] at h2 ⊢
          exact ⟨fun h => h.elim (fun h => absurd h h1) Or.inr, fun h => h.elim (fun h => absurd h h2) Or.inr⟩
      by_cases c : (b = -9 ∨ pa_l M (nI i) n 0 0 < f) ∧ ¬ cp_l M (nI i) n 0 = 0 ∧ ¬ it_n M (nI i) x = 0
      · rw [if_pos c, if_pos ⟨k2, hcond.mp c.1, k5.mp c.2.2⟩]
        refine fp_N hX hM hN hR hW hx j (i + 1) _ _ _ _ (by omega) (Or.inr ⟨?_, k2, k3, k3, k4⟩)
        have h45 : 4 ^ n ≤ 4 ^ 5 := Nat.pow_le_pow_right (by omega) hn
        intro e
        have e2 := congrArg Int32.toInt e
        rw [nI_toInt (by omega)] at e2
        have : (-9 : Int32).toInt = -9 := by decide
        omega
      · rw [if_neg c, if_neg (fun hx => c ⟨hcond.mpr hx.2.1, k1, k5.mpr hx.2.2⟩)]
        exact fp_N hX hM hN hR hW hx j (i + 1) b f B v (by omega) h
theorem w_plan {x y : Int32} (hk : k + 1 ≤ 1000) (h : RLK k M) : CX s_X8_plan s_X9_plan [.ref 0, .int x, .int y] [.ref 30, .int x, .int y] k M := by
  obtain ⟨_, n, s, ln, gd, pc, kd, z, a, t, hR⟩ := h
  have hR0 := hR
  obtain ⟨hN, hX, hM, hT, hW, hA, hP, hD, hS⟩ := hR
  have hn := hN.1.1
  intro Po hK
  have fin := fin_t0 SX_rf SM_rf rfl hk hR0
  have bad : ¬ ((¬ x < 0 ∧ ¬ 20 < x) ∧ (¬ y < 0 ∧ ¬ 1 < y)) → Po (some (.int (-2))) M := fun hb => by
    refine hK _ _ (fun Po' hP' => ⟨n, s, ct_N hM hN, ?_⟩)
    by_cases c1 : ¬ x < 0 ∧ ¬ 20 < x
    · rw [if_pos c1, if_neg (fun c3 => hb ⟨c1, c3⟩)]
      exact hP' _ fin
    · rw [if_neg c1]
      exact hP' _ fin
  show if x < 0 then _ else _
  by_cases c1 : x < 0
  · rw [if_pos c1]
    exact bad (fun hx => hx.1.1 c1)
  rw [if_neg c1]
  by_cases c2 : 20 < x
  · rw [if_pos c2]
    exact bad (fun hx => hx.1.2 c2)
  rw [if_neg c2]
  by_cases c3 : y = 0 ∨ y = 1
  · rw [if_pos c3]
    have c4 := ch_i.mp c3
    obtain ⟨m, hm, rfl⟩ := nI_of c1
    have hm20 : m ≤ 20 := by
      by_cases c : m ≤ 20
      · exact c
      · exact absurd (nI_lt (a := 20) (by omega) hm) c2
    intro r
    have e4 : nw_4 M = 4 ^ n := by
      unfold nw_4
      rw [nc_N hX hN, show pw_X 4 n = nI (4 ^ n) from pw_N 4 n, nI_clamp (p4_5 hn)]
    have key := fp_N hX (ME_s SM_t0 (ME_s (SM_18 (M := M) (r := r)) hM)) hN hW.2.1 hW.2.2 hm20 (4 ^ n) 0 (-9) 0 (-9) (-9) (by omega) (Or.inl ⟨rfl, rfl, rfl⟩)
    have ef : fp_l M m (4 ^ n) 0 (-9) 0 = fp_X M (nI m).toNatClampNeg := by
      unfold fp_X
      rw [e4, nI_clamp hm]
    rw [ef] at key
    rw [nc_N hX hN]
    rcases key with ⟨k1, k2, k3⟩ | ⟨k1, k2, k3⟩
    · rw [if_pos k1]
      refine hK _ _ (fun Po' hP' => ⟨n, s, ct_N (ME_s SM_18 hM) hN, ?_⟩)
      rw [if_pos ⟨c1, c2⟩, if_pos c4]
      intro N hj
      rw [k2, k3]
      have := hP' _ (fin_jj SX_18 SM_18 rfl hk hR0 hj)
      split <;> exact this
    · rw [if_neg k1]
      by_cases c5 : y = 0
      · rw [if_pos c5]
        refine hK _ _ (fun Po' hP' => ⟨n, s, ct_N (ME_s SM_18 hM) hN, ?_⟩)
        rw [if_pos ⟨c1, c2⟩, if_pos c4]
        intro N hj
        rw [if_pos c5, k2]
        exact hP' _ (fin_jj SX_18 SM_18 rfl hk hR0 hj)
      · rw [if_neg c5]
        refine hK _ _ (fun Po' hP' => ⟨n, s, ct_N (ME_s SM_18 hM) hN, ?_⟩)
        rw [if_pos ⟨c1, c2⟩, if_pos c4]
        intro N hj
        rw [if_neg c5, k3]
        exact hP' _ (fin_jj SX_18 SM_18 rfl hk hR0 hj)
  · rw [if_neg c3]
    exact bad (fun hx => c3 (ch_i.mpr hx.2))
end OUT4
