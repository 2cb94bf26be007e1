/-! BOTH SIDES: fractions, shares, thorns by chance -/
theorem rem_N {a b : Nat} (ha : a < 2 ^ 31) (h0 : 0 < b) (hb : b < 2 ^ 31) : nI a - nI a / nI b * nI b = nI (a % b) := pk_rem ha h0 hb
theorem ge_k : ∀ (k a b m : Nat), a < 2 ^ 31 → b < 2 ^ 31 → b < 2 ^ k → 2 * k + 1 ≤ m → ge_E m (nI a) (nI b)
  | 0, a, b, m, ha, hb, hk, hm => by
    obtain ⟨m', rfl⟩ : ∃ m', m = m' + 1 := ⟨m - 1, by omega⟩
    have : b = 0 := by omega
    subst this
    exact Or.inl rfl
  | k + 1, a, b, m, ha, hb, hk, hm => by
    obtain ⟨m', rfl⟩ : ∃ m', m = m' + 1 + 1 := ⟨m - 2, by omega⟩
    by_cases c : b = 0
    · subst c
      exact Or.inl rfl
    · refine Or.inr ?_
      rw [rem_N ha (by omega) hb]
      have hr := Nat.mod_lt a (y := b) (by omega)
      by_cases c2 : a % b = 0
      · rw [c2]
        exact Or.inl rfl
      · refine Or.inr ?_
        generalize a % b = r at hr c2
        rw [rem_N hb (by omega) (by omega)]
        have h1 := Nat.mod_lt b (y := r) (by omega)
        have h2 := Nat.div_add_mod b r
        have h3 : 1 ≤ b / r := Nat.div_pos (by omega) (by omega)
        have h4 : r * 1 ≤ r * (b / r) := Nat.mul_le_mul_left r h3
        have h5 : 2 ^ (k + 1) = 2 * 2 ^ k := by rw [Nat.pow_succ]; omega
        exact ge_k k r (b % r) m' (by omega) (by omega) (by omega) (by omega)
theorem gd_p : ∀ (n a b : Nat), 0 < a → a < 2 ^ 31 → b < 2 ^ 31 → ∃ g, 0 < g ∧ g < 2 ^ 31 ∧ gd_X n (nI a) (nI b) = nI g
  | 0, a, _, h0, ha, _ => ⟨a, h0, ha, rfl⟩
  | n + 1, a, b, h0, ha, hb => by
    unfold gd_X
    by_cases c : b = 0
    · subst c
      rw [if_pos (show nI 0 = 0 from rfl)]
      exact ⟨a, h0, ha, rfl⟩
    · rw [if_neg (nI_ne0 (by omega) hb), rem_N ha (by omega) hb]
      have hr := Nat.mod_lt a (y := b) (by omega)
      exact gd_p n b (a % b) (by omega) hb (by omega)
theorem ax_am {A : Int32} : ax_X A = am_M A := by
  unfold ax_X am_M
  by_cases c : A < 0
  · rw [if_pos c, if_neg (fun h => absurd c (Int32.not_lt.mpr h)), Int32.zero_sub]
  · rw [if_neg c, if_pos (Int32.not_lt.mp c)]
/-- a fraction, told alike -/
theorem fr_N {A : Int32} {al be : Nat} (hA : am_M A = nI al) (ha : al < 2 ^ 31) (h0 : 0 < be) (hb : be < 2 ^ 31) (u : Int32) : ge_E 64 (am_M A) (nI be) ∧ ¬ gd_X 64 (am_M A) (nI be) = 0 ∧ tm_X A (nI be) u = (if u = 0 then nI be / gd_X 64 (am_M A) (nI be) else A / gd_X 64 (am_M A) (nI be)) := by
  have h1 : ge_E 64 (am_M A) (nI be) := by
    rw [hA]
    exact ge_k 31 al be 64 ha hb hb (by omega)
  have h2 : ¬ gd_X 64 (am_M A) (nI be) = 0 := by
    rw [hA]
    unfold gd_X
    rw [if_neg (nI_ne0 h0 hb), rem_N ha h0 hb]
    obtain ⟨g, g0, g1, e⟩ := gd_p 63 be (al % be) h0 hb (by have := Nat.mod_lt al (y := be) (by omega); omega)
    rw [e]
    exact nI_ne0 g0 g1
  refine ⟨h1, h2, ?_⟩
  unfold tm_X
  rw [ax_am, if_neg h2]
theorem am_s {a b : Nat} (ha : a < 2 ^ 30) (hb : b < 2 ^ 30) : ∃ al, al < 2 ^ 31 ∧ am_M (nI a - nI b) = nI al := by
  by_cases c : b ≤ a
  · refine ⟨a - b, by omega, ?_⟩
    unfold am_M
    rw [pk_sub c, if_neg (nI_pos (by omega))]
  · refine ⟨b - a, by omega, ?_⟩
    unfold am_M
    rw [if_pos (pk_sneg hb (by omega)), Int32.neg_sub, pk_sub (by omega)]
theorem sa4 (a b c d : Int32) : a - b + (c - d) = (a + c) - (b + d) := by
  simp only [Int32.sub_eq_add_neg, Int32.neg_add]
  ac_rfl
section FRAC
variable {M M1 N : ab_M} {n s : Nat} {ln gd pc kd : Nat → Nat} {k z a t : Nat}
theorem bt_0 : ∀ i, i < 32 → ∀ x, x < 5 → (((nI i >>> (nI x &&& 31)) &&& 1 = 0) ↔ ¬ i / 2 ^ x % 2 = 1) := by decide +kernel
theorem bcX_N : ∀ i, i < 32 → bc_X (nI i) = nI (bcN i) := by decide +kernel
def wN : Nat → Nat
  | 0 => 1
  | 1 => 1
  | 2 => 2
  | 3 => 6
  | 4 => 24
  | _ => 120
theorem wy_N : ∀ c, c < 6 → (wy_M c = nI (wN c) ∧ fc_X (nI c) = nI (wN c)) ∧ wN c ≤ 120 ∧ 0 < wN c := by decide +kernel
theorem n2_N (hn : n ≤ 5) : n2_X (nI n) = 2 ^ n := by
  have := p2_32 n (by omega)
  unfold n2_X
  rw [sh_n n (by omega), nI_clamp (by omega)]
theorem ms_N (hX : XE M n s ln gd pc kd) (hM : ME N n s ln gd pc kd) (hN : NE n s ln gd pc kd) {d : Nat} (hR : PR (nw_X M) (N.1 38)) (hW : PW n (bn ln s) d (N.1 38)) {i : Nat} (hi : i < 32) : ∃ m, m ≤ 72 ∧ ms_X M (nI i) = nI m ∧ vs_M N n s i = nI m := by
  have h72 := bn_72 hN (k := s) (Nat.le_refl _)
  unfold ms_X vs_M
  by_cases c : i = 0
  · rw [if_pos c, if_pos (by rw [c]; rfl), hX.1.2.2, hM.1.2.2]
    exact ⟨_, h72, rfl, rfl⟩
  · rw [if_neg c, if_neg (nI_ne0 (by omega) (by omega))]
    obtain ⟨h1, h2⟩ := its_N hX hM hN (t := (M.1 12 3, M.1 12 4, nI i, M.1 13)) (P := N.1 38) (w := nI i) ⟨hR.1, hR.2.1, hR.2.2⟩ hW MK_rf 5
    obtain ⟨m, hm, em⟩ := h2.1
    exact ⟨m, by omega, h1.1.trans em, em⟩
theorem lo_N (hX : XE M n s ln gd pc kd) (hM : ME N n s ln gd pc kd) (hN : NE n s ln gd pc kd) {d : Nat} (hR : PR (nw_X M) (N.1 38)) (hW : PW n (bn ln s) d (N.1 38)) {x : Nat} (hx : x < n) : ∀ (j i p q : Nat), i + j = 2 ^ n → p ≤ 2000000 * i → q ≤ 2000000 * i → ∃ p' q', p' ≤ 2000000 * 32 ∧ q' ≤ 2000000 * 32 ∧ lo_l M (nI x) (nI n) j i (nI p - nI q) = nI p' - nI q' ∧ sl_l N n s x j i (nI p - nI q) = nI p' - nI q'
  | 0, i, p, q, hi, hp, hq => by
    have hn := hN.1.1
    have h32 := p2_32 n (by omega)
    exact ⟨p, q, by omega, by omega, rfl, rfl⟩
  | j + 1, i, p, q, hi, hp, hq => by
    have hn := hN.1.1
    have h32 := p2_32 n (by omega)
    have b0 := bt_0 i (by omega) x (by omega)
    unfold lo_l sl_l
    by_cases c : i / 2 ^ x % 2 = 1
    · rw [if_pos c, if_neg (fun h => b0.mp h c)]
      exact lo_N hX hM hN hR hW hx j (i + 1) p q (by omega) (by omega) (by omega)
    · rw [if_neg c, if_pos (b0.mpr c)]
      obtain ⟨b1, b2⟩ := bc_le n (by omega) i (by omega) x hx c
      obtain ⟨m1, l1, e1, e2⟩ := ms_N hX hM hN hR hW (i := i) (by omega)
      obtain ⟨m2, l2, e3, e4⟩ := ms_N hX hM hN hR hW (i := i ||| 2 ^ x) (by omega)
      obtain ⟨⟨w1, w2⟩, w3, _⟩ := wy_N (bcN i) (by omega)
      obtain ⟨⟨v1, v2⟩, v3, _⟩ := wy_N (n - 1 - bcN i) (by omega)
      have t1 : nI n - 1 - nI (bcN i) = nI (n - 1 - bcN i) := by
        rw [show (1 : Int32) = nI 1 from rfl, pk_sub (by omega), pk_sub (by omega)]
      rw [bcX_N i (by omega), t1, or_N i (by omega) x (by omega), e1, e2, e3, e4, w1, w2, v1, v2]
      generalize wN (bcN i) = A at w3
      generalize wN (n - 1 - bcN i) = B at v3
      have e5 : nI A * nI B * (nI m1 - nI m2) = nI (A * B * m1) - nI (A * B * m2) := by
        rw [xI_mul, Int32.mul_sub, xI_mul, xI_mul]
      have hAB : A * B ≤ 120 * 120 := Nat.mul_le_mul w3 v3
      have h1 : A * B * m1 ≤ 120 * 120 * 72 := Nat.mul_le_mul hAB l1
      have h2 : A * B * m2 ≤ 120 * 120 * 72 := Nat.mul_le_mul hAB l2
      rw [e5, sa4, nI_add, nI_add]
      exact lo_N hX hM hN hR hW hx j (i + 1) (p + A * B * m1) (q + A * B * m2) (by omega) (by omega) (by omega)
theorem w_share {x u : Int32} (hk : k + 1 ≤ 1000) (h : RLK k M) : CX s_X8_share s_X9_share [.ref 0, .int x, .int u] [.ref 30, .int x, .int u] k M := by
  obtain ⟨_, n, s, ln, gd, pc, kd, z, a, t, hR⟩ := h
  have hR0 := hR
  obtain ⟨hN, hX, hM, hT, hW, hA, hP, hD, hS⟩ := hR
  have hn := hN.1.1
  intro Po hK
  have fin := fin_t0 SX_rf SM_rf rfl hk hR0
  show if ¬ x < 0 ∧ x < M.1 8 3 ∧ x < 5 then _ else _
  by_cases c : ¬ x < 0 ∧ x < M.1 8 3 ∧ x < 5
  · rw [if_pos c]
    obtain ⟨i, hi, rfl⟩ := (man_i hX hN).mp c
    intro r
    obtain ⟨p, q, hp, hq, e1, e2⟩ := lo_N hX (ME_s SM_t0 (ME_s (SM_18 (M := M) (r := r)) hM)) hN hW.2.1 hW.2.2 hi (2 ^ n) 0 0 0 (by omega) (by omega) (by omega)
    have z0 : (nI 0 - nI 0 : Int32) = 0 := rfl
    rw [z0] at e1 e2
    obtain ⟨⟨w1, w2⟩, w3, w4⟩ := wy_N n (by omega)
    rw [hX.1.1, n2_N hn, e1, w2]
    obtain ⟨al, hal, eal⟩ := am_s (a := p) (b := q) (by omega) (by omega)
    obtain ⟨f1, f2, f3⟩ := fr_N (be := wN n) eal hal w4 (by omega) u
    refine hK _ _ (fun Po' hP' => ⟨n, s, ct_N (ME_s SM_18 hM) hN, fun i' hi' e => ?_, fun hx => absurd rfl (hx i hi)⟩)
    have e3 : i' = i := nI_inj hn (by omega) hi' hi e.symm
    subst e3
    rw [e2, w1]
    refine ⟨64, f1, f2, fun N hj => ?_⟩
    rw [← f3]
    exact hP' _ (fin_jj SX_18 SM_18 rfl hk hR0 hj)
  · rw [if_neg c]
    exact hK _ _ (fun Po' hP' => ⟨n, s, ct_N hM hN, fun i hi e => absurd ((man_i hX hN).mpr ⟨i, hi, e⟩) c, fun _ => hP' _ fin⟩)
theorem pk_T (hX : XE M n s ln gd pc kd) (hN : NE n s ln gd pc kd) {b d : Nat} (hb : b < 32) : ∀ (j i : Nat) {r : mr_T} {P : Nat → Int32}, i + j = n → PR r P → PW n (bn ln s) d P → PR (r.1, r.2.1, r.2.2.1, pk_l M (nI b) j i r.2.2.2) (pk_M b j i P) ∧ PW n (bn ln s) d (pk_M b j i P)
  | 0, _, _, _, _, hR, hW => ⟨hR, hW⟩
  | j + 1, i, r, P, hi, hR, hW => by
    have hn := hN.1.1
    have b1 := bt_i b hb i (by omega)
    unfold pk_l pk_M
    by_cases c : b / 2 ^ i % 2 = 1
    · rw [if_pos c, if_pos (b1.mpr c)]
      obtain ⟨h1, h2⟩ := pr_N hX hN hR.2.2 hW.2.2 (j := i) (by omega)
      exact pk_T hX hN hb j (i + 1) (by omega) (PR_uM hR h1) (PW_0 hW h2)
    · rw [if_neg c, if_neg (fun h => c (b1.mp h))]
      exact pk_T hX hN hb j (i + 1) (by omega) hR hW
theorem pow_le2 {y c m : Nat} (hy : y ≤ 10) (hc : c ≤ m) (hm : m ≤ 5) : y ^ c * (10 - y) ^ (m - c) ≤ 100000 := by
  have h1 : y ^ c ≤ 10 ^ c := Nat.pow_le_pow_left hy c
  have h2 : (10 - y) ^ (m - c) ≤ 10 ^ (m - c) := Nat.pow_le_pow_left (by omega) _
  have h3 : y ^ c * (10 - y) ^ (m - c) ≤ 10 ^ c * 10 ^ (m - c) := Nat.mul_le_mul h1 h2
  rw [← Nat.pow_add, show c + (m - c) = m by omega] at h3
  have h4 : 10 ^ m ≤ 10 ^ 5 := Nat.pow_le_pow_right (by omega) hm
  omega
theorem wi_N (hX : XE M n s ln gd pc kd) (hM : ME N n s ln gd pc kd) (hN : NE n s ln gd pc kd) {d : Nat} (hR : PR (nw_X M) (N.1 38)) (hW : PW n (bn ln s) d (N.1 38)) {x y : Nat} (hx : x ≤ 20) (hy : y ≤ 10) : ∀ (j i p : Nat), i + j = 2 ^ n → p ≤ 100000 * i → ∃ p', p' ≤ 100000 * 32 ∧ wi_l M x (nI y) (nI n) j i (nI p) = nI p' ∧ tw_l N n s (nI x) (nI y) j i (nI p) = nI p'
  | 0, i, p, hi, hp => by
    have hn := hN.1.1
    have h32 := p2_32 n (by omega)
    exact ⟨p, by omega, rfl, rfl⟩
  | j + 1, i, p, hi, hp => by
    have hn := hN.1.1
    have h32 := p2_32 n (by omega)
    have bl := bc_n n (by omega) i (by omega)
    have ech : ch_X (nI y) (nI n) i = nI (y ^ bcN i * (10 - y) ^ (n - bcN i)) := by
      unfold ch_X
      rw [bcX_N i (by omega), nI_clamp (by omega), pk_sub bl, nI_clamp (by omega), show (10 : Int32) - nI y = nI (10 - y) from pk_sub (a := 10) hy, pw_N, pw_N, xI_mul]
    have hle := pow_le2 (c := bcN i) hy bl hn
    obtain ⟨h1, h2⟩ := pk_T hX hN (d := d) (b := i) (by omega) n 0 (by omega) hR hW
    have hit := it_T hX hM hN h1 h2 (nw_k (M := M) hN) hx
    have hip : (¬ ip_n M (nI i) x = 0) ↔ (¬ tc_M N n s i = -9 ∧ ¬ nI x < tc_M N n s i) := by
      unfold tc_M
      rw [← hit]
      unfold ip_n
      rw [nc_N hX hN]
      by_cases c : (ge_X M x 0 (M.1 12 3, M.1 12 4, -1, pk_l M (nI i) n 0 (M.1 13))).1 = -9
      · rw [if_pos c]
        exact ⟨fun h => absurd rfl h, fun h => absurd c h⟩
      · rw [if_neg c]
        exact ⟨fun _ => c, fun _ => by decide⟩
    have etw : tw_1 N n s (nI x) (nI y) i = if ¬ ip_n M (nI i) x = 0 then nI (y ^ bcN i * (10 - y) ^ (n - bcN i)) else 0 := by
      unfold tw_1
      by_cases c1 : tc_M N n s i = -9
      · rw [if_pos c1, if_neg (fun h => (hip.mp h).1 c1)]
      · rw [if_neg c1]
        by_cases c2 : nI x < tc_M N n s i
        · rw [if_pos c2, if_neg (fun h => (hip.mp h).2 c2)]
        · rw [if_neg c2, if_pos (hip.mpr ⟨c1, c2⟩), show (10 : Int32) - nI y = nI (10 - y) from pk_sub (a := 10) hy, pw_N, pw_N, xI_mul]
    unfold wi_l tw_l
    rw [etw, ech]
    generalize y ^ bcN i * (10 - y) ^ (n - bcN i) = C at hle
    by_cases c : ¬ ip_n M (nI i) x = 0
    · rw [if_pos c, nI_add]
      by_cases c2 : 0 < C
      · rw [if_pos ⟨nI_lt (a := 0) c2 (by omega), c⟩]
        exact wi_N hX hM hN hR hW hx hy j (i + 1) (p + C) (by omega) (by omega)
      · have : C = 0 := by omega
        subst this
        rw [if_neg (fun h => absurd h.1 (by decide))]
        exact wi_N hX hM hN hR hW hx hy j (i + 1) p (by omega) (by omega)
    · rw [if_neg c, if_neg (fun h => c h.2), Int32.add_zero]
      exact wi_N hX hM hN hR hW hx hy j (i + 1) p (by omega) (by omega)
theorem w_thorny {x y u : Int32} (hk : k + 1 ≤ 1000) (h : RLK k M) : CX s_X8_thorny s_X9_thorny [.ref 0, .int x, .int y, .int u] [.ref 30, .int x, .int y, .int u] k M := by
  obtain ⟨_, n, s, ln, gd, pc, kd, z, a, t, hR⟩ := h
  have hR0 := hR
  obtain ⟨hN, hX, hM, hT, hW, hA, hP, hD, hS⟩ := hR
  have hn := hN.1.1
  intro Po hK
  have fin := fin_t0 SX_rf SM_rf rfl hk hR0
  have bad : ¬ ((¬ x < 0 ∧ ¬ 20 < x) ∧ (¬ y < 0 ∧ ¬ 10 < y)) → Po (some (.int (-2))) M := fun hb => by
    refine hK _ _ (fun Po' hP' => ⟨n, s, ct_N hM hN, ?_⟩)
    by_cases c1 : ¬ x < 0 ∧ ¬ 20 < x
    · rw [if_pos c1, if_neg (fun c3 => hb ⟨c1, c3⟩)]
      exact hP' _ fin
    · rw [if_neg c1]
      exact hP' _ fin
  show if x < 0 then _ else _
  by_cases c1 : x < 0
  · rw [if_pos c1]
    exact bad (fun hx => hx.1.1 c1)
  rw [if_neg c1]
  by_cases c2 : 20 < x
  · rw [if_pos c2]
    exact bad (fun hx => hx.1.2 c2)
  rw [if_neg c2]
  by_cases c3 : y < 0
  · rw [if_pos c3]
    exact bad (fun hx => hx.2.1 c3)
  rw [if_neg c3]
  by_cases c4 : 10 < y
  · rw [if_pos c4]
    exact bad (fun hx => hx.2.2 c4)
  rw [if_neg c4]
  obtain ⟨m, hm, rfl⟩ := nI_of c1
  obtain ⟨q, hq, rfl⟩ := nI_of c3
  have hm20 : m ≤ 20 := by
    by_cases c : m ≤ 20
    · exact c
    · exact absurd (nI_lt (a := 20) (by omega) hm) c2
  have hq10 : q ≤ 10 := by
    by_cases c : q ≤ 10
    · exact c
    · exact absurd (nI_lt (a := 10) (by omega) hq) c4
  intro r
  obtain ⟨p, hp, e1, e2⟩ := wi_N hX (ME_s SM_t0 (ME_s (SM_23 (M := M) (r := r)) hM)) hN hW.2.1 hW.2.2 hm20 hq10 (2 ^ n) 0 0 (by omega) (by omega)
  have z0 : (nI 0 : Int32) = 0 := rfl
  rw [z0] at e1 e2
  have hp0 : 0 < 10 ^ n := Nat.pow_pos (by omega)
  have hp5 : 10 ^ n ≤ 10 ^ 5 := Nat.pow_le_pow_right (by omega) hn
  rw [hX.1.1, n2_N hn, nI_clamp hm, e1, nc_N hX hN, show pw_X 10 n = nI (10 ^ n) from pw_N 10 n]
  obtain ⟨f1, f2, f3⟩ := fr_N (A := nI p) (al := p) (be := 10 ^ n) (by unfold am_M; rw [if_neg (nI_pos (by omega))]) (by omega) hp0 (by omega) u
  refine hK _ _ (fun Po' hP' => ⟨n, s, ct_N (ME_s SM_23 hM) hN, ?_⟩)
  rw [if_pos ⟨c1, c2⟩, if_pos ⟨c3, c4⟩, e2]
  refine ⟨64, f1, f2, fun N hj => ?_⟩
  rw [← f3]
  exact hP' _ (fin_jj SX_23 SM_23 rfl hk hR0 hj)
end FRAC
