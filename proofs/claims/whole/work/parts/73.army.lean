/-! BOTH SIDES: the text, its fault, the army -/
section ARMY
variable {M M1 N : ab_M} {n s : Nat} {ln gd pc kd : Nat → Nat} {k z a t : Nat}
theorem la_N (hT : TX M z) {p : Nat} (hp : p < z) : la_X M (nI p) = M.1 31 p := by
  obtain ⟨hz, e1, _, e3⟩ := hT
  unfold la_X
  rw [e1, if_pos ⟨nI_pos (by omega), nI_lt hp (by omega), nI_lt (b := 48) (by omega) (by omega)⟩, nI_clamp (by omega)]
  exact e3 p hp
theorem la_Z (hT : TX M z) {p : Nat} (hp : z ≤ p) (hp2 : p < 2 ^ 31) : la_X M (nI p) = -1 := by
  obtain ⟨hz, e1, _, e3⟩ := hT
  unfold la_X
  rw [e1, if_neg (fun hx => nI_nlt hp (by omega) hx.2.1)]
theorem fg_N (hT : TX M z) (h31 : N.1 31 = M.1 31) {p : Nat} (hp2 : p < 2 ^ 31) {a b : Int32} (ha : a = 0 ∨ a = 1) : fgk N z p a b ↔ (¬ fg_X M (nI p) < a ∧ ¬ b < fg_X M (nI p)) := by
  unfold fg_X
  by_cases c : p < z
  · rw [la_N hT c, ← h31]
    exact ⟨fun h => h.2, fun h => ⟨c, h⟩⟩
  · rw [la_Z hT (by omega) hp2]
    refine ⟨fun h => absurd h.1 c, fun h => ?_⟩
    rcases ha with rfl | rfl
    · exact absurd (by decide) h.1
    · exact absurd (by decide) h.1
theorem msS_N (hT : TX M z) (h31 : N.1 31 = M.1 31) {p : Nat} (hp : p < 1000) : ms_S M (nI p) = if fgk N z p 1 9 then (if fgk N z (p + 1) 0 3 then -9 else nI (p + 1)) else nI p := by
  have f1 := fg_N hT h31 (p := p) (by omega) (a := 1) (b := 9) (Or.inr rfl)
  have f2 := fg_N hT h31 (p := p + 1) (by omega) (a := 0) (b := 3) (Or.inl rfl)
  unfold ms_S
  rw [Int32.add_zero, nI_1, show tb_103 0 = 1 from rfl, show tb_104 0 = 9 from rfl, show tb_103 1 = 0 from rfl, show tb_104 1 = 3 from rfl]
  by_cases c1 : fgk N z p 1 9
  · obtain ⟨g1, g2⟩ := f1.mp c1
    rw [if_pos c1, if_neg g1, if_neg g2]
    by_cases c2 : fgk N z (p + 1) 0 3
    · obtain ⟨g3, g4⟩ := f2.mp c2
      rw [if_pos c2, if_neg g3, if_neg g4]
    · rw [if_neg c2]
      by_cases g3 : fg_X M (nI (p + 1)) < 0
      · rw [if_pos g3]
      · rw [if_neg g3]
        by_cases g4 : 3 < fg_X M (nI (p + 1))
        · rw [if_pos g4]
        · exact absurd (f2.mpr ⟨g3, g4⟩) c2
  · rw [if_neg c1]
    by_cases g1 : fg_X M (nI p) < 1
    · rw [if_pos g1]
    · rw [if_neg g1]
      by_cases g2 : 9 < fg_X M (nI p)
      · rw [if_pos g2]
      · exact absurd (f1.mpr ⟨g1, g2⟩) c1
theorem msM_N (hT : TX M z) (h31 : N.1 31 = M.1 31) {p : Nat} (hp : p < 1000) : ms_M M (nI p) = if fgk N z p 1 9 then (if fgk N z (p + 1) 0 3 then (if fgk N z (p + 2) 0 9 then -9 else nI (p + 2)) else nI (p + 1)) else nI p := by
  have f1 := fg_N hT h31 (p := p) (by omega) (a := 1) (b := 9) (Or.inr rfl)
  have f2 := fg_N hT h31 (p := p + 1) (by omega) (a := 0) (b := 3) (Or.inl rfl)
  have f3 := fg_N hT h31 (p := p + 2) (by omega) (a := 0) (b := 9) (Or.inl rfl)
  unfold ms_M
  rw [Int32.add_zero, nI_1, show nI p + 2 = nI (p + 2) from nI_add p 2, show tb_105 0 = 1 from rfl, show tb_106 0 = 9 from rfl, show tb_105 1 = 0 from rfl, show tb_106 1 = 3 from rfl, show tb_105 2 = 0 from rfl, show tb_106 2 = 9 from rfl]
  by_cases c1 : fgk N z p 1 9
  · obtain ⟨g1, g2⟩ := f1.mp c1
    rw [if_pos c1, if_neg g1, if_neg g2]
    by_cases c2 : fgk N z (p + 1) 0 3
    · obtain ⟨g3, g4⟩ := f2.mp c2
      rw [if_pos c2, if_neg g3, if_neg g4]
      by_cases c3 : fgk N z (p + 2) 0 9
      · obtain ⟨g5, g6⟩ := f3.mp c3
        rw [if_pos c3, if_neg g5, if_neg g6]
      · rw [if_neg c3]
        by_cases g5 : fg_X M (nI (p + 2)) < 0
        · rw [if_pos g5]
        · rw [if_neg g5]
          by_cases g6 : 9 < fg_X M (nI (p + 2))
          · rw [if_pos g6]
          · exact absurd (f3.mpr ⟨g5, g6⟩) c3
    · rw [if_neg c2]
      by_cases g3 : fg_X M (nI (p + 1)) < 0
      · rw [if_pos g3]
      · rw [if_neg g3]
        by_cases g4 : 3 < fg_X M (nI (p + 1))
        · rw [if_pos g4]
        · exact absurd (f2.mpr ⟨g3, g4⟩) c2
  · rw [if_neg c1]
    by_cases g1 : fg_X M (nI p) < 1
    · rw [if_pos g1]
    · rw [if_neg g1]
      by_cases g2 : 9 < fg_X M (nI p)
      · rw [if_pos g2]
      · exact absurd (f1.mpr ⟨g1, g2⟩) c1
def lnR (R : Nat → Int32) (i : Nat) : Nat := (R (2 * i)).toNatClampNeg
theorem bn_c {l l' : Nat → Nat} : ∀ k, (∀ i, i < k → l i = l' i) → bn l k = bn l' k
  | 0, _ => rfl
  | k + 1, h => by
    simp only [bn]
    rw [bn_c k (fun i hi => h i (by omega)), h k (by omega)]
/-- what the class has built of a text, and what the model has read of it -/
def BR (B : ab_M) (s m e : Nat) (R Q : Nat → Int32) : Prop :=
  (s ≤ 8 ∧ m ≤ 5) ∧ (B.1 3 4 = nI s ∧ B.1 3 5 = nI e ∧ B.1 8 3 = nI m ∧ e = bn (lnR R) s) ∧
  (∀ i, i < s → ∃ l g, (1 ≤ l ∧ l ≤ 9 ∧ g ≤ 3) ∧ (R (2 * i) = nI l ∧ R (2 * i + 1) = nI g) ∧ B.1 4 i = nI l ∧ B.1 5 i = nI g ∧ B.1 6 i = nI (bn (lnR R) i)) ∧
  (∀ i, i < s → ∀ m, bn (lnR R) i ≤ m → m < bn (lnR R) (i + 1) → B.1 7 m = nI i) ∧
  (∀ i, i < m → ∃ p k t, (1 ≤ p ∧ p ≤ 9 ∧ k ≤ 3 ∧ t ≤ 9) ∧ (Q (3 * i) = nI p ∧ Q (3 * i + 1) = nI k ∧ Q (3 * i + 2) = nI t) ∧ B.1 9 i = nI p ∧ B.1 10 i = nI k ∧ B.1 11 i = nI t)
theorem lnR_v {R : Nat → Int32} {i l : Nat} (h : R (2 * i) = nI l) (hl : l ≤ 9) : lnR R i = l := by
  unfold lnR
  rw [h, nI_clamp (by omega)]
theorem BR_S {B : ab_M} {s m e l g : Nat} {R Q : Nat → Int32} (h : BR B s m e R Q) (hs : s < 8) (h1 : 1 ≤ l) (hl : l ≤ 9) (hg : g ≤ 3) : (e + l ≤ 72) ∧ BR (ra_X B s e l (nI l) (nI g)) (s + 1) m (e + l) (up_f (up_f R (2 * s) (nI l)) (2 * s + 1) (nI g)) Q := by
  obtain ⟨⟨a1, a2⟩, ⟨b1, b2, b3, b4⟩, c1, c2, c3⟩ := h
  have r1 : ∀ i, i < 2 * s → up_f (up_f R (2 * s) (nI l)) (2 * s + 1) (nI g) i = R i := fun i hi => by
    simp only [up_f]
    rw [if_neg (by omega), if_neg (by omega)]
  have r2 : up_f (up_f R (2 * s) (nI l)) (2 * s + 1) (nI g) (2 * s) = nI l := by
    simp only [up_f]
    rw [if_neg (by omega), if_pos trivial]
  have r3 : up_f (up_f R (2 * s) (nI l)) (2 * s + 1) (nI g) (2 * s + 1) = nI g := by
    simp only [up_f, if_true]
  have q1 : ∀ i, i ≤ s → bn (lnR (up_f (up_f R (2 * s) (nI l)) (2 * s + 1) (nI g))) i = bn (lnR R) i := fun i hi => bn_c i (fun j hj => by
    unfold lnR
    rw [r1 (2 * j) (by omega)])
  have q2 : lnR (up_f (up_f R (2 * s) (nI l)) (2 * s + 1) (nI g)) s = l := lnR_v r2 hl
  have e9 : e ≤ 9 * s := by
    rw [b4]
    have : ∀ k, k ≤ s → bn (lnR R) k ≤ 9 * k := by
      intro k
      induction k with
      | zero => intro _; simp [bn]
      | succ k ih =>
        intro hk
        have := ih (by omega)
        obtain ⟨l', g', ⟨d1, d2, d3⟩, ⟨d4, _⟩, _⟩ := c1 k (by omega)
        have := lnR_v d4 d2
        simp only [bn]
        omega
    exact this s (Nat.le_refl _)
  refine ⟨by omega, ⟨by omega, a2⟩, ⟨rfl, rfl, b3, ?_⟩, ?_, ?_, c3⟩
  · show e + l = bn _ s + lnR _ s
    rw [q1 s (Nat.le_refl _), q2, b4]
  · intro i hi
    by_cases c : i = s
    · subst c
      refine ⟨l, g, ⟨h1, hl, hg⟩, ⟨r2, r3⟩, ?_, ?_, ?_⟩
      · show (if i = i then nI l else _) = _
        rw [if_pos rfl]
      · show (if i = i then nI g else _) = _
        rw [if_pos rfl]
      · show (if i = i then nI e else _) = _
        rw [if_pos rfl, q1 i (Nat.le_refl _), b4]
    · obtain ⟨l', g', d1, ⟨d2, d3⟩, d4, d5, d6⟩ := c1 i (by omega)
      refine ⟨l', g', d1, ⟨by rw [r1 _ (by omega), d2], by rw [r1 _ (by omega), d3]⟩, ?_, ?_, ?_⟩
      · show (if i = s then nI l else B.1 4 i) = _
        rw [if_neg c, d4]
      · show (if i = s then nI g else B.1 5 i) = _
        rw [if_neg c, d5]
      · show (if i = s then nI e else B.1 6 i) = _
        rw [if_neg c, d6, q1 i (by omega)]
  · intro i hi mm h3 h4
    show (if e ≤ mm ∧ mm < e + l then nI s else B.1 7 mm) = _
    by_cases c : i = s
    · subst c
      rw [q1 i (Nat.le_refl _), ← b4] at h3
      have h5 : bn (lnR (up_f (up_f R (2 * i) (nI l)) (2 * i + 1) (nI g))) (i + 1) = e + l := by
        simp only [bn]
        rw [q1 i (Nat.le_refl _), q2, b4]
      rw [h5] at h4
      rw [if_pos ⟨h3, h4⟩]
    · rw [q1 i (by omega)] at h3
      rw [q1 (i + 1) (by omega)] at h4
      have := bn_mono (lnR R) s (i + 1) (by omega)
      rw [if_neg (by omega)]
      exact c2 i (by omega) mm h3 h4
theorem ta_e {B : ab_M} {m : Nat} {p q r : Int32} (h : B.1 8 3 = nI m) (hm : m < 5) : ta_X B p q r = ab_si (ab_si (ab_si (ab_si B 9 m p) 10 m q) 11 m r) 8 3 (nI (m + 1)) := by
  unfold ta_X
  rw [h, if_neg (nI_pos (by omega)), if_pos (show nI m < 5 from nI_lt (b := 5) hm (by omega)), nI_clamp (by omega), nI_1]
theorem BR_M {B : ab_M} {s m e p q t : Nat} {R Q : Nat → Int32} (h : BR B s m e R Q) (hm : m < 5) (h1 : 1 ≤ p) (hp : p ≤ 9) (hq : q ≤ 3) (ht : t ≤ 9) : BR (ta_X B (nI p) (nI q) (nI t)) s (m + 1) e R (up_f (up_f (up_f Q (3 * m) (nI p)) (3 * m + 1) (nI q)) (3 * m + 2) (nI t)) := by
  obtain ⟨⟨a1, a2⟩, ⟨b1, b2, b3, b4⟩, c1, c2, c3⟩ := h
  rw [ta_e b3 hm]
  refine ⟨⟨a1, by omega⟩, ⟨b1, b2, rfl, b4⟩, c1, c2, fun i hi => ?_⟩
  by_cases c : i = m
  · subst c
    refine ⟨p, q, t, ⟨h1, hp, hq, ht⟩, ⟨?_, ?_, ?_⟩, ?_, ?_, ?_⟩
    · simp only [up_f]
      rw [if_neg (by omega), if_neg (by omega), if_pos trivial]
    · simp only [up_f]
      rw [if_neg (by omega), if_pos trivial]
    · simp only [up_f, if_true]
    · show (if 9 = 9 ∧ i = i then nI p else _) = _
      rw [if_pos ⟨rfl, rfl⟩]
    · show (if 10 = 10 ∧ i = i then nI q else _) = _
      rw [if_pos ⟨rfl, rfl⟩]
    · show (if 11 = 11 ∧ i = i then nI t else _) = _
      rw [if_pos ⟨rfl, rfl⟩]
  · obtain ⟨p', q', t', d1, ⟨d2, d3, d4⟩, d5, d6, d7⟩ := c3 i (by omega)
    refine ⟨p', q', t', d1, ⟨?_, ?_, ?_⟩, ?_, ?_, ?_⟩
    · simp only [up_f]
      rw [if_neg (by omega), if_neg (by omega), if_neg (by omega), d2]
    · simp only [up_f]
      rw [if_neg (by omega), if_neg (by omega), if_neg (by omega), d3]
    · simp only [up_f]
      rw [if_neg (by omega), if_neg (by omega), if_neg (by omega), d4]
    · show (if 9 = 9 ∧ i = m then nI p else B.1 9 i) = _
      rw [if_neg (fun hx => c hx.2), d5]
    · show (if 10 = 10 ∧ i = m then nI q else B.1 10 i) = _
      rw [if_neg (fun hx => c hx.2), d6]
    · show (if 11 = 11 ∧ i = m then nI t else B.1 11 i) = _
      rw [if_neg (fun hx => c hx.2), d7]
theorem fig_N {x : Int32} {a b : Nat} (ha : a = 0 ∨ a = 1) (h1 : ¬ x < nI a) (h2 : ¬ nI b < x) (hb : b < 100) : ∃ v, a ≤ v ∧ v ≤ b ∧ x = nI v := by
  have h0 : ¬ x < 0 := by
    rcases ha with rfl | rfl
    · exact h1
    · exact fun h => h1 (Int32.lt_of_lt_of_le h (by decide))
  obtain ⟨v, hv, rfl⟩ := nI_of h0
  refine ⟨v, ?_, ?_, rfl⟩
  · by_cases c : a ≤ v
    · exact c
    · exact absurd (nI_lt (by omega) (by omega)) h1
  · by_cases c : v ≤ b
    · exact c
    · exact absurd (nI_lt (by omega) hv) h2
theorem nI_n9 {p : Nat} (h : p < 100) : ¬ nI p = -9 := nI_99 h
/-- the text is read alike -/
theorem ra_N (hT : TX M z) (h31 : N.1 31 = M.1 31) : ∀ (j p s m : Nat) (R Q : Nat → Int32), p ≤ z → s ≤ 8 → m ≤ 5 → ∃ (p' s' m' : Nat) (R' Q' : Nat → Int32), (∀ K : rk_T, ra_M N z j p s m R Q K = K (fp_T M j (nI s) (nI m) (nI p)) p' s' m' R' Q') ∧ (fp_T M j (nI s) (nI m) (nI p) = -9 → ∀ (B : ab_M) (e : Nat), BR B s m e R Q → tk_ok (pr_T M j (nI p)) s e ∧ ∃ e', BR (bl_X (pr_T M j (nI p)) s e B) s' m' e' R' Q')
  | 0, p, s, m, R, Q, _, _, _ => ⟨p, s, m, R, Q, fun _ => rfl, fun _ B e h => ⟨trivial, e, h⟩⟩
  | j + 1, p, s, m, R, Q, hp, hs, hm => by
    have hz := hT.1
    have e11 := hT.2.1
    by_cases c : p < z
    · have ela := la_N hT c
      have cz : (nI p < M.1 1 1) := by
        rw [e11]
        exact nI_lt c (by omega)
      have s8 : (nI s < 8) ↔ s < 8 := nI_ltI (b := 8) (by omega) (by omega)
      have m5' : (nI m < 5) ↔ m < 5 := nI_ltI (b := 5) (by omega) (by omega)
      unfold ra_M fp_T pr_T
      simp only [if_pos c, if_pos cz, ela]
      unfold rt_M
      rw [h31]
      by_cases c1 : M.1 31 p = 83 ∧ s < 8
      · simp only [if_pos c1, if_pos (show M.1 31 p = 83 ∧ nI s < 8 from ⟨c1.1, s8.mpr c1.2⟩), if_pos c1.1, nI_1, show nI p + 2 = nI (p + 2) from nI_add p 2, show nI p + 3 = nI (p + 3) from nI_add p 3]
        rw [msS_N (N := N) hT h31 (p := p + 1) (by omega)]
        unfold rS_M
        by_cases f1 : fgk N z (p + 1) 1 9
        · by_cases f2 : fgk N z (p + 1 + 1) 0 3
          · simp only [if_pos f1, if_pos f2, if_neg (show ¬ (1 : Int32) = 0 by decide)]
            obtain ⟨g1, g2⟩ := (fg_N hT h31 (by omega) (Or.inr rfl)).mp f1
            obtain ⟨g3, g4⟩ := (fg_N hT h31 (by omega) (Or.inl rfl)).mp f2
            obtain ⟨l, l1, l9, el⟩ := fig_N (a := 1) (b := 9) (Or.inr rfl) g1 g2 (by omega)
            obtain ⟨g, _, g3', eg⟩ := fig_N (a := 0) (b := 3) (Or.inl rfl) g3 g4 (by omega)
            have el2 : N.1 31 (p + 1) - 48 = nI l := by
              rw [h31, ← la_N hT f1.1]
              exact el
            have eg2 : N.1 31 (p + 1 + 1) - 48 = nI g := by
              rw [h31, ← la_N hT f2.1]
              exact eg
            obtain ⟨p', s', m', R', Q', k1, k2⟩ := ra_N hT h31 j (p + 1 + 2) (s + 1) m (up_f (up_f R (2 * s) (nI l)) (2 * s + 1) (nI g)) Q (by have := f2.1; omega) (by omega) hm
            refine ⟨p', s', m', R', Q', fun K => ?_, fun h9 B e hB => ?_⟩
            · rw [el2, eg2, k1]
              rfl
            · obtain ⟨b1, b2⟩ := BR_S hB c1.2 l1 l9 g3'
              obtain ⟨b3, b4⟩ := k2 h9 _ _ b2
              have el3 : fg_X M (nI (p + 1)) = nI l := el
              have eg3 : fg_X M (nI (p + 2)) = nI g := eg
              rw [el3, eg3]
              have cl : (nI l).toNatClampNeg = l := nI_clamp (by omega)
              refine ⟨⟨nI_pos (by omega), c1.2, by rw [cl]; exact b1, by rw [cl]; exact b3⟩, ?_⟩
              unfold bl_X
              rw [cl]
              exact b4
          · simp only [if_pos f1, if_neg f2, if_pos (show (0 : Int32) = 0 from rfl), if_neg (nI_n9 (show p + 1 + 1 < 100 by omega))]
            exact ⟨p + 1 + 1, s, m, R, Q, fun _ => rfl, fun h9 => absurd h9 (nI_n9 (by omega))⟩
        · simp only [if_neg f1, if_pos (show (0 : Int32) = 0 from rfl), if_neg (nI_n9 (show p + 1 < 100 by omega))]
          exact ⟨p + 1, s, m, R, Q, fun _ => rfl, fun h9 => absurd h9 (nI_n9 (by omega))⟩
      · simp only [if_neg c1, if_neg (show ¬ (M.1 31 p = 83 ∧ nI s < 8) from fun h => c1 ⟨h.1, s8.mp h.2⟩)]
        by_cases c2 : M.1 31 p = 77 ∧ m < 5
        · have n83 : ¬ M.1 31 p = 83 := by rw [c2.1]; decide
          simp only [if_pos c2, if_pos (show M.1 31 p = 77 ∧ nI m < 5 from ⟨c2.1, m5'.mpr c2.2⟩), if_neg n83, nI_1, show nI p + 2 = nI (p + 2) from nI_add p 2, show nI p + 3 = nI (p + 3) from nI_add p 3, show nI p + 4 = nI (p + 4) from nI_add p 4]
          rw [msM_N (N := N) hT h31 (p := p + 1) (by omega)]
          unfold rM_M
          by_cases f1 : fgk N z (p + 1) 1 9
          · by_cases f2 : fgk N z (p + 1 + 1) 0 3
            · by_cases f3 : fgk N z (p + 1 + 2) 0 9
              · simp only [if_pos f1, if_pos f2, if_pos f3, if_neg (show ¬ (1 : Int32) = 0 by decide)]
                obtain ⟨g1, g2⟩ := (fg_N hT h31 (by omega) (Or.inr rfl)).mp f1
                obtain ⟨g3, g4⟩ := (fg_N hT h31 (by omega) (Or.inl rfl)).mp f2
                obtain ⟨g5, g6⟩ := (fg_N hT h31 (by omega) (Or.inl rfl)).mp f3
                obtain ⟨l, l1, l9, el⟩ := fig_N (a := 1) (b := 9) (Or.inr rfl) g1 g2 (by omega)
                obtain ⟨g, _, g3', eg⟩ := fig_N (a := 0) (b := 3) (Or.inl rfl) g3 g4 (by omega)
                obtain ⟨u, _, u9, eu⟩ := fig_N (a := 0) (b := 9) (Or.inl rfl) g5 g6 (by omega)
                have el2 : N.1 31 (p + 1) - 48 = nI l := by
                  rw [h31, ← la_N hT f1.1]
                  exact el
                have eg2 : N.1 31 (p + 1 + 1) - 48 = nI g := by
                  rw [h31, ← la_N hT f2.1]
                  exact eg
                have eu2 : N.1 31 (p + 1 + 2) - 48 = nI u := by
                  rw [h31, ← la_N hT f3.1]
                  exact eu
                obtain ⟨p', s', m', R', Q', k1, k2⟩ := ra_N hT h31 j (p + 1 + 3) s (m + 1) R (up_f (up_f (up_f Q (3 * m) (nI l)) (3 * m + 1) (nI g)) (3 * m + 2) (nI u)) (by have := f3.1; omega) hs (by omega)
                refine ⟨p', s', m', R', Q', fun K => ?_, fun h9 B e hB => ?_⟩
                · rw [el2, eg2, eu2, k1]
                  rfl
                · have b2 := BR_M hB c2.2 l1 l9 g3' u9
                  obtain ⟨b3, b4⟩ := k2 h9 _ _ b2
                  have el3 : fg_X M (nI (p + 1)) = nI l := el
                  have eg3 : fg_X M (nI (p + 2)) = nI g := eg
                  have eu3 : fg_X M (nI (p + 3)) = nI u := eu
                  rw [el3, eg3, eu3]
                  exact ⟨b3, b4⟩
              · simp only [if_pos f1, if_pos f2, if_neg f3, if_pos (show (0 : Int32) = 0 from rfl), if_neg (nI_n9 (show p + 1 + 2 < 100 by omega))]
                exact ⟨p + 1 + 2, s, m, R, Q, fun _ => rfl, fun h9 => absurd h9 (nI_n9 (by omega))⟩
            · simp only [if_pos f1, if_neg f2, if_pos (show (0 : Int32) = 0 from rfl), if_neg (nI_n9 (show p + 1 + 1 < 100 by omega))]
              exact ⟨p + 1 + 1, s, m, R, Q, fun _ => rfl, fun h9 => absurd h9 (nI_n9 (by omega))⟩
          · simp only [if_neg f1, if_pos (show (0 : Int32) = 0 from rfl), if_neg (nI_n9 (show p + 1 < 100 by omega))]
            exact ⟨p + 1, s, m, R, Q, fun _ => rfl, fun h9 => absurd h9 (nI_n9 (by omega))⟩
        · simp only [if_neg c2, if_neg (show ¬ (M.1 31 p = 77 ∧ nI m < 5) from fun h => c2 ⟨h.1, m5'.mp h.2⟩), if_pos (show (0 : Int32) = 0 from rfl)]
          exact ⟨p, s, m, R, Q, fun _ => rfl, fun h9 => absurd h9 (nI_n9 (by omega))⟩
    · have cz : ¬ (nI p < M.1 1 1) := by
        rw [e11]
        exact nI_nlt (by omega) (by omega)
      unfold ra_M fp_T pr_T
      simp only [if_neg c, if_neg cz]
      exact ⟨p, s, m, R, Q, fun _ => rfl, fun _ B e h => ⟨trivial, e, h⟩⟩
end ARMY
