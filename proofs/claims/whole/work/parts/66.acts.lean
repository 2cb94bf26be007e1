/-! BOTH SIDES: acts, slots -/
section ACTS
variable {M M1 N : ab_M} {n s : Nat} {ln gd pc kd : Nat → Nat} {k z a t : Nat}
theorem PW_c {n e d : Nat} {P Q : Nat → Int32} (h : ∀ i, i < 7 → P i = Q i) (hp : PW n e d P) : PW n e d Q := by
  obtain ⟨⟨m, a1, a2⟩, ⟨j, b1, b2⟩, c⟩ := hp
  refine ⟨⟨m, a1, by rw [← h 0 (by omega), a2]⟩, ⟨j, b1, by rw [← h 1 (by omega), b2]⟩, fun i hi => ?_⟩
  obtain ⟨u, u1, u2, u3⟩ := c i hi
  exact ⟨u, u1, by rw [← h (2 + i) (by omega), u2], u3⟩
theorem PK_c {P Q : Nat → Int32} (h : ∀ i, i < 7 → P i = Q i) : PK P = PK Q := by
  unfold PK pk_X
  rw [h 0 (by omega), h 1 (by omega)]
  dsimp only
  rw [h (2 + 0) (by omega), h (2 + 1) (by omega), h (2 + 2) (by omega), h (2 + 3) (by omega), h (2 + 4) (by omega)]
/-- pages in a book, packed in a row -/
def AG (n e k a : Nat) (g : Nat → Int32) (h : Nat → Int64) : Prop := ∀ j, j < a → PW n e k (fun i => g (7 * j + i)) ∧ h j = PK (fun i => g (7 * j + i))
theorem AG_push {e : Nat} {g : Nat → Int32} {h : Nat → Int64} {P : Nat → Int32} (hA : AG n e k a g h) (hP : PW n e k P) : AG n e k (a + 1) (bw_k g a P 7) (up_l h a (PK P)) := by
  intro j hj
  by_cases c : j = a
  · subst c
    have e1 : ∀ i, i < 7 → P i = (fun i => bw_k g j P 7 (7 * j + i)) i := fun i hi => by
      show P i = bw_k g j P 7 (7 * j + i)
      unfold bw_k
      rw [if_pos (by omega)]
      congr 1
      omega
    refine ⟨PW_c e1 hP, ?_⟩
    show (if j = j then PK P else h j) = _
    rw [if_pos rfl]
    exact PK_c e1
  · have e1 : ∀ i, i < 7 → (fun i => g (7 * j + i)) i = (fun i => bw_k g a P 7 (7 * j + i)) i := fun i hi => by
      show g (7 * j + i) = bw_k g a P 7 (7 * j + i)
      unfold bw_k
      rw [if_neg (by omega)]
    obtain ⟨b1, b2⟩ := hA j (by omega)
    refine ⟨PW_c e1 b1, ?_⟩
    show (if j = a then PK P else h j) = _
    rw [if_neg c, b2]
    exact PK_c e1
theorem AG_full {e : Nat} {g : Nat → Int32} {h : Nat → Int64} {P : Nat → Int32} (hA : AG n e k 14 g h) (hP : PW n e k P) : AG n e k 14 (bw_k (bs_k g 91) 13 P 7) (up_l (sf_l h 13) 13 (PK P)) := by
  refine AG_push (a := 13) (fun j hj => ?_) hP
  have e1 : ∀ i, i < 7 → (fun i => g (7 * (j + 1) + i)) i = (fun i => bs_k g 91 (7 * j + i)) i := fun i hi => by
    show g (7 * (j + 1) + i) = bs_k g 91 (7 * j + i)
    unfold bs_k
    rw [if_pos (by omega)]
    congr 1
    omega
  obtain ⟨b1, b2⟩ := hA (j + 1) (by omega)
  refine ⟨PW_c e1 b1, ?_⟩
  unfold sf_l
  rw [if_pos hj, b2]
  exact PK_c e1
theorem re_r {u : Int64} {q : Nat} (h : q ≠ 14) : (re_X M u).1 q = M.1 q := by
  unfold re_X
  split
  · funext b
    simp only [ab_si, ab_sl]
    rw [if_neg (fun hx => h hx.1)]
  · funext b
    simp only [ab_si, ab_sl, wlo]
    rw [if_neg (fun hx => h hx.1), if_neg (fun hx => h hx.1)]
theorem re_l {u : Int64} {q : Nat} (h : q ≠ 15) : (re_X M u).2 q = M.2 q := by
  unfold re_X
  split
  · funext b
    simp only [ab_si, ab_sl]
    rw [if_neg (fun hx => h hx.1)]
  · funext b
    simp only [ab_si, ab_sl, wlo]
    rw [if_neg (fun hx => h hx.1), if_neg h]
theorem ntr {q : Nat} (h1 : q ≠ 41) (h2 : q ≠ 30) : (nt_M N a).1 q = N.1 q := by
  unfold nt_M
  split
  · funext b
    simp only [ab_si, wt]
    rw [if_neg (fun hx => h2 hx.1), if_neg h1, if_neg (fun hx => h2 hx.1), if_neg h1]
  · funext b
    simp only [ab_si, wt]
    rw [if_neg (fun hx => h2 hx.1), if_neg h1]
theorem nt30 {b : Nat} (h : b ≠ 19) : (nt_M N a).1 30 b = N.1 30 b := by
  unfold nt_M
  split
  · simp only [ab_si, wt]
    rw [if_neg (fun hx => h hx.2), if_neg (by omega), if_neg (fun hx => h hx.2), if_neg (by omega)]
  · simp only [ab_si, wt]
    rw [if_neg (fun hx => h hx.2), if_neg (by omega)]
theorem ntl : (nt_M N a).2 = N.2 := by
  unfold nt_M
  split <;> rfl
theorem pn_N {e : Nat} (hW : NW M n e k) : pn_X M = PK (M.1 38) := by
  obtain ⟨_, ⟨r1, r2, r3⟩, _⟩ := hW
  unfold pn_X PK pk_X
  rw [show M.1 12 4 = M.1 38 1 from r2, show M.1 12 3 = M.1 38 0 from r1]
  rw [show M.1 13 0 = M.1 38 (2 + 0) from r3 0 (by omega), show M.1 13 1 = M.1 38 (2 + 1) from r3 1 (by omega), show M.1 13 2 = M.1 38 (2 + 2) from r3 2 (by omega), show M.1 13 3 = M.1 38 (2 + 3) from r3 3 (by omega), show M.1 13 4 = M.1 38 (2 + 4) from r3 4 (by omega)]
/-- an act is noted -/
theorem note_N {e : Nat} (hA : AC M n e k a) (hW : NW M n e k) (h41 : N.1 41 = M.1 41) (h38 : N.1 38 = M.1 38) : ∃ a', a' ≤ 14 ∧ (re_X M (pn_X M)).1 14 1 = nI a' ∧ (nt_M N a).1 30 19 = nI a' ∧ AG n e k a' ((nt_M N a).1 41) ((re_X M (pn_X M)).2 15) := by
  obtain ⟨⟨ha, e1, e2⟩, h3⟩ := hA
  have h3 : AG n e k a (M.1 41) (M.2 15) := h3
  have hP := hW.2.2
  rw [pn_N hW]
  by_cases c : a < 14
  · refine ⟨a + 1, by omega, ?_, ?_, ?_⟩
    · unfold re_X
      rw [e1, if_pos (show nI a < 14 from nI_lt (b := 14) c (by omega)), nI_1]
      rfl
    · unfold nt_M
      rw [if_neg (by omega)]
      rfl
    · have x1 : (nt_M N a).1 41 = bw_k (M.1 41) a (M.1 38) 7 := by
        unfold nt_M
        rw [if_neg (by omega), h41, h38]
        rfl
      have x2 : (re_X M (PK (M.1 38))).2 15 = up_l (M.2 15) a (PK (M.1 38)) := by
        unfold re_X
        rw [e1, if_pos (show nI a < 14 from nI_lt (b := 14) c (by omega)), nI_clamp (by omega)]
        funext b
        simp only [ab_si, ab_sl, up_l, true_and]
      rw [x1, x2]
      exact AG_push h3 hP
  · have e14 : a = 14 := by omega
    subst e14
    refine ⟨14, by omega, ?_, ?_, ?_⟩
    · unfold re_X
      rw [e1, if_neg (show ¬ nI 14 < 14 from nI_nlt (b := 14) (by omega) (by omega))]
      rfl
    · unfold nt_M
      rw [if_pos rfl]
      rfl
    · have x1 : (nt_M N 14).1 41 = bw_k (bs_k (M.1 41) 91) 13 (M.1 38) 7 := by
        unfold nt_M
        rw [if_pos rfl, h41, h38]
        rfl
      have x2 : (re_X M (PK (M.1 38))).2 15 = up_l (sf_l (M.2 15) 13) 13 (PK (M.1 38)) := by
        unfold re_X
        rw [e1, if_neg (show ¬ nI 14 < 14 from nI_nlt (b := 14) (by omega) (by omega))]
        funext b
        simp only [ab_si, ab_sl, up_l, wlo, true_and, if_true]
      rw [x1, x2]
      exact AG_full h3 hP
/-- behind an act: the class's memory M' = re_X M (pn_X M) with another march, the model's with another page -/
theorem act_N {r : mr_T} {P : Nat → Int32} (hk : k + 1 ≤ 1000) (hR : RQ k M n s ln gd pc kd z a t) (h5 : r.2.2.1 = -1) (hr : PR r P) (hp : PW n (bn ln s) (k + 1) P) : RLK (k + 1) (wt (nt_M (t0 (mws (re_X M (pn_X M)) 12 r)) a) 38 P) := by
  obtain ⟨hN, hX, hM, hT, hW, hA, hP, hD, hS⟩ := hR
  have q1 : ∀ q, q ≠ 14 → q ≠ 12 → q ≠ 13 → q ≠ 30 → q ≠ 41 → q ≠ 38 → (wt (nt_M (t0 (mws (re_X M (pn_X M)) 12 r)) a) 38 P).1 q = M.1 q := by
    intro q a1 a2 a3 a4 a5 a6
    funext b
    simp only [wt]
    rw [if_neg a6, ntr a5 a4]
    simp only [t0, ab_si]
    rw [if_neg (fun hx => a4 hx.1)]
    simp only [mws, mw]
    rw [if_neg a2, if_neg a3, re_r a1]
  have q2 : ∀ b, b ≠ 19 → b ≠ 0 → (wt (nt_M (t0 (mws (re_X M (pn_X M)) 12 r)) a) 38 P).1 30 b = M.1 30 b := by
    intro b a1 a2
    simp only [wt]
    rw [if_neg (by omega), nt30 a1]
    simp only [t0, ab_si]
    rw [if_neg (fun hx => a2 hx.2)]
    simp only [mws, mw]
    rw [if_neg (by omega), if_neg (by omega), re_r (by omega)]
  have q3 : ∀ q, q ≠ 15 → (wt (nt_M (t0 (mws (re_X M (pn_X M)) 12 r)) a) 38 P).2 q = M.2 q := by
    intro q a1
    show (nt_M (t0 (mws (re_X M (pn_X M)) 12 r)) a).2 q = _
    rw [ntl]
    exact re_l a1
  have q4 : ∀ b, b ≠ 1 → (wt (nt_M (t0 (mws (re_X M (pn_X M)) 12 r)) a) 38 P).1 14 b = (re_X M (pn_X M)).1 14 b := by
    intro b _
    simp only [wt]
    rw [if_neg (by omega), ntr (by omega) (by omega)]
    rfl
  have g41 : (t0 (mws (re_X M (pn_X M)) 12 r)).1 41 = M.1 41 := by
    show (re_X M (pn_X M)).1 41 = _
    exact re_r (by omega)
  have g38 : (t0 (mws (re_X M (pn_X M)) 12 r)).1 38 = M.1 38 := by
    show (re_X M (pn_X M)).1 38 = _
    exact re_r (by omega)
  obtain ⟨a', y1, y2, y3, y4⟩ := note_N hA hW g41 g38
  have n12 : (wt (nt_M (t0 (mws (re_X M (pn_X M)) 12 r)) a) 38 P).1 12 = (mws (re_X M (pn_X M)) 12 r).1 12 := by
    funext b
    simp only [wt]
    rw [if_neg (by omega), ntr (by omega) (by omega)]
    rfl
  have n13 : (wt (nt_M (t0 (mws (re_X M (pn_X M)) 12 r)) a) 38 P).1 13 = r.2.2.2 := by
    funext b
    simp only [wt]
    rw [if_neg (by omega), ntr (by omega) (by omega)]
    rfl
  refine ⟨hk, n, s, ln, gd, pc, kd, z, a', t, hN, XE_fr (by rw [q1 8] <;> omega) (by rw [q1 3] <;> omega) (by rw [q1 3] <;> omega) (q1 4 (by omega) (by omega) (by omega) (by omega) (by omega) (by omega)) (q1 5 (by omega) (by omega) (by omega) (by omega) (by omega) (by omega)) (q1 6 (by omega) (by omega) (by omega) (by omega) (by omega) (by omega)) (q1 7 (by omega) (by omega) (by omega) (by omega) (by omega) (by omega)) (q1 9 (by omega) (by omega) (by omega) (by omega) (by omega) (by omega)) (q1 10 (by omega) (by omega) (by omega) (by omega) (by omega) (by omega)) hX, ME_fr (q2 7 (by omega) (by omega)) (q2 4 (by omega) (by omega)) (q2 10 (by omega) (by omega)) (q1 32 (by omega) (by omega) (by omega) (by omega) (by omega) (by omega)) (q1 33 (by omega) (by omega) (by omega) (by omega) (by omega) (by omega)) (q1 34 (by omega) (by omega) (by omega) (by omega) (by omega) (by omega)) (q1 35 (by omega) (by omega) (by omega) (by omega) (by omega) (by omega)) hM, TX_fr (by rw [q1 1] <;> omega) (q2 2 (by omega) (by omega)) (q1 2 (by omega) (by omega) (by omega) (by omega) (by omega) (by omega)) (q1 31 (by omega) (by omega) (by omega) (by omega) (by omega) (by omega)) hT, ⟨?_, ?_, hp⟩, ⟨⟨y1, ?_, ?_⟩, ?_⟩, KP_mo (by omega) (KP_fr (q1 42 (by omega) (by omega) (by omega) (by omega) (by omega) (by omega)) (q1 43 (by omega) (by omega) (by omega) (by omega) (by omega) (by omega)) (q3 29 (by omega)) hP), TD_fr (by rw [q1 25] <;> omega) (q2 22 (by omega) (by omega)) (q1 26 (by omega) (by omega) (by omega) (by omega) (by omega) (by omega)) (q1 27 (by omega) (by omega) (by omega) (by omega) (by omega) (by omega)) (q1 28 (by omega) (by omega) (by omega) (by omega) (by omega) (by omega)) (q1 44 (by omega) (by omega) (by omega) (by omega) (by omega) (by omega)) (q1 45 (by omega) (by omega) (by omega) (by omega) (by omega) (by omega)) (q1 46 (by omega) (by omega) (by omega) (by omega) (by omega) (by omega)) hD, ?_⟩
  · rw [n12]
    exact h5
  · obtain ⟨r1, r2, r3⟩ := hr
    refine ⟨?_, ?_, ?_⟩
    · show (wt (nt_M (t0 (mws (re_X M (pn_X M)) 12 r)) a) 38 P).1 12 3 = P 0
      rw [n12]
      exact r1
    · show (wt (nt_M (t0 (mws (re_X M (pn_X M)) 12 r)) a) 38 P).1 12 4 = P 1
      rw [n12]
      exact r2
    · show TR ((wt (nt_M (t0 (mws (re_X M (pn_X M)) 12 r)) a) 38 P).1 13) P
      rw [n13]
      exact r3
  · show (wt (nt_M (t0 (mws (re_X M (pn_X M)) 12 r)) a) 38 P).1 14 1 = nI a'
    simp only [wt]
    rw [if_neg (by omega), ntr (by omega) (by omega)]
    exact y2
  · show (nt_M (t0 (mws (re_X M (pn_X M)) 12 r)) a).1 30 19 = nI a'
    exact y3
  · have y5 : (wt (nt_M (t0 (mws (re_X M (pn_X M)) 12 r)) a) 38 P).1 41 = (nt_M (t0 (mws (re_X M (pn_X M)) 12 r)) a).1 41 := rfl
    have y6 : (wt (nt_M (t0 (mws (re_X M (pn_X M)) 12 r)) a) 38 P).2 15 = (re_X M (pn_X M)).2 15 := by
      show (nt_M (t0 (mws (re_X M (pn_X M)) 12 r)) a).2 15 = _
      rw [ntl]
      rfl
    intro j hj
    rw [y5, y6]
    obtain ⟨b1, b2⟩ := y4 j hj
    exact ⟨PW_mo (by omega) b1, b2⟩
  · unfold SD
    rw [q3 0 (by omega), q3 30 (by omega)]
    exact hS
end ACTS
