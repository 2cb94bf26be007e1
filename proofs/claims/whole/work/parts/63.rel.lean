/-! BOTH SIDES: what is tied to what; what is packed -/
def PK (P : Nat → Int32) : Int64 := pk_X (P 1) (P 0) (fun i => P (2 + i))
theorem pk1_N {U t : Nat} (hU : U < 2 ^ 56) (ht : t < 16) : pk_1 (lN U) (nI t) = lN (U * 16 + t) := by
  unfold pk_1
  rw [show (4 : Int32) = nI 4 from rfl, wb_shl U (k := 4) (by omega), nI_l (by omega)]
  exact g_or (k := 4) (p := 16) rfl ht (by omega)
theorem pk_N {D m t0 t1 t2 t3 t4 : Nat} {f : Nat → Int32} (hD : D < 2 ^ 20) (hm : m < 256) (h0 : t0 < 16) (h1 : t1 < 16) (h2 : t2 < 16) (h3 : t3 < 16) (h4 : t4 < 16) (e0 : f 0 = nI t0) (e1 : f 1 = nI t1) (e2 : f 2 = nI t2) (e3 : f 3 = nI t3) (e4 : f 4 = nI t4) : pk_X (nI D) (nI m) f = lN ((((((D * 256 + m) * 16 + t0) * 16 + t1) * 16 + t2) * 16 + t3) * 16 + t4) := by
  unfold pk_X
  rw [e0, e1, e2, e3, e4, nI_l (by omega), nI_l (by omega), show (8 : Int32) = nI 8 from rfl, wb_shl D (k := 8) (by omega), show lN (D * 2 ^ 8) ||| lN m = lN (D * 256 + m) from g_or (k := 8) (p := 256) rfl hm (by omega)]
  rw [pk1_N (by omega) h0, pk1_N (by omega) h1, pk1_N (by omega) h2, pk1_N (by omega) h3, pk1_N (by omega) h4]
theorem sh4_N {U : Nat} (h : U < 2 ^ 64) : sh_4 (lN U) = lN (U / 16) := wb_shr (k := 4) h (by omega)
theorem sh8_N {U : Nat} (h : U < 2 ^ 64) : sh_8 (lN U) = lN (U / 256) := wb_shr (k := 8) h (by omega)
theorem a15_N {U : Nat} (h : U < 2 ^ 64) : (lN U &&& 15).toInt32 = nI (U % 16) := by
  rw [show (15 : Int64) = lN (16 - 1) from rfl, g_mask (s := 4) (p := 16) rfl (by omega) h, lN_i]
theorem a255_N {U : Nat} (h : U < 2 ^ 64) : (lN U &&& 255).toInt32 = nI (U % 256) := by
  rw [show (255 : Int64) = lN (256 - 1) from rfl, g_mask (s := 8) (p := 256) rfl (by omega) h, lN_i]
theorem up_N {D m t0 t1 t2 t3 t4 U : Nat} (hD : D < 2 ^ 20) (hm : m < 256) (h0 : t0 < 16) (h1 : t1 < 16) (h2 : t2 < 16) (h3 : t3 < 16) (h4 : t4 < 16) (hU : U = (((((D * 256 + m) * 16 + t0) * 16 + t1) * 16 + t2) * 16 + t3) * 16 + t4) : (up_m (lN U) = nI m ∧ up_d (lN U) = nI D) ∧ (up_t (lN U) 0 = nI t0 ∧ up_t (lN U) 1 = nI t1 ∧ up_t (lN U) 2 = nI t2 ∧ up_t (lN U) 3 = nI t3 ∧ up_t (lN U) 4 = nI t4) ∧ ¬ lN U = -1 := by
  have g1 : U < 2 ^ 64 := by omega
  have g2 : U / 16 < 2 ^ 64 := by omega
  have g3 : U / 16 / 16 < 2 ^ 64 := by omega
  have g4 : U / 16 / 16 / 16 < 2 ^ 64 := by omega
  have g5 : U / 16 / 16 / 16 / 16 < 2 ^ 64 := by omega
  have g6 : U / 16 / 16 / 16 / 16 / 16 < 2 ^ 64 := by omega
  refine ⟨⟨?_, ?_⟩, ⟨?_, ?_, ?_, ?_, ?_⟩, ?_⟩
  · unfold up_m
    rw [sh4_N g1, sh4_N g2, sh4_N g3, sh4_N g4, sh4_N g5, a255_N g6]
    refine congrArg nI ?_
    omega
  · unfold up_d
    rw [sh4_N g1, sh4_N g2, sh4_N g3, sh4_N g4, sh4_N g5, sh8_N g6, lN_i]
    refine congrArg nI ?_
    omega
  · unfold up_t
    rw [sh4_N g1, sh4_N g2, sh4_N g3, sh4_N g4, a15_N g5]
    refine congrArg nI ?_
    omega
  · unfold up_t
    rw [sh4_N g1, sh4_N g2, sh4_N g3, a15_N g4]
    refine congrArg nI ?_
    omega
  · unfold up_t
    rw [sh4_N g1, sh4_N g2, a15_N g3]
    refine congrArg nI ?_
    omega
  · unfold up_t
    rw [sh4_N g1, a15_N g2]
    refine congrArg nI ?_
    omega
  · unfold up_t
    rw [a15_N g1]
    refine congrArg nI ?_
    omega
  · intro e
    have e2 := congrArg (fun x : Int64 => x.toBitVec.toNat) e
    simp only [wb_tn g1] at e2
    have : (-1 : Int64).toBitVec.toNat = 2 ^ 64 - 1 := by decide
    omega
theorem PK_up {n e d : Nat} {P : Nat → Int32} (h : PW n e d P) (he : e ≤ 72) (hd : d ≤ 1000) : (up_m (PK P) = P 0 ∧ up_d (PK P) = P 1) ∧ (∀ i, i < 5 → up_t (PK P) i = P (2 + i)) ∧ ¬ PK P = -1 := by
  obtain ⟨⟨m, hm, em⟩, ⟨k, hk, ek⟩, hT⟩ := h
  obtain ⟨t0, b0, e0, _⟩ := hT 0 (by omega)
  obtain ⟨t1, b1, e1, _⟩ := hT 1 (by omega)
  obtain ⟨t2, b2, e2, _⟩ := hT 2 (by omega)
  obtain ⟨t3, b3, e3, _⟩ := hT 3 (by omega)
  obtain ⟨t4, b4, e4, _⟩ := hT 4 (by omega)
  have key := pk_N (D := k) (m := m) (f := fun i => P (2 + i)) (by omega) (by omega) (by omega : t0 < 16) (by omega : t1 < 16) (by omega : t2 < 16) (by omega : t3 < 16) (by omega : t4 < 16) e0 e1 e2 e3 e4
  unfold PK
  rw [ek, em, key]
  obtain ⟨a, ⟨u0, u1, u2, u3, u4⟩, c⟩ := up_N (D := k) (m := m) (by omega) (by omega) (by omega : t0 < 16) (by omega : t1 < 16) (by omega : t2 < 16) (by omega : t3 < 16) (by omega : t4 < 16) rfl
  refine ⟨a, fun i hi => ?_, c⟩
  rcases (show i = 0 ∨ i = 1 ∨ i = 2 ∨ i = 3 ∨ i = 4 by omega) with rfl | rfl | rfl | rfl | rfl
  · rw [u0, e0]
  · rw [u1, e1]
  · rw [u2, e2]
  · rw [u3, e3]
  · rw [u4, e4]
/-! the ties -/
def TX (M : ab_M) (z : Nat) : Prop := z ≤ 48 ∧ M.1 1 1 = nI z ∧ M.1 30 2 = nI z ∧ ∀ i, i < z → M.1 2 i = M.1 31 i
def NW (M : ab_M) (n e k : Nat) : Prop := M.1 12 5 = -1 ∧ PR (nw_X M) (M.1 38) ∧ PW n e k (M.1 38)
def AC (M : ab_M) (n e k a : Nat) : Prop := (a ≤ 14 ∧ M.1 14 1 = nI a ∧ M.1 30 19 = nI a) ∧ ∀ j, j < a → PW n e k (fun i => M.1 41 (7 * j + i)) ∧ M.2 15 j = PK (fun i => M.1 41 (7 * j + i))
def KP (M : ab_M) (n e k : Nat) : Prop := ∀ c, c < 2 → (M.1 43 c = 0 ∧ M.2 29 c = -1) ∨ (M.1 43 c = 1 ∧ PW n e k (fun i => M.1 42 (7 * c + i)) ∧ M.2 29 c = PK (fun i => M.1 42 (7 * c + i)))
def TD (M : ab_M) (t : Nat) : Prop := (t ≤ 6 ∧ M.1 25 3 = nI t ∧ M.1 30 22 = nI t) ∧ ∀ i, i < t → M.1 26 i = M.1 44 i ∧ M.1 27 i = M.1 45 i ∧ M.1 28 i = M.1 46 i ∧ (M.1 46 i = 0 ∨ M.1 46 i = 1)
def SD (M : ab_M) : Prop := M.2 0 9 = M.2 30 26
/-- behind k calls both sides are the same -/
def RQ (k : Nat) (M : ab_M) (n s : Nat) (ln gd pc kd : Nat → Nat) (z a t : Nat) : Prop := NE n s ln gd pc kd ∧ XE M n s ln gd pc kd ∧ ME M n s ln gd pc kd ∧ TX M z ∧ NW M n (bn ln s) k ∧ AC M n (bn ln s) k a ∧ KP M n (bn ln s) k ∧ TD M t ∧ SD M
def RLK (k : Nat) (M : ab_M) : Prop := k ≤ 1000 ∧ ∃ (n s : Nat) (ln gd pc kd : Nat → Nat) (z a t : Nat), RQ k M n s ln gd pc kd z a t
section REL
variable {M N : ab_M} {n s : Nat} {ln gd pc kd : Nat → Nat}
theorem XE_fr (h1 : N.1 8 3 = M.1 8 3) (h2 : N.1 3 4 = M.1 3 4) (h3 : N.1 3 5 = M.1 3 5) (h4 : N.1 4 = M.1 4) (h5 : N.1 5 = M.1 5) (h6 : N.1 6 = M.1 6) (h7 : N.1 7 = M.1 7) (h9 : N.1 9 = M.1 9) (h10 : N.1 10 = M.1 10) (h : XE M n s ln gd pc kd) : XE N n s ln gd pc kd := by
  unfold XE
  rw [h1, h2, h3, h4, h5, h6, h7, h9, h10]
  exact h
theorem ME_fr (h1 : N.1 30 7 = M.1 30 7) (h2 : N.1 30 4 = M.1 30 4) (h3 : N.1 30 10 = M.1 30 10) (h4 : N.1 32 = M.1 32) (h5 : N.1 33 = M.1 33) (h6 : N.1 34 = M.1 34) (h7 : N.1 35 = M.1 35) (h : ME M n s ln gd pc kd) : ME N n s ln gd pc kd := by
  unfold ME
  rw [h1, h2, h3, h4, h5, h6, h7]
  exact h
theorem TX_fr {z : Nat} (h1 : N.1 1 1 = M.1 1 1) (h2 : N.1 30 2 = M.1 30 2) (h3 : N.1 2 = M.1 2) (h4 : N.1 31 = M.1 31) (h : TX M z) : TX N z := by
  unfold TX
  rw [h1, h2, h3, h4]
  exact h
theorem NW_fr {n e k : Nat} (h1 : N.1 12 3 = M.1 12 3) (h2 : N.1 12 4 = M.1 12 4) (h3 : N.1 12 5 = M.1 12 5) (h4 : N.1 13 = M.1 13) (h5 : N.1 38 = M.1 38) (h : NW M n e k) : NW N n e k := by
  unfold NW nw_X
  rw [h1, h2, h3, h4, h5]
  exact h
theorem AC_fr {n e k a : Nat} (h1 : N.1 14 1 = M.1 14 1) (h2 : N.1 30 19 = M.1 30 19) (h3 : N.1 41 = M.1 41) (h4 : N.2 15 = M.2 15) (h : AC M n e k a) : AC N n e k a := by
  unfold AC
  rw [h1, h2, h3, h4]
  exact h
theorem KP_fr {n e k : Nat} (h1 : N.1 42 = M.1 42) (h2 : N.1 43 = M.1 43) (h3 : N.2 29 = M.2 29) (h : KP M n e k) : KP N n e k := by
  unfold KP
  rw [h1, h2, h3]
  exact h
theorem TD_fr {t : Nat} (h1 : N.1 25 3 = M.1 25 3) (h2 : N.1 30 22 = M.1 30 22) (h3 : N.1 26 = M.1 26) (h4 : N.1 27 = M.1 27) (h5 : N.1 28 = M.1 28) (h6 : N.1 44 = M.1 44) (h7 : N.1 45 = M.1 45) (h8 : N.1 46 = M.1 46) (h : TD M t) : TD N t := by
  unfold TD
  rw [h1, h2, h3, h4, h5, h6, h7, h8]
  exact h
theorem PW_mo {n e d d' : Nat} {P : Nat → Int32} (hd : d ≤ d') (h : PW n e d P) : PW n e d' P := by
  obtain ⟨h1, ⟨k, h2, h3⟩, h4⟩ := h
  exact ⟨h1, ⟨k, by omega, h3⟩, h4⟩
theorem NW_mo {e k k' : Nat} (hk : k ≤ k') (h : NW M n e k) : NW M n e k' := ⟨h.1, h.2.1, PW_mo hk h.2.2⟩
theorem AC_mo {e k k' a : Nat} (hk : k ≤ k') (h : AC M n e k a) : AC M n e k' a := ⟨h.1, fun j hj => ⟨PW_mo hk (h.2 j hj).1, (h.2 j hj).2⟩⟩
theorem KP_mo {e k k' : Nat} (hk : k ≤ k') (h : KP M n e k) : KP M n e k' := fun c hc => (h c hc).imp id (fun h => ⟨h.1, PW_mo hk h.2.1, h.2.2⟩)
/-- the parts of the memory that are tied -/
def SX (M N : ab_M) : Prop := (N.1 8 3 = M.1 8 3 ∧ N.1 3 4 = M.1 3 4 ∧ N.1 3 5 = M.1 3 5 ∧ N.1 4 = M.1 4 ∧ N.1 5 = M.1 5 ∧ N.1 6 = M.1 6 ∧ N.1 7 = M.1 7 ∧ N.1 9 = M.1 9 ∧ N.1 10 = M.1 10) ∧ (N.1 1 1 = M.1 1 1 ∧ N.1 2 = M.1 2) ∧ (N.1 12 3 = M.1 12 3 ∧ N.1 12 4 = M.1 12 4 ∧ N.1 12 5 = M.1 12 5 ∧ N.1 13 = M.1 13) ∧ (N.1 14 1 = M.1 14 1 ∧ N.2 15 = M.2 15) ∧ N.2 29 = M.2 29 ∧ (N.1 25 3 = M.1 25 3 ∧ N.1 26 = M.1 26 ∧ N.1 27 = M.1 27 ∧ N.1 28 = M.1 28)
def SM (M N : ab_M) : Prop := (N.1 30 7 = M.1 30 7 ∧ N.1 30 4 = M.1 30 4 ∧ N.1 30 10 = M.1 30 10 ∧ N.1 32 = M.1 32 ∧ N.1 33 = M.1 33 ∧ N.1 34 = M.1 34 ∧ N.1 35 = M.1 35) ∧ (N.1 30 2 = M.1 30 2 ∧ N.1 31 = M.1 31) ∧ N.1 38 = M.1 38 ∧ (N.1 30 19 = M.1 30 19 ∧ N.1 41 = M.1 41) ∧ (N.1 42 = M.1 42 ∧ N.1 43 = M.1 43) ∧ (N.1 30 22 = M.1 30 22 ∧ N.1 44 = M.1 44 ∧ N.1 45 = M.1 45 ∧ N.1 46 = M.1 46)
theorem SX_tr {A B C : ab_M} (h1 : SX A B) (h2 : SX B C) : SX A C := by
  unfold SX at *
  simp only [h1, h2, and_self]
theorem SM_tr {A B C : ab_M} (h1 : SM A B) (h2 : SM B C) : SM A C := by
  unfold SM at *
  simp only [h1, h2, and_self]
theorem XE_s (hs : SX M N) (h : XE M n s ln gd pc kd) : XE N n s ln gd pc kd := by
  obtain ⟨⟨h1, h2, h3, h4, h5, h6, h7, h8, h9⟩, _⟩ := hs
  exact XE_fr h1 h2 h3 h4 h5 h6 h7 h8 h9 h
theorem ME_s (hs : SM M N) (h : ME M n s ln gd pc kd) : ME N n s ln gd pc kd := by
  obtain ⟨⟨h1, h2, h3, h4, h5, h6, h7⟩, _⟩ := hs
  exact ME_fr h1 h2 h3 h4 h5 h6 h7 h
theorem TX_s {z : Nat} (hx : SX M N) (hm : SM M N) (h : TX M z) : TX N z := TX_fr hx.2.1.1 hm.2.1.1 hx.2.1.2 hm.2.1.2 h
theorem NW_s {e k : Nat} (hx : SX M N) (hm : SM M N) (h : NW M n e k) : NW N n e k := NW_fr hx.2.2.1.1 hx.2.2.1.2.1 hx.2.2.1.2.2.1 hx.2.2.1.2.2.2 hm.2.2.1 h
theorem AC_s {e k a : Nat} (hx : SX M N) (hm : SM M N) (h : AC M n e k a) : AC N n e k a := AC_fr hx.2.2.2.1.1 hm.2.2.2.1.1 hm.2.2.2.1.2 hx.2.2.2.1.2 h
theorem KP_s {e k : Nat} (hx : SX M N) (hm : SM M N) (h : KP M n e k) : KP N n e k := KP_fr hm.2.2.2.2.1.1 hm.2.2.2.2.1.2 hx.2.2.2.2.1 h
theorem TD_s {t : Nat} (hx : SX M N) (hm : SM M N) (h : TD M t) : TD N t := TD_fr hx.2.2.2.2.2.1 hm.2.2.2.2.2.1 hx.2.2.2.2.2.2.1 hx.2.2.2.2.2.2.2.1 hx.2.2.2.2.2.2.2.2 hm.2.2.2.2.2.2.1 hm.2.2.2.2.2.2.2.1 hm.2.2.2.2.2.2.2.2 h
theorem RQ_s {k z a t : Nat} (hx : SX M N) (hm : SM M N) (hd : SD N) (h : RQ k M n s ln gd pc kd z a t) : RQ (k + 1) N n s ln gd pc kd z a t := by
  obtain ⟨h1, h2, h3, h4, h5, h6, h7, h8, _⟩ := h
  exact ⟨h1, XE_s hx h2, ME_s hm h3, TX_s hx hm h4, NW_mo (by omega) (NW_s hx hm h5), AC_mo (by omega) (AC_s hx hm h6), KP_mo (by omega) (KP_s hx hm h7), TD_s hx hm h8, hd⟩
theorem SX_rf : SX M M := ⟨⟨rfl, rfl, rfl, rfl, rfl, rfl, rfl, rfl, rfl⟩, ⟨rfl, rfl⟩, ⟨rfl, rfl, rfl, rfl⟩, ⟨rfl, rfl⟩, rfl, ⟨rfl, rfl, rfl, rfl⟩⟩
theorem SM_rf : SM M M := ⟨⟨rfl, rfl, rfl, rfl, rfl, rfl, rfl⟩, ⟨rfl, rfl⟩, rfl, ⟨rfl, rfl⟩, ⟨rfl, rfl⟩, ⟨rfl, rfl, rfl, rfl⟩⟩
theorem SX_18 {r : mr_T} : SX M (mws M 18 r) := ⟨⟨rfl, rfl, rfl, rfl, rfl, rfl, rfl, rfl, rfl⟩, ⟨rfl, rfl⟩, ⟨rfl, rfl, rfl, rfl⟩, ⟨rfl, rfl⟩, rfl, ⟨rfl, rfl, rfl, rfl⟩⟩
theorem SM_18 {r : mr_T} : SM M (mws M 18 r) := ⟨⟨rfl, rfl, rfl, rfl, rfl, rfl, rfl⟩, ⟨rfl, rfl⟩, rfl, ⟨rfl, rfl⟩, ⟨rfl, rfl⟩, ⟨rfl, rfl, rfl, rfl⟩⟩
theorem SX_23 {r : mr_T} : SX M (mws M 23 r) := ⟨⟨rfl, rfl, rfl, rfl, rfl, rfl, rfl, rfl, rfl⟩, ⟨rfl, rfl⟩, ⟨rfl, rfl, rfl, rfl⟩, ⟨rfl, rfl⟩, rfl, ⟨rfl, rfl, rfl, rfl⟩⟩
theorem SM_23 {r : mr_T} : SM M (mws M 23 r) := ⟨⟨rfl, rfl, rfl, rfl, rfl, rfl, rfl⟩, ⟨rfl, rfl⟩, rfl, ⟨rfl, rfl⟩, ⟨rfl, rfl⟩, ⟨rfl, rfl, rfl, rfl⟩⟩
theorem SX_17 {g : Nat → Int32} : SX M (wt M 17 g) := ⟨⟨rfl, rfl, rfl, rfl, rfl, rfl, rfl, rfl, rfl⟩, ⟨rfl, rfl⟩, ⟨rfl, rfl, rfl, rfl⟩, ⟨rfl, rfl⟩, rfl, ⟨rfl, rfl, rfl, rfl⟩⟩
theorem SM_17 {g : Nat → Int32} : SM M (wt M 17 g) := ⟨⟨rfl, rfl, rfl, rfl, rfl, rfl, rfl⟩, ⟨rfl, rfl⟩, rfl, ⟨rfl, rfl⟩, ⟨rfl, rfl⟩, ⟨rfl, rfl, rfl, rfl⟩⟩
theorem SX_w2 {g h : Nat → Int32} : SX M (w2 M g h) := ⟨⟨rfl, rfl, rfl, rfl, rfl, rfl, rfl, rfl, rfl⟩, ⟨rfl, rfl⟩, ⟨rfl, rfl, rfl, rfl⟩, ⟨rfl, rfl⟩, rfl, ⟨rfl, rfl, rfl, rfl⟩⟩
theorem SM_w2 {g h : Nat → Int32} : SM M (w2 M g h) := ⟨⟨rfl, rfl, rfl, rfl, rfl, rfl, rfl⟩, ⟨rfl, rfl⟩, rfl, ⟨rfl, rfl⟩, ⟨rfl, rfl⟩, ⟨rfl, rfl, rfl, rfl⟩⟩
theorem SX_t0 : SX M (t0 M) := ⟨⟨rfl, rfl, rfl, rfl, rfl, rfl, rfl, rfl, rfl⟩, ⟨rfl, rfl⟩, ⟨rfl, rfl, rfl, rfl⟩, ⟨rfl, rfl⟩, rfl, ⟨rfl, rfl, rfl, rfl⟩⟩
theorem SM_t0 : SM M (t0 M) := ⟨⟨rfl, rfl, rfl, rfl, rfl, rfl, rfl⟩, ⟨rfl, rfl⟩, rfl, ⟨rfl, rfl⟩, ⟨rfl, rfl⟩, ⟨rfl, rfl, rfl, rfl⟩⟩
theorem SX_jw {z g h p q : Nat → Int32} : SX M (jw M z g h p q) := ⟨⟨rfl, rfl, rfl, rfl, rfl, rfl, rfl, rfl, rfl⟩, ⟨rfl, rfl⟩, ⟨rfl, rfl, rfl, rfl⟩, ⟨rfl, rfl⟩, rfl, ⟨rfl, rfl, rfl, rfl⟩⟩
theorem SM_jw {z g h p q : Nat → Int32} : SM M (jw M z g h p q) := ⟨⟨rfl, rfl, rfl, rfl, rfl, rfl, rfl⟩, ⟨rfl, rfl⟩, rfl, ⟨rfl, rfl⟩, ⟨rfl, rfl⟩, ⟨rfl, rfl, rfl, rfl⟩⟩
theorem SX_jj (h : jj M N) : SX M N := by
  obtain ⟨z, g, h, p, q, rfl⟩ := h
  exact SX_jw
theorem SM_jj (h : jj M N) : SM M N := by
  obtain ⟨z, g, h, p, q, rfl⟩ := h
  exact SM_jw
theorem SL_jj (h : jj M N) : N.2 = M.2 := by
  obtain ⟨z, g, h, p, q, rfl⟩ := h
  rfl
end REL
