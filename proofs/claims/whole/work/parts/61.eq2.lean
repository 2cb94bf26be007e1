/-! BOTH SIDES: who leads, where they are, a day -/
section EQ2
variable {M N : ab_M} {n s : Nat} {ln gd pc kd : Nat → Nat}
/-- both have the same leader -/
theorem ld_eq (hX : XE M n s ln gd pc kd) (hM : ME N n s ln gd pc kd) (hN : NE n s ln gd pc kd) {f P : Nat → Int32} (hT : TR f P) {p w : Int32} (hk : MK n p w) : ld_X M p f = fv_M (lm_l N P w n none) ∧ ∀ j, lm_l N P w n none = some j → j < n := by
  have hn := hN.1.1
  have e : nm_X M = n := by
    unfold nm_X
    rw [hX.1.1, nI_clamp (by omega)]
    omega
  obtain ⟨r, h1, h2⟩ := ld_B (M := M) (p := p) (f := f) n 0 none 0 (by omega) (fun k a b => by omega) (fun j hj => by cases hj)
  have h3 := lm_B (N := N) (n := n) (P := P) (w := w) n none (Nat.le_refl _) (fun k a b => by omega)
  rw [Nat.zero_add] at h2
  have h4 : LB (sm_M N P) (fun i => (w >>> (nI i &&& 31)) &&& 1 = 1) 0 n r := LB_c (fun k hk2 => by
    obtain ⟨a1, a2⟩ := hM.2.1 k hk2
    obtain ⟨b1, b2, b3⟩ := hN.2.1 k hk2
    show sp_X (pc_X M (nI k)) (kd_X M (nI k)) (f k) = sp_M (N.1 34 k) (N.1 35 k) (P (2 + k))
    rw [pc_N hX hN hk2, kd_N hX hN hk2, hT k (by omega), a1, a2]
    exact sp_eq b3) (fun k hk2 => hk k hk2) h2
  have h5 := LB_u h4 h3
  unfold ld_X
  rw [e, ← h5]
  refine ⟨h1, fun j hj => ?_⟩
  rw [hj] at h4
  exact h4.2.1
theorem bg_N (hM : ME N n s ln gd pc kd) : ∀ k, k ≤ s → bg_M N k = nI (bn ln k)
  | 0, _ => rfl
  | k + 1, h => by
    simp only [bg_M, bn]
    rw [bg_N hM k (by omega), (hM.2.2 k (by omega)).1, nI_add]
theorem sa1_N (hM : ME N n s ln gd pc kd) (hN : NE n s ln gd pc kd) {i m : Nat} (hi : i < s) (hm : m ≤ 72) (f : Int32) : sa_1 N (nI m) i f = if bn ln i ≤ m ∧ m < bn ln (i + 1) then nI i else f := by
  have h1 := bn_72 hN (k := i) (by omega)
  have h2 := bn_72 hN (k := i + 1) (by omega)
  unfold sa_1
  rw [bg_N hM i (by omega), (hM.2.2 i hi).1, nI_add, show bn ln i + ln i = bn ln (i + 1) from rfl]
  by_cases c : bn ln i ≤ m ∧ m < bn ln (i + 1)
  · rw [if_pos c, if_pos ⟨nI_nlt c.1 (by omega), nI_lt c.2 (by omega)⟩]
  · rw [if_neg c, if_neg]
    intro hx
    refine c ⟨?_, (nI_ltI (by omega) (by omega)).mp hx.2⟩
    by_cases c2 : bn ln i ≤ m
    · exact c2
    · exact absurd ((nI_ltI (by omega) (by omega)).mpr (by omega)) hx.1
theorem saA (hM : ME N n s ln gd pc kd) (hN : NE n s ln gd pc kd) {m : Nat} (hm : m ≤ 72) : ∀ (k i : Nat) (f : Int32), i + k ≤ s → (∀ j, i ≤ j → j < i + k → ¬ (bn ln j ≤ m ∧ m < bn ln (j + 1))) → sa_l N (nI m) k i f = f
  | 0, _, _, _, _ => rfl
  | k + 1, i, f, hk, h => by
    unfold sa_l
    rw [sa1_N hM hN (by omega) hm, if_neg (h i (by omega) (by omega))]
    exact saA hM hN hm k (i + 1) f (by omega) (fun j h1 h2 => h j (by omega) (by omega))
theorem saB (hM : ME N n s ln gd pc kd) (hN : NE n s ln gd pc kd) {m : Nat} (hm : m ≤ 72) {j : Nat} (h1 : bn ln j ≤ m) (h2 : m < bn ln (j + 1)) : ∀ (k i : Nat) (f : Int32), i + k ≤ s → i ≤ j → j < i + k → sa_l N (nI m) k i f = nI j
  | 0, _, _, _, _, _ => by omega
  | k + 1, i, f, hk, h3, h4 => by
    unfold sa_l
    rw [sa1_N hM hN (by omega) hm]
    by_cases c : i = j
    · subst c
      rw [if_pos ⟨h1, h2⟩]
      refine saA hM hN hm k (i + 1) _ (by omega) (fun j a1 a2 a3 => ?_)
      have := bn_mono ln j (i + 1) (by omega)
      omega
    · rw [if_neg]
      · exact saB hM hN hm h1 h2 k (i + 1) f (by omega) (by omega) (by omega)
      · intro hx
        have := bn_mono ln j (i + 1) (by omega)
        omega
/-- where a mile is -/
theorem sa_N (hX : XE M n s ln gd pc kd) (hM : ME N n s ln gd pc kd) (hN : NE n s ln gd pc kd) {m : Nat} (hm : m < bn ln s) : ∃ i, i < s ∧ sa_X M (nI m) = nI i ∧ sa_l N (nI m) s 0 (-9) = nI i ∧ go_X M (nI i) = nI (gd i) ∧ N.1 33 i = nI (gd i) := by
  have h72 := bn_72 hN (k := s) (Nat.le_refl _)
  have hs := hN.1.2
  obtain ⟨i, h1, h2, h3⟩ := bn_in ln m s hm
  refine ⟨i, h1, ?_, ?_, ?_, (hM.2.2 i h1).2⟩
  · unfold sa_X
    rw [hX.1.2.2, if_pos ⟨nI_pos (by omega), nI_lt hm (by omega), nI_lt (b := 72) (by omega) (by omega)⟩, nI_clamp (by omega)]
    exact hX.2.2.2 i h1 m h2 h3
  · exact saB hM hN (by omega) h2 h3 s 0 (-9) (by omega) (by omega) (by omega)
  · unfold go_X
    rw [hX.1.2.1, if_pos ⟨nI_pos (by omega), nI_lt h1 (by omega), nI_lt (b := 8) (by omega) (by omega)⟩, nI_clamp (by omega)]
    exact (hX.2.2.1 i h1).2.1
theorem sa_E (hM : ME N n s ln gd pc kd) (hN : NE n s ln gd pc kd) : sa_l N (nI (bn ln s)) s 0 (-9) = -9 := by
  refine saA hM hN (bn_72 hN (Nat.le_refl _)) s 0 (-9) (by omega) (fun j h1 h2 h3 => ?_)
  have := bn_mono ln s (j + 1) (by omega)
  omega
theorem mo_N0 : ∀ g, g < 4 → ∀ v, v < 10 → 1 ≤ v → (mo_X (nI g) (nI v) = b0_M (nI v) (nI g) ∧ (1 ≤ (b0_M (nI v) (nI g)).toNatClampNeg ∧ (b0_M (nI v) (nI g)).toNatClampNeg ≤ 9)) ∧ b0_M (nI v) (nI g) = nI (b0_M (nI v) (nI g)).toNatClampNeg := by decide +kernel
theorem mo_N {g v : Nat} (hg : g ≤ 3) (h1 : 1 ≤ v) (hv : v ≤ 9) : ∃ b, 1 ≤ b ∧ b ≤ 9 ∧ mo_X (nI g) (nI v) = nI b ∧ b0_M (nI v) (nI g) = nI b := by
  obtain ⟨⟨a, b, c⟩, d⟩ := mo_N0 g (by omega) v (by omega) h1
  exact ⟨_, b, c, a.trans d, d⟩
/-- thorns more, less, healed -/
theorem TR_up {f P : Nat → Int32} (h : TR f P) {j : Nat} {x y : Int32} (hx : x = y) : TR (up_f f j x) (up_f P (2 + j) y) := by
  intro i hi
  unfold up_f
  by_cases c : i = j
  · rw [if_pos c, if_pos (by omega), hx]
  · rw [if_neg c, if_neg (by omega)]
    exact h i hi
theorem TW_up {P : Nat → Int32} (h : TW n P) {j t : Nat} (hj : j < n) (ht : t ≤ 9) : TW n (up_f P (2 + j) (nI t)) := by
  intro i hi
  unfold up_f
  by_cases c : i = j
  · refine ⟨t, ht, ?_, fun hx => by omega⟩
    rw [if_pos (by omega)]
  · rw [if_neg (by omega)]
    exact h i hi
theorem TR_0 {f P : Nat → Int32} (h : TR f P) {k : Nat} (hk : k < 2) {x : Int32} : TR f (up_f P k x) := by
  intro i hi
  unfold up_f
  rw [if_neg (by omega)]
  exact h i hi
theorem TW_0 {P : Nat → Int32} (h : TW n P) {k : Nat} (hk : k < 2) {x : Int32} : TW n (up_f P k x) := by
  intro i hi
  unfold up_f
  rw [if_neg (by omega)]
  exact h i hi
theorem i_9 : ∀ t, t < 10 → ((nI t < 9) ↔ t < 9) ∧ ((0 < nI t) ↔ 0 < t) ∧ ((nI t = 9) ↔ t = 9) ∧ ((nI t = 0) ↔ t = 0) ∧ (0 < t → nI t - 1 = nI (t - 1)) := by decide +kernel
theorem pr_N (hX : XE M n s ln gd pc kd) (hN : NE n s ln gd pc kd) {f P : Nat → Int32} (hT : TR f P) (hW : TW n P) {j : Nat} (hj : j < n) : TR (pr_X M f (nI j)) (up_M P j) ∧ TW n (up_M P j) := by
  have hn := hN.1.1
  obtain ⟨t, ht, e, h0⟩ := hW j (by omega)
  have e2 : f j = nI t := by rw [hT j (by omega), e]
  have i9 := (i_9 t (by omega)).1
  unfold pr_X up_M
  rw [nI_clamp (by omega), e, e2]
  by_cases c : t < 9
  · rw [if_pos ⟨X_men hX hN hj, i9.mpr c⟩, if_pos (i9.mpr c), nI_1]
    exact ⟨TR_up hT rfl, TW_up hW hj (by omega)⟩
  · rw [if_neg (fun hx => c (i9.mp hx.2)), if_neg (fun hx => c (i9.mp hx)), Int32.add_zero, ← e]
    have : up_f P (2 + j) (P (2 + j)) = P := by
      funext i
      unfold up_f
      split
      · rename_i h
        rw [h]
      · rfl
    rw [this]
    exact ⟨hT, hW⟩
theorem ea_N (hX : XE M n s ln gd pc kd) (hN : NE n s ln gd pc kd) {f P : Nat → Int32} (hT : TR f P) (hW : TW n P) {j : Nat} (hj : j < n) (h0 : 0 < P (2 + j)) : TR (ea_X M f (nI j)) (up_f P (2 + j) (P (2 + j) - 1)) ∧ TW n (up_f P (2 + j) (P (2 + j) - 1)) := by
  have hn := hN.1.1
  obtain ⟨t, ht, e, _⟩ := hW j (by omega)
  have e2 : f j = P (2 + j) := hT j (by omega)
  unfold ea_X
  rw [nI_clamp (by omega), if_pos ⟨X_men hX hN hj, by rw [e2]; exact h0⟩, e2]
  refine ⟨TR_up hT rfl, ?_⟩
  rw [e] at h0 ⊢
  obtain ⟨_, a, _, _, b⟩ := i_9 t (by omega)
  rw [b (a.mp h0)]
  exact TW_up hW hj (by omega)
theorem hk_0 {P : Nat → Int32} : ∀ (k i : Nat), i < 2 → hk_M N P k i = P i
  | 0, _, _ => rfl
  | k + 1, i, h => by
    simp only [hk_M, up_f]
    rw [if_neg (by omega)]
    exact hk_0 k i h
theorem hk_i {P : Nat → Int32} : ∀ (k i : Nat), hk_M N P k (2 + i) = if i < k then P (2 + i) - (if ¬ N.1 35 i = 3 ∧ 0 < P (2 + i) then 1 else 0) else P (2 + i)
  | 0, _ => by simp [hk_M]
  | k + 1, i => by
    simp only [hk_M, up_f]
    by_cases c : i = k
    · subst c
      rw [if_pos rfl, if_pos (show i < i + 1 by omega)]
    · rw [if_neg (by omega), hk_i k i]
      by_cases c2 : i < k
      · rw [if_pos c2, if_pos (show i < k + 1 by omega)]
      · rw [if_neg c2, if_neg (show ¬ i < k + 1 by omega)]
theorem he_N (hX : XE M n s ln gd pc kd) (hM : ME N n s ln gd pc kd) (hN : NE n s ln gd pc kd) {f P : Nat → Int32} (hT : TR f P) (hW : TW n P) : TR (he_X M f) (hk_M N P n) ∧ TW n (hk_M N P n) := by
  have hn := hN.1.1
  have key : ∀ i, i < 5 → ∃ t, t ≤ 9 ∧ he_X M f i = nI t ∧ hk_M N P n (2 + i) = nI t ∧ (n ≤ i → t = 0) := by
    intro i hi
    obtain ⟨t, ht, e, h0⟩ := hW i hi
    have e2 : f i = nI t := by rw [hT i hi, e]
    obtain ⟨_, a, _, _, b⟩ := i_9 t (by omega)
    rw [hk_i, e]
    unfold he_X he_k
    rw [e2]
    by_cases c : i < n
    · rw [if_pos c, kd_N hX hN c, (hM.2.1 i c).2]
      by_cases c2 : 0 < t
      · by_cases c3 : nI (kd i) = 3
        · rw [if_neg (fun hx => hx.2.2 c3), if_neg (fun hx => hx.1 c3), Int32.sub_zero]
          exact ⟨t, ht, rfl, rfl, h0⟩
        · rw [if_pos ⟨hi, a.mpr c2, c3⟩, if_pos ⟨c3, a.mpr c2⟩, b c2]
          exact ⟨t - 1, by omega, rfl, rfl, fun hx => by omega⟩
      · rw [if_neg (fun hx => c2 (a.mp hx.2.1)), if_neg (fun hx => c2 (a.mp hx.2)), Int32.sub_zero]
        exact ⟨t, ht, rfl, rfl, h0⟩
    · rw [if_neg c]
      have : t = 0 := h0 (by omega)
      subst this
      rw [if_neg (fun hx => absurd (a.mp hx.2.1) (by omega))]
      exact ⟨0, by omega, rfl, rfl, fun _ => rfl⟩
  refine ⟨fun i hi => ?_, fun i hi => ?_⟩
  · obtain ⟨t, _, h1, h2, _⟩ := key i hi
    rw [h1, h2]
  · obtain ⟨t, h0, _, h2, h3⟩ := key i hi
    exact ⟨t, h0, h2, h3⟩
end EQ2
