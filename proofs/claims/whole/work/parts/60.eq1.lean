/-! BOTH SIDES: the army, a page, a day -/
/-- the miles ahead of the k-th stretch -/
def bn (ln : Nat → Nat) : Nat → Nat
  | 0 => 0
  | k + 1 => bn ln k + ln k
/-- the road and the men, as the class has them -/
def XE (M : ab_M) (n s : Nat) (ln gd pc kd : Nat → Nat) : Prop :=
  (M.1 8 3 = nI n ∧ M.1 3 4 = nI s ∧ M.1 3 5 = nI (bn ln s)) ∧
  (∀ i, i < n → M.1 9 i = nI (pc i) ∧ M.1 10 i = nI (kd i)) ∧
  (∀ i, i < s → M.1 4 i = nI (ln i) ∧ M.1 5 i = nI (gd i) ∧ M.1 6 i = nI (bn ln i)) ∧
  (∀ i, i < s → ∀ m, bn ln i ≤ m → m < bn ln (i + 1) → M.1 7 m = nI i)
/-- as the model has them -/
def ME (M : ab_M) (n s : Nat) (ln gd pc kd : Nat → Nat) : Prop :=
  (M.1 30 7 = nI n ∧ M.1 30 4 = nI s ∧ M.1 30 10 = nI (bn ln s)) ∧
  (∀ i, i < n → M.1 34 i = nI (pc i) ∧ M.1 35 i = nI (kd i)) ∧
  (∀ i, i < s → M.1 32 i = nI (ln i) ∧ M.1 33 i = nI (gd i))
/-- the numbers are in their bounds -/
def NE (n s : Nat) (ln gd pc kd : Nat → Nat) : Prop := (n ≤ 5 ∧ s ≤ 8) ∧ (∀ i, i < n → 1 ≤ pc i ∧ pc i ≤ 9 ∧ kd i ≤ 3) ∧ ∀ i, i < s → 1 ≤ ln i ∧ ln i ≤ 9 ∧ gd i ≤ 3
section EQ1
variable {M N : ab_M} {n s : Nat} {ln gd pc kd : Nat → Nat}
theorem bn_le (h : NE n s ln gd pc kd) : ∀ k, k ≤ s → bn ln k ≤ 9 * k
  | 0, _ => by simp [bn]
  | k + 1, hk => by
    have h1 := bn_le h k (by omega)
    have h2 := h.2.2 k (by omega)
    simp only [bn]
    omega
theorem bn_72 (h : NE n s ln gd pc kd) {k : Nat} (hk : k ≤ s) : bn ln k ≤ 72 := by
  have h1 := bn_le h k hk
  have h2 := h.1.2
  omega
theorem bn_mono (ln : Nat → Nat) : ∀ (j i : Nat), i ≤ j → bn ln i ≤ bn ln j
  | 0, i, h => by
    have : i = 0 := by omega
    subst this
    exact Nat.le_refl _
  | j + 1, i, h => by
    by_cases e : i = j + 1
    · subst e
      exact Nat.le_refl _
    · have := bn_mono ln j i (by omega)
      simp only [bn]
      omega
theorem bn_in (ln : Nat → Nat) (m : Nat) : ∀ s, m < bn ln s → ∃ i, i < s ∧ bn ln i ≤ m ∧ m < bn ln (i + 1)
  | 0, h => by simp [bn] at h
  | k + 1, h => by
    by_cases c : m < bn ln k
    · obtain ⟨i, h1, h2⟩ := bn_in ln m k c
      exact ⟨i, by omega, h2⟩
    · exact ⟨k, by omega, by omega, h⟩
theorem X_men (hX : XE M n s ln gd pc kd) (hN : NE n s ln gd pc kd) {i : Nat} (hi : i < n) : ¬ nI i < 0 ∧ nI i < M.1 8 3 ∧ nI i < 5 := by
  have := hN.1.1
  rw [hX.1.1]
  exact ⟨nI_pos (by omega), nI_lt hi (by omega), nI_lt (b := 5) (by omega) (by omega)⟩
theorem pc_N (hX : XE M n s ln gd pc kd) (hN : NE n s ln gd pc kd) {i : Nat} (hi : i < n) : pc_X M (nI i) = nI (pc i) := by
  have := hN.1.1
  unfold pc_X
  rw [if_pos (X_men hX hN hi), nI_clamp (by omega), (hX.2.1 i hi).1]
theorem kd_N (hX : XE M n s ln gd pc kd) (hN : NE n s ln gd pc kd) {i : Nat} (hi : i < n) : kd_X M (nI i) = nI (kd i) := by
  have := hN.1.1
  unfold kd_X
  rw [if_pos (X_men hX hN hi), nI_clamp (by omega), (hX.2.1 i hi).2]
theorem sp_eq {p t : Int32} {k : Nat} (hk : k ≤ 3) : sp_X p (nI k) t = sp_M p (nI k) t := by
  have h : ∀ k, k < 4 → sw_X (nI k) = (if nI k = 1 then 1 else if nI k = 2 then 3 else 2) := by decide +kernel
  unfold sp_X sp_M
  rw [h k (by omega), Int32.mul_comm _ t]
theorem sp_N0 : ∀ p, p < 10 → 1 ≤ p → ∀ k, k < 4 → ∀ t, t < 10 → (1 ≤ (sp_M (nI p) (nI k) (nI t)).toNatClampNeg ∧ (sp_M (nI p) (nI k) (nI t)).toNatClampNeg ≤ 9) ∧ sp_M (nI p) (nI k) (nI t) = nI (sp_M (nI p) (nI k) (nI t)).toNatClampNeg := by decide +kernel
theorem sp_N {p k t : Nat} (h1 : 1 ≤ p) (hp : p ≤ 9) (hk : k ≤ 3) (ht : t ≤ 9) : ∃ v, 1 ≤ v ∧ v ≤ 9 ∧ sp_M (nI p) (nI k) (nI t) = nI v := by
  obtain ⟨⟨a, b⟩, c⟩ := sp_N0 p (by omega) h1 k (by omega) t (by omega)
  exact ⟨_, a, b, c⟩
/-- thorns, as both have them -/
def TR (f P : Nat → Int32) : Prop := ∀ i, i < 5 → f i = P (2 + i)
def TW (n : Nat) (P : Nat → Int32) : Prop := ∀ i, i < 5 → ∃ t, t ≤ 9 ∧ P (2 + i) = nI t ∧ (n ≤ i → t = 0)
/-- a page that can be -/
def PW (n e d : Nat) (P : Nat → Int32) : Prop := (∃ m, m ≤ e ∧ P 0 = nI m) ∧ (∃ k, k ≤ d ∧ P 1 = nI k) ∧ TW n P
/-- a march and a page are the same -/
def PR (s : mr_T) (P : Nat → Int32) : Prop := s.1 = P 0 ∧ s.2.1 = P 1 ∧ TR s.2.2.2 P
/-- two masks say the same of the men -/
def MK (n : Nat) (p w : Int32) : Prop := ∀ i, i < n → (((p >>> (nI i &&& 31)) &&& 1 = 1) ↔ ((w >>> (nI i &&& 31)) &&& 1 = 1))
theorem MK_all (h : n ≤ 5) : MK n (-1) 31 := by
  have h2 : ∀ i, i < 5 → (((-1 : Int32) >>> (nI i &&& 31)) &&& 1 = 1 ↔ ((31 : Int32) >>> (nI i &&& 31)) &&& 1 = 1) := by decide +kernel
  exact fun i hi => h2 i (by omega)
theorem MK_rf {p : Int32} : MK n p p := fun _ _ => Iff.rfl
/-- the first of the slowest -/
def LB (v : Nat → Int32) (b : Nat → Prop) (i n : Nat) : Option Nat → Prop
  | none => ∀ k, i ≤ k → k < n → ¬ b k
  | some j => i ≤ j ∧ j < n ∧ b j ∧ ∀ k, i ≤ k → k < n → b k → ¬ v k < v j ∧ (k < j → v j < v k)
theorem LB_u {v : Nat → Int32} {b : Nat → Prop} {i n : Nat} : ∀ {r r' : Option Nat}, LB v b i n r → LB v b i n r' → r = r'
  | none, none, _, _ => rfl
  | none, some j, h, h' => absurd h'.2.2.1 (h j h'.1 h'.2.1)
  | some j, none, h, h' => absurd h.2.2.1 (h' j h.1 h.2.1)
  | some j, some j', h, h' => by
    by_cases c : j = j'
    · rw [c]
    · exfalso
      have a1 := h.2.2.2 j' h'.1 h'.2.1 h'.2.2.1
      have a2 := h'.2.2.2 j h.1 h.2.1 h.2.2.1
      rcases Nat.lt_or_gt_of_ne c with c | c
      · exact a1.1 (a2.2 c)
      · exact a2.1 (a1.2 c)
theorem LB_c {v v' : Nat → Int32} {b b' : Nat → Prop} {i n : Nat} (hv : ∀ k, k < n → v k = v' k) (hb : ∀ k, k < n → (b k ↔ b' k)) : ∀ {r : Option Nat}, LB v b i n r → LB v' b' i n r
  | none, h => fun k h1 h2 h3 => h k h1 h2 ((hb k h2).mpr h3)
  | some j, h => by
    refine ⟨h.1, h.2.1, (hb j h.2.1).mp h.2.2.1, fun k h1 h2 h3 => ?_⟩
    have := h.2.2.2 k h1 h2 ((hb k h2).mpr h3)
    rw [hv k h2, hv j h.2.1] at this
    exact this
theorem i_tr {a b c : Int32} (h1 : a < b) (h2 : ¬ c < b) : a < c := by
  simp only [Int32.lt_iff_toInt_lt] at *
  omega
theorem i_nl {a b c : Int32} (h1 : a < b) (h2 : ¬ c < b) : ¬ c < a := by
  simp only [Int32.lt_iff_toInt_lt] at *
  omega
theorem i_nn {a b c : Int32} (h1 : ¬ b < a) (h2 : ¬ c < b) : ¬ c < a := by
  simp only [Int32.lt_iff_toInt_lt] at *
  omega
theorem i_ir {a : Int32} : ¬ a < a := by
  simp only [Int32.lt_iff_toInt_lt]
  omega
theorem fv_9 {j : Nat} (h : j < 5) : ¬ nI j = -9 := by
  have : ∀ j, j < 5 → ¬ nI j = -9 := by decide +kernel
  exact this j h
theorem ld_B {p : Int32} {f : Nat → Int32} : ∀ (k i : Nat) (r : Option Nat) (l : Int32), i + k ≤ 5 → LB (fun i => sp_X (pc_X M (nI i)) (kd_X M (nI i)) (f i)) (fun i => (p >>> (nI i &&& 31)) &&& 1 = 1) 0 i r → (∀ j, r = some j → l = sp_X (pc_X M (nI j)) (kd_X M (nI j)) (f j)) →
    ∃ r', ld_l M p f k i (fv_M r) l = fv_M r' ∧ LB (fun i => sp_X (pc_X M (nI i)) (kd_X M (nI i)) (f i)) (fun i => (p >>> (nI i &&& 31)) &&& 1 = 1) 0 (i + k) r'
  | 0, i, r, l, _, h, _ => ⟨r, rfl, h⟩
  | k + 1, i, r, l, hk, h, hl => by
    have e : i + (k + 1) = i + 1 + k := by omega
    rw [e]
    unfold ld_l
    by_cases c : (p >>> (nI i &&& 31)) &&& 1 = 1
    · rw [if_pos c]
      cases r with
      | none =>
        rw [if_pos (show fv_M none = -9 from rfl)]
        refine ld_B k (i + 1) (some i) _ (by omega) ⟨by omega, by omega, c, fun k' h1 h2 h3 => ?_⟩ (fun j hj => by cases hj; rfl)
        by_cases e2 : k' = i
        · subst e2
          exact ⟨i_ir, fun hx => by omega⟩
        · exact absurd h3 (h k' h1 (by omega))
      | some j =>
        have hj := h.2.1
        rw [if_neg (show ¬ fv_M (some j) = -9 from fv_9 (by omega)), hl j rfl]
        by_cases c2 : sp_X (pc_X M (nI i)) (kd_X M (nI i)) (f i) < sp_X (pc_X M (nI j)) (kd_X M (nI j)) (f j)
        · rw [if_pos c2]
          refine ld_B k (i + 1) (some i) _ (by omega) ⟨by omega, by omega, c, fun k' h1 h2 h3 => ?_⟩ (fun j hj => by cases hj; rfl)
          by_cases e2 : k' = i
          · subst e2
            exact ⟨i_ir, fun hx => by omega⟩
          · have a1 := (h.2.2.2 k' h1 (by omega) h3).1
            exact ⟨i_nl c2 a1, fun _ => i_tr c2 a1⟩
        · rw [if_neg c2]
          refine ld_B k (i + 1) (some j) _ (by omega) ⟨h.1, by omega, h.2.2.1, fun k' h1 h2 h3 => ?_⟩ (fun j hj => by cases hj; rfl)
          by_cases e2 : k' = i
          · subst e2
            exact ⟨c2, fun hx => by omega⟩
          · exact h.2.2.2 k' h1 (by omega) h3
    · rw [if_neg c]
      refine ld_B k (i + 1) r l (by omega) ?_ hl
      cases r with
      | none =>
        intro k' h1 h2
        by_cases e2 : k' = i
        · subst e2
          exact c
        · exact h k' h1 (by omega)
      | some j =>
        refine ⟨h.1, by have := h.2.1; omega, h.2.2.1, fun k' h1 h2 h3 => ?_⟩
        by_cases e2 : k' = i
        · subst e2
          exact absurd h3 c
        · exact h.2.2.2 k' h1 (by omega) h3
theorem lm_B {P : Nat → Int32} {w : Int32} : ∀ (i : Nat) (f : Option Nat), i ≤ n → LB (sm_M N P) (fun i => (w >>> (nI i &&& 31)) &&& 1 = 1) i n f → LB (sm_M N P) (fun i => (w >>> (nI i &&& 31)) &&& 1 = 1) 0 n (lm_l N P w i f)
  | 0, f, _, h => h
  | i + 1, f, hi, h => by
    unfold lm_l
    refine lm_B i _ (by omega) ?_
    unfold lm_1
    by_cases c : (w >>> (nI i &&& 31)) &&& 1 = 1
    · rw [if_pos c]
      · cases f with
        | none =>
          refine ⟨Nat.le_refl _, by omega, c, fun k h1 h2 h3 => ?_⟩
          by_cases e2 : k = i
          · subst e2
            exact ⟨i_ir, fun hx => by omega⟩
          · exact absurd h3 (h k (by omega) h2)
        | some j =>
          dsimp only
          split
          · rename_i c2
            refine ⟨by have := h.1; omega, h.2.1, h.2.2.1, fun k h1 h2 h3 => ?_⟩
            by_cases e2 : k = i
            · subst e2
              exact ⟨i_nl c2 i_ir, fun _ => c2⟩
            · exact h.2.2.2 k (by omega) h2 h3
          · rename_i c2
            refine ⟨Nat.le_refl _, by omega, c, fun k h1 h2 h3 => ?_⟩
            by_cases e2 : k = i
            · subst e2
              exact ⟨i_ir, fun hx => by omega⟩
            · exact ⟨i_nn c2 (h.2.2.2 k (by omega) h2 h3).1, fun hx => by omega⟩
    · rw [if_neg c]
      cases f with
      | none =>
        intro k h1 h2
        by_cases e2 : k = i
        · subst e2
          exact c
        · exact h k (by omega) h2
      | some j =>
        refine ⟨by have := h.1; omega, h.2.1, h.2.2.1, fun k h1 h2 h3 => ?_⟩
        by_cases e2 : k = i
        · subst e2
          exact absurd h3 c
        · exact h.2.2.2 k (by omega) h2 h3
end EQ1
