/-! METHODS: Acts, Trials, bitCount, ease times -/
/-- a row of longs written anew -/
def wlo (M : ab_M) (p : Nat) (g : Nat → Int64) : ab_M := (M.1, fun a b => if a = p then g b else M.2 a b)
def up_l (g : Nat → Int64) (k : Nat) (x : Int64) : Nat → Int64 := fun j => if j = k then x else g j
theorem wlo_id {M : ab_M} {p : Nat} : wlo M p (M.2 p) = M := by
  refine Prod.ext rfl (funext fun a => funext fun b => ?_)
  simp only [wlo]
  split
  · rename_i h; rw [h]
  · rfl
theorem wlo_s {M : ab_M} {p k : Nat} {g : Nat → Int64} {x : Int64} : ab_sl (wlo M p g) p k x = wlo M p (up_l g k x) := by
  refine Prod.ext rfl (funext fun a => funext fun b => ?_)
  simp only [wlo, ab_sl, up_l]
  by_cases ha : a = p <;> by_cases hb : b = k <;> simp [ha, hb]
theorem wlo_1 {M : ab_M} {p : Nat} {g : Nat → Int64} : (wlo M p g).1 = M.1 := rfl
theorem wlo_2 {M : ab_M} {p a b : Nat} {g : Nat → Int64} : (wlo M p g).2 a b = if a = p then g b else M.2 a b := rfl
/-- the first k moved on by one -/
def sf_l (g : Nat → Int64) (k : Nat) : Nat → Int64 := fun b => if b < k then g (b + 1) else g b
theorem sf_0 (g : Nat → Int64) : sf_l g 0 = g := by funext b; simp [sf_l]
theorem sf_s (g : Nat → Int64) (k : Nat) : up_l (sf_l g k) k (g (k + 1)) = sf_l g (k + 1) := by
  funext b
  simp only [up_l, sf_l]
  by_cases e : b = k
  · subst e; simp
  · by_cases h : b < k
    · have h1 : b < k + 1 := by omega
      simp [e, h, h1]
    · have h1 : ¬ b < k + 1 := by omega
      simp [e, h, h1]
theorem sf_at (g : Nat → Int64) (k : Nat) : sf_l g k (k + 1) = g (k + 1) := by
  have h : ¬ k + 1 < k := by omega
  simp [sf_l, h]
def s_X0_forgetFirst : ab_Sem := fun as M Po => match as with
  | [.ref 14] => Po none (ab_si (wlo M 15 (sf_l (M.2 15) 13)) 14 1 13)
  | _ => False
theorem q_X0_forgetFirst {M : ab_M} {Po : ab_P} : s_X0_forgetFirst [.ref 14] M Po = (Po none (ab_si (wlo M 15 (sf_l (M.2 15) 13)) 14 1 13)) := rfl
abbrev x_X0_forgetFirst : ab_X := (none, fl_X0, [], kl_X0, gs_X0, ab_ros)
theorem r_X0_forgetFirst : ∀ (as : List Value) (M : ab_M) (Po : ab_P), s_X0_forgetFirst as M Po → ∃ (q : Nat) (as' : List Value) (ci : Nat) (T : u_T) (N : Nat) (fs : List ab_F), as = .ref q :: as' ∧ ab_sh[q]? = some (.inl (ci, fs)) ∧ vwCl[ci]? = some (yX0_forgetFirst.cls, T, N) := by
  intro as M Po h
  unfold s_X0_forgetFirst at h
  split at h
  · first | exact ⟨_, _, 0, _, _, _, rfl, rfl, rfl⟩ | (rcases h.1 with rfl | rfl | rfl <;> exact ⟨_, _, 0, _, _, _, rfl, rfl, rfl⟩)
  · exact h.elim
set_option maxRecDepth 20000 in
set_option maxHeartbeats 4000000 in
theorem lp_X0_forgetFirst {G : ab_K} {Po : ab_P} (hG : ab_Clo cX0_forgetFirst x_X0_forgetFirst Po G) {M : ab_M} (h : Po none (ab_si (wlo M 15 (sf_l (M.2 15) 13)) 14 1 13)) : ∀ (j i : Nat), i + j = 13 → G 2 [some (.ref 14), some (.int (nI (i + 1)))] [] (wlo M 15 (sf_l (M.2 15) i)) := by
  intro j
  induction j with
  | zero =>
    intro i hi
    have e : i = 13 := by omega
    subst e
    refine ab_go1 hG [2] 80 _ _ _ _ ?_
    simp (decide := true) only [ew_s, ew_0, Option.toList_some, Option.toList_none, List.cons_append, List.nil_append, true_and, and_true, List.length_cons, List.length_nil, Nat.reduceAdd, Nat.reduceLeDiff, Int32.reduceAdd, Int32.reduceSub, Int32.reduceMul, Int32.reduceLT, Int32.reduceLE, Int32.reduceToNatClampNeg, ↓reduceIte, and_self, si_1, si_2, sl_1, sl_2, false_and, and_false, dX0_forgetFirst_0, dX0_forgetFirst_1, dX0_forgetFirst_2, dX0_forgetFirst_3, dX0_forgetFirst_4, dX0_forgetFirst_7, dX0_forgetFirst_8, dX0_forgetFirst_11, dX0_forgetFirst_12, dX0_forgetFirst_15, dX0_forgetFirst_16, dX0_forgetFirst_17, dX0_forgetFirst_18, dX0_forgetFirst_19, dX0_forgetFirst_22, dX0_forgetFirst_23, dX0_forgetFirst_24, dX0_forgetFirst_25, dX0_forgetFirst_28, dX0_forgetFirst_31, dX0_forgetFirst_32, dX0_forgetFirst_33, dX0_forgetFirst_36, dX0_forgetFirst_37, dX0_forgetFirst_38, dX0_forgetFirst_39, dX0_forgetFirst_42, e_alen, e_aload_n0, e_getfield, e_iload_n1, e_istore_n1i, e_istore_n1n, e_istore_n1r, e_isub, e_laload, e_lastore, e_putfield, e_return, ea_15, el_15, es_15, gf_X0_9_14, j_goto_28_m26, j_ic_1, j_icmp_ge_8_23, j_ii_1_1, pf_X0_15_14, ab_rn, bi_0, bi_1, ite_not]
    exact h
  | succ j ih =>
    intro i hi
    have ih1 := ih (i + 1) (by omega)
    have h2 : nI (i + 1) < 14 := nI_lt (b := 14) (by omega) (by omega)
    have hc : (nI (i + 1)).toNatClampNeg = i + 1 := nI_clamp (by omega)
    have hm : nI (i + 1) - 1 = nI i := nI_pred i
    have hc2 : (nI i).toNatClampNeg = i := nI_clamp (by omega)
    have hb : 0 ≤ nI (i + 1) ∧ nI (i + 1) < 14 := ⟨nI_pos' (by omega), h2⟩
    have hb2 : 0 ≤ nI i ∧ nI i < 14 := ⟨nI_pos' (by omega), nI_lt (b := 14) (by omega) (by omega)⟩
    refine ab_go1 hG [2] 80 _ _ _ _ ?_
    simp (decide := true) only [ew_s, ew_0, Option.toList_some, Option.toList_none, List.cons_append, List.nil_append, true_and, and_true, List.length_cons, List.length_nil, Nat.reduceAdd, Nat.reduceLeDiff, Int32.reduceAdd, Int32.reduceSub, Int32.reduceMul, Int32.reduceLT, Int32.reduceLE, Int32.reduceToNatClampNeg, ↓reduceIte, and_self, si_1, si_2, sl_1, sl_2, false_and, and_false, dX0_forgetFirst_0, dX0_forgetFirst_1, dX0_forgetFirst_2, dX0_forgetFirst_3, dX0_forgetFirst_4, dX0_forgetFirst_7, dX0_forgetFirst_8, dX0_forgetFirst_11, dX0_forgetFirst_12, dX0_forgetFirst_15, dX0_forgetFirst_16, dX0_forgetFirst_17, dX0_forgetFirst_18, dX0_forgetFirst_19, dX0_forgetFirst_22, dX0_forgetFirst_23, dX0_forgetFirst_24, dX0_forgetFirst_25, dX0_forgetFirst_28, dX0_forgetFirst_31, dX0_forgetFirst_32, dX0_forgetFirst_33, dX0_forgetFirst_36, dX0_forgetFirst_37, dX0_forgetFirst_38, dX0_forgetFirst_39, dX0_forgetFirst_42, e_alen, e_aload_n0, e_getfield, e_iload_n1, e_istore_n1i, e_istore_n1n, e_istore_n1r, e_isub, e_laload, e_lastore, e_putfield, e_return, ea_15, el_15, es_15, gf_X0_9_14, j_goto_28_m26, j_ic_1, j_icmp_ge_8_23, j_ii_1_1, pf_X0_15_14, ab_rn, bi_0, bi_1, ite_not]
    rw [if_pos h2]
    simp only [hm, hc, hc2, nI_1, wlo_2, ↓reduceIte, wlo_s, sf_at, sf_s]
    exact ⟨hb, hb2, ih1⟩
set_option maxRecDepth 20000 in
set_option maxHeartbeats 4000000 in
theorem c_X0_forgetFirst {l : Launch} : ab_ctr l yX0_forgetFirst cX0_forgetFirst 2 none 0 0 s_X0_forgetFirst := by
  refine ab_met x_X0_forgetFirst (by decide) rfl fo_X0 ko_X0 so_X0 rfl ab_cs_nil ?_ ?_
  · intro as M Po h
    unfold s_X0_forgetFirst at h
    split at h
    · simp [ab_e0]
    · exact h.elim
  · intro as M Po h G hG
    unfold s_X0_forgetFirst at h
    split at h
    · simp only [ab_en, ab_e0, List.length_cons, List.length_nil, Nat.reduceAdd, Nat.reduceSub, List.replicate, List.cons_append, List.nil_append]
      have key := lp_X0_forgetFirst hG h 13 0 (by omega)
      rw [sf_0, wlo_id] at key
      refine ab_go hG [2] 80 _ _ _ _ ?_
      simp (decide := true) only [ew_s, ew_0, Option.toList_some, Option.toList_none, List.cons_append, List.nil_append, true_and, and_true, List.length_cons, List.length_nil, Nat.reduceAdd, Nat.reduceLeDiff, Int32.reduceAdd, Int32.reduceSub, Int32.reduceMul, Int32.reduceLT, Int32.reduceLE, Int32.reduceToNatClampNeg, ↓reduceIte, and_self, si_1, si_2, sl_1, sl_2, false_and, and_false, dX0_forgetFirst_0, dX0_forgetFirst_1, dX0_forgetFirst_2, dX0_forgetFirst_3, dX0_forgetFirst_4, dX0_forgetFirst_7, dX0_forgetFirst_8, dX0_forgetFirst_11, dX0_forgetFirst_12, dX0_forgetFirst_15, dX0_forgetFirst_16, dX0_forgetFirst_17, dX0_forgetFirst_18, dX0_forgetFirst_19, dX0_forgetFirst_22, dX0_forgetFirst_23, dX0_forgetFirst_24, dX0_forgetFirst_25, dX0_forgetFirst_28, dX0_forgetFirst_31, dX0_forgetFirst_32, dX0_forgetFirst_33, dX0_forgetFirst_36, dX0_forgetFirst_37, dX0_forgetFirst_38, dX0_forgetFirst_39, dX0_forgetFirst_42, e_alen, e_aload_n0, e_getfield, e_iload_n1, e_istore_n1i, e_istore_n1n, e_istore_n1r, e_isub, e_laload, e_lastore, e_putfield, e_return, ea_15, el_15, es_15, gf_X0_9_14, j_goto_28_m26, j_ic_1, j_icmp_ge_8_23, j_ii_1_1, pf_X0_15_14, ab_rn, bi_0, bi_1, ite_not]
      exact key
    · exact h.elim

def re_X (M : ab_M) (u : Int64) : ab_M := if M.1 14 1 < 14 then ab_si (ab_sl M 15 (M.1 14 1).toNatClampNeg u) 14 1 (M.1 14 1 + 1) else ab_si (ab_sl (ab_si (wlo M 15 (sf_l (M.2 15) 13)) 14 1 13) 15 13 u) 14 1 14
def s_X0_remember : ab_Sem := fun as M Po => match as with
  | [.ref 14, .long u] => (¬ M.1 14 1 < 0 ∧ Po none (re_X M u))
  | _ => False
theorem q_X0_remember {u : Int64} {M : ab_M} {Po : ab_P} : s_X0_remember [.ref 14, .long u] M Po = ((¬ M.1 14 1 < 0 ∧ Po none (re_X M u))) := rfl
abbrev x_X0_remember : ab_X := (none, fl_X0, [(38, 1, s_X0_forgetFirst)], kl_X0, gs_X0, ab_ros)
theorem ca_X0_remember_19 {v0 : Value} {st : List Value} {M : ab_M} {k : List Value → ab_M → Prop} : ab_ca x_X0_remember (2 * 19) (v0 :: st) M k = (st.length ≤ 4 ∧ s_X0_forgetFirst [v0] M (fun r M' => k (r.toList ++ st) M')) := rfl
theorem r_X0_remember : ∀ (as : List Value) (M : ab_M) (Po : ab_P), s_X0_remember as M Po → ∃ (q : Nat) (as' : List Value) (ci : Nat) (T : u_T) (N : Nat) (fs : List ab_F), as = .ref q :: as' ∧ ab_sh[q]? = some (.inl (ci, fs)) ∧ vwCl[ci]? = some (yX0_remember.cls, T, N) := by
  intro as M Po h
  unfold s_X0_remember at h
  split at h
  · first | exact ⟨_, _, 0, _, _, _, rfl, rfl, rfl⟩ | (rcases h.1 with rfl | rfl | rfl <;> exact ⟨_, _, 0, _, _, _, rfl, rfl, rfl⟩)
  · exact h.elim
set_option maxRecDepth 20000 in
set_option maxHeartbeats 4000000 in
theorem c_X0_remember {l : Launch} : ab_ctr l yX0_remember cX0_remember 3 none 1 21 s_X0_remember := by
  refine ab_met x_X0_remember (by decide) rfl fo_X0 ko_X0 so_X0 rfl (ab_cs_cons (ab_kV c_X0_forgetFirst ml_X0_19 v_X0_forgetFirst ⟨rfl, rfl⟩ r_X0_forgetFirst) ab_cs_nil) ?_ ?_
  · intro as M Po h
    unfold s_X0_remember at h
    split at h
    · simp [ab_e0]
    · exact h.elim
  · intro as M Po h G hG
    unfold s_X0_remember at h
    split at h
    · refine ab_go hG [] 60 _ _ _ _ ?_
      simp only [ab_en, ab_e0, List.length_cons, List.length_nil, Nat.reduceAdd, Nat.reduceSub, List.replicate, List.cons_append, List.nil_append]
      simp (decide := true) only [ew_n, ew_0, Option.toList_some, Option.toList_none, List.cons_append, List.nil_append, true_and, and_true, List.length_cons, List.length_nil, Nat.reduceAdd, Nat.reduceLeDiff, Int32.reduceAdd, Int32.reduceSub, Int32.reduceMul, Int32.reduceLT, Int32.reduceLE, Int32.reduceToNatClampNeg, ↓reduceIte, and_self, si_1, si_2, sl_1, sl_2, false_and, and_false, dX0_remember_0, dX0_remember_1, dX0_remember_4, dX0_remember_5, dX0_remember_8, dX0_remember_9, dX0_remember_12, dX0_remember_13, dX0_remember_16, dX0_remember_17, dX0_remember_20, dX0_remember_23, dX0_remember_24, dX0_remember_27, dX0_remember_28, dX0_remember_31, dX0_remember_32, dX0_remember_35, dX0_remember_36, dX0_remember_39, dX0_remember_40, dX0_remember_43, dX0_remember_44, dX0_remember_45, dX0_remember_46, dX0_remember_47, dX0_remember_50, dX0_remember_51, dX0_remember_52, dX0_remember_55, ca_X0_remember_19, e_alen, e_aload_n0, e_callv, e_dupi, e_dupr, e_getfield, e_iadd, e_lastore, e_lload_n1, e_putfield, e_return, el_15, es_15, gf_X0_15_14, gf_X0_9_14, j_ic_1, j_icmp_ge_32_23, j_icmp_lt_9_7, j_if_lt_20_35, pf_X0_15_14, q_X0_forgetFirst, wlo_1, ab_rn, bi_0, bi_1, ite_not]
      obtain ⟨h0, h⟩ := h
      unfold re_X at h
      split
      · rename_i h1
        rw [if_pos h1] at h
        simp only [i0_le, h0, h1, not_false_eq_true, and_self, true_and, ↓reduceIte]
        exact h
      · rename_i h1
        rw [if_neg h1] at h
        exact h
    · exact h.elim

def nt_X (M : ab_M) : Nat := min 6 (M.1 25 3).toNatClampNeg
theorem nt_lt {M : ab_M} {i : Nat} (h : i < nt_X M) : nI i < M.1 25 3 ∧ nI i < 6 ∧ i < 6 := by
  have h5 : i < 6 := by unfold nt_X at h; omega
  have hc : i < (M.1 25 3).toNatClampNeg := by unfold nt_X at h; omega
  refine ⟨?_, nI_lt (b := 6) h5 (by omega), h5⟩
  rw [Int32.lt_iff_toInt_lt, nI_toInt (by omega)]
  have : (M.1 25 3).toNatClampNeg = (M.1 25 3).toInt.toNat := rfl
  omega
theorem nt_ge {M : ab_M} {i : Nat} (h : nt_X M ≤ i) (h5 : i ≤ 6) : ¬ nI i < M.1 25 3 ∨ ¬ nI i < 6 := by
  by_cases e : i = 6
  · right; subst e; decide
  · left
    rw [Int32.lt_iff_toInt_lt, nI_toInt (by omega)]
    have : (M.1 25 3).toNatClampNeg = (M.1 25 3).toInt.toNat := rfl
    unfold nt_X at h
    omega
/-- what is tried is so, from the i-th on -/
def ft_l (M : ab_M) (kd pc : Int32) : Nat → Nat → Int32
  | 0, _ => 1
  | n + 1, i => if (if M.1 27 i < sp_X pc kd (M.1 26 i) then (0 : Int32) else 1) = M.1 28 i then ft_l M kd pc n (i + 1) else 0
def ft_X (M : ab_M) (kd pc : Int32) : Int32 := ft_l M kd pc (nt_X M) 0
theorem ft_l_01 (M : ab_M) (kd pc : Int32) : ∀ n i, ft_l M kd pc n i = 0 ∨ ft_l M kd pc n i = 1
  | 0, _ => Or.inr rfl
  | n + 1, i => by
    unfold ft_l
    by_cases h : (if M.1 27 i < sp_X pc kd (M.1 26 i) then (0 : Int32) else 1) = M.1 28 i
    · rw [if_pos h]
      exact ft_l_01 M kd pc n (i + 1)
    · rw [if_neg h]
      exact Or.inl rfl
def s_X6_fits : ab_Sem := fun as M Po => match as with
  | [.ref 25, .int a, .int b] => Po (some (.int (ft_X M a b))) M
  | _ => False
theorem q_X6_fits {a b : Int32} {M : ab_M} {Po : ab_P} : s_X6_fits [.ref 25, .int a, .int b] M Po = (Po (some (.int (ft_X M a b))) M) := rfl
abbrev x_X6_fits : ab_X := (some .boolean, fl_X6, [(53, 3, s_X8_speedBy)], kl_X6, gs_X6, ab_ros)
theorem ca_X6_fits_26 {v0 v1 v2 : Value} {st : List Value} {M : ab_M} {k : List Value → ab_M → Prop} : ab_ca x_X6_fits (2 * 26 + 1) (v2 :: v1 :: v0 :: st) M k = (st.length ≤ 4 ∧ s_X8_speedBy [v0, v1, v2] M (fun r M' => k (r.toList ++ st) M')) := rfl
theorem r_X6_fits : ∀ (as : List Value) (M : ab_M) (Po : ab_P), s_X6_fits as M Po → ∃ (q : Nat) (as' : List Value) (ci : Nat) (T : u_T) (N : Nat) (fs : List ab_F), as = .ref q :: as' ∧ ab_sh[q]? = some (.inl (ci, fs)) ∧ vwCl[ci]? = some (yX6_fits.cls, T, N) := by
  intro as M Po h
  unfold s_X6_fits at h
  split at h
  · first | exact ⟨_, _, 6, _, _, _, rfl, rfl, rfl⟩ | (rcases h.1 with rfl | rfl | rfl <;> exact ⟨_, _, 6, _, _, _, rfl, rfl, rfl⟩)
  · exact h.elim
set_option maxRecDepth 20000 in
set_option maxHeartbeats 4000000 in
theorem lp_X6_fits {G : ab_K} {Po : ab_P} (hG : ab_Clo cX6_fits x_X6_fits Po G) {M : ab_M} {a b : Int32} : ∀ (j i : Nat) (c : Option Value), i + j = nt_X M → Po (some (.int (ft_l M a b j i))) M → G 2 [some (.ref 25), some (.int a), some (.int b), some (.int (nI i)), c] [] M := by
  intro j
  induction j with
  | zero =>
    intro i c hi h
    unfold ft_l at h
    have h5 : i ≤ 6 := by unfold nt_X at hi; omega
    refine ab_go1 hG [2] 80 _ _ _ _ ?_
    simp (decide := true) only [ew_s, ew_0, Option.toList_some, Option.toList_none, List.cons_append, List.nil_append, true_and, and_true, List.length_cons, List.length_nil, Nat.reduceAdd, Nat.reduceLeDiff, Int32.reduceAdd, Int32.reduceSub, Int32.reduceMul, Int32.reduceLT, Int32.reduceLE, Int32.reduceToNatClampNeg, ↓reduceIte, and_self, si_1, si_2, sl_1, sl_2, false_and, and_false, dX6_fits_0, dX6_fits_1, dX6_fits_2, dX6_fits_3, dX6_fits_4, dX6_fits_7, dX6_fits_10, dX6_fits_11, dX6_fits_13, dX6_fits_16, dX6_fits_17, dX6_fits_18, dX6_fits_19, dX6_fits_22, dX6_fits_23, dX6_fits_24, dX6_fits_27, dX6_fits_28, dX6_fits_31, dX6_fits_32, dX6_fits_33, dX6_fits_36, dX6_fits_37, dX6_fits_40, dX6_fits_41, dX6_fits_43, dX6_fits_45, dX6_fits_46, dX6_fits_49, dX6_fits_50, dX6_fits_51, dX6_fits_54, dX6_fits_55, dX6_fits_56, dX6_fits_59, dX6_fits_62, dX6_fits_63, ca_X6_fits_26, e_aload_n0, e_baload, e_calls, e_getfield, e_iaload, e_iload4, e_iload_n1, e_iload_n2, e_iload_n3, e_ireturn, e_istore4i, e_istore4n, e_istore4r, e_istore_n3i, e_istore_n3n, e_istore_n3r, ea_26, ea_27, ea_28, gf_X6_15_25, gf_X6_18_25, gf_X6_22_25, gf_X6_9_25, j_bp_6, j_goto_37_4, j_goto_59_m57, j_ic_0, j_ic_1, j_icmp_eq_51_5, j_icmp_ge_13_49, j_icmp_ge_7_55, j_icmp_gt_33_7, j_ii_3_1, q_X8_speedBy, ab_rn, bi_0, bi_1, ite_not]
    rcases nt_ge (M := M) (i := i) (by omega) h5 with hh | hh
    · rw [if_neg hh]
      exact h
    · simp only [if_neg hh]
      split <;> exact h
  | succ j ih =>
    intro i c hi h
    obtain ⟨h1, h2, h5⟩ := nt_lt (M := M) (i := i) (by omega)
    unfold ft_l at h
    have hc : (nI i).toNatClampNeg = i := nI_clamp (by omega)
    have hb : 0 ≤ nI i ∧ nI i < 6 := ⟨nI_pos' (by omega), h2⟩
    refine ab_go1 hG [2] 80 _ _ _ _ ?_
    simp (decide := true) only [ew_s, ew_0, Option.toList_some, Option.toList_none, List.cons_append, List.nil_append, true_and, and_true, List.length_cons, List.length_nil, Nat.reduceAdd, Nat.reduceLeDiff, Int32.reduceAdd, Int32.reduceSub, Int32.reduceMul, Int32.reduceLT, Int32.reduceLE, Int32.reduceToNatClampNeg, ↓reduceIte, and_self, si_1, si_2, sl_1, sl_2, false_and, and_false, dX6_fits_0, dX6_fits_1, dX6_fits_2, dX6_fits_3, dX6_fits_4, dX6_fits_7, dX6_fits_10, dX6_fits_11, dX6_fits_13, dX6_fits_16, dX6_fits_17, dX6_fits_18, dX6_fits_19, dX6_fits_22, dX6_fits_23, dX6_fits_24, dX6_fits_27, dX6_fits_28, dX6_fits_31, dX6_fits_32, dX6_fits_33, dX6_fits_36, dX6_fits_37, dX6_fits_40, dX6_fits_41, dX6_fits_43, dX6_fits_45, dX6_fits_46, dX6_fits_49, dX6_fits_50, dX6_fits_51, dX6_fits_54, dX6_fits_55, dX6_fits_56, dX6_fits_59, dX6_fits_62, dX6_fits_63, ca_X6_fits_26, e_aload_n0, e_baload, e_calls, e_getfield, e_iaload, e_iload4, e_iload_n1, e_iload_n2, e_iload_n3, e_ireturn, e_istore4i, e_istore4n, e_istore4r, e_istore_n3i, e_istore_n3n, e_istore_n3r, ea_26, ea_27, ea_28, gf_X6_15_25, gf_X6_18_25, gf_X6_22_25, gf_X6_9_25, j_bp_6, j_goto_37_4, j_goto_59_m57, j_ic_0, j_ic_1, j_icmp_eq_51_5, j_icmp_ge_13_49, j_icmp_ge_7_55, j_icmp_gt_33_7, j_ii_3_1, q_X8_speedBy, ab_rn, bi_0, bi_1, ite_not]
    rw [if_pos h1, if_pos h2]
    simp only [hc, nI_1]
    refine ⟨hb, hb, ?_⟩
    split
    · rename_i h3
      rw [if_pos h3] at h
      refine ⟨hb, ?_⟩
      split
      · rename_i h4
        rw [if_pos h4] at h
        exact ih (i + 1) _ (by omega) h
      · rename_i h4
        rw [if_neg h4] at h
        exact h
    · rename_i h3
      rw [if_neg h3] at h
      refine ⟨hb, ?_⟩
      split
      · rename_i h4
        rw [if_pos h4] at h
        exact ih (i + 1) _ (by omega) h
      · rename_i h4
        rw [if_neg h4] at h
        exact h
set_option maxRecDepth 20000 in
set_option maxHeartbeats 4000000 in
theorem c_X6_fits {l : Launch} : ab_ctr l yX6_fits cX6_fits 5 (some .boolean) 1 24 s_X6_fits := by
  refine ab_met x_X6_fits (by decide) rfl fo_X6 ko_X6 so_X6 rfl (ab_cs_cons (ab_kN c_X8_speedBy ml_X6_26 v_X8_speedBy ⟨rfl, rfl⟩) ab_cs_nil) ?_ ?_
  · intro as M Po h
    unfold s_X6_fits at h
    split at h
    · simp [ab_e0]
    · exact h.elim
  · intro as M Po h G hG
    unfold s_X6_fits at h
    split at h
    · simp only [ab_en, ab_e0, List.length_cons, List.length_nil, Nat.reduceAdd, Nat.reduceSub, List.replicate, List.cons_append, List.nil_append]
      refine ab_go hG [2] 80 _ _ _ _ ?_
      simp (decide := true) only [ew_s, ew_0, Option.toList_some, Option.toList_none, List.cons_append, List.nil_append, true_and, and_true, List.length_cons, List.length_nil, Nat.reduceAdd, Nat.reduceLeDiff, Int32.reduceAdd, Int32.reduceSub, Int32.reduceMul, Int32.reduceLT, Int32.reduceLE, Int32.reduceToNatClampNeg, ↓reduceIte, and_self, si_1, si_2, sl_1, sl_2, false_and, and_false, dX6_fits_0, dX6_fits_1, dX6_fits_2, dX6_fits_3, dX6_fits_4, dX6_fits_7, dX6_fits_10, dX6_fits_11, dX6_fits_13, dX6_fits_16, dX6_fits_17, dX6_fits_18, dX6_fits_19, dX6_fits_22, dX6_fits_23, dX6_fits_24, dX6_fits_27, dX6_fits_28, dX6_fits_31, dX6_fits_32, dX6_fits_33, dX6_fits_36, dX6_fits_37, dX6_fits_40, dX6_fits_41, dX6_fits_43, dX6_fits_45, dX6_fits_46, dX6_fits_49, dX6_fits_50, dX6_fits_51, dX6_fits_54, dX6_fits_55, dX6_fits_56, dX6_fits_59, dX6_fits_62, dX6_fits_63, ca_X6_fits_26, e_aload_n0, e_baload, e_calls, e_getfield, e_iaload, e_iload4, e_iload_n1, e_iload_n2, e_iload_n3, e_ireturn, e_istore4i, e_istore4n, e_istore4r, e_istore_n3i, e_istore_n3n, e_istore_n3r, ea_26, ea_27, ea_28, gf_X6_15_25, gf_X6_18_25, gf_X6_22_25, gf_X6_9_25, j_bp_6, j_goto_37_4, j_goto_59_m57, j_ic_0, j_ic_1, j_icmp_eq_51_5, j_icmp_ge_13_49, j_icmp_ge_7_55, j_icmp_gt_33_7, j_ii_3_1, q_X8_speedBy, ab_rn, bi_0, bi_1, ite_not]
      exact lp_X6_fits hG _ 0 _ (by omega) h
    · exact h.elim

/-- how many fit, the first that fits: the t-th of 30 places (ten a kind, the tenth is none) on -/
def cf_l (M : ab_M) : Nat → Nat → Int32 → Int32
  | 0, _, c => c
  | r + 1, t, c => if t % 10 = 9 then cf_l M r (t + 1) c else if ft_X M (nI (t / 10)) (nI (t % 10 + 1)) = 0 then cf_l M r (t + 1) c else cf_l M r (t + 1) (c + 1)
def ff_l (M : ab_M) : Nat → Nat → Int32
  | 0, _ => -9
  | r + 1, t => if t % 10 = 9 then ff_l M r (t + 1) else if ft_X M (nI (t / 10)) (nI (t % 10 + 1)) = 0 then ff_l M r (t + 1) else 10 * nI (t / 10) + nI (t % 10 + 1)
def s_X6_fittingCount : ab_Sem := fun as M Po => match as with
  | [.ref 25] => Po (some (.int (cf_l M 29 0 0))) M
  | _ => False
theorem q_X6_fittingCount {M : ab_M} {Po : ab_P} : s_X6_fittingCount [.ref 25] M Po = (Po (some (.int (cf_l M 29 0 0))) M) := rfl
abbrev x_X6_fittingCount : ab_X := (some .int, fl_X6, [(60, 3, s_X6_fits)], kl_X6, gs_X6, ab_ros)
theorem ca_X6_fittingCount_30 {v0 v1 v2 : Value} {st : List Value} {M : ab_M} {k : List Value → ab_M → Prop} : ab_ca x_X6_fittingCount (2 * 30) (v2 :: v1 :: v0 :: st) M k = (st.length ≤ 4 ∧ s_X6_fits [v0, v1, v2] M (fun r M' => k (r.toList ++ st) M')) := rfl
theorem r_X6_fittingCount : ∀ (as : List Value) (M : ab_M) (Po : ab_P), s_X6_fittingCount as M Po → ∃ (q : Nat) (as' : List Value) (ci : Nat) (T : u_T) (N : Nat) (fs : List ab_F), as = .ref q :: as' ∧ ab_sh[q]? = some (.inl (ci, fs)) ∧ vwCl[ci]? = some (yX6_fittingCount.cls, T, N) := by
  intro as M Po h
  unfold s_X6_fittingCount at h
  split at h
  · first | exact ⟨_, _, 6, _, _, _, rfl, rfl, rfl⟩ | (rcases h.1 with rfl | rfl | rfl <;> exact ⟨_, _, 6, _, _, _, rfl, rfl, rfl⟩)
  · exact h.elim
set_option maxRecDepth 20000 in
set_option maxHeartbeats 4000000 in
theorem lp_X6_fittingCount {G : ab_K} {Po : ab_P} (hG : ab_Clo cX6_fittingCount x_X6_fittingCount Po G) {M : ab_M} : ∀ (r t : Nat) (c : Int32), t + r = 29 → Po (some (.int (cf_l M r t c))) M → G 11 [some (.ref 25), some (.int c), some (.int (nI (t / 10))), some (.int (nI (t % 10 + 1)))] [] M := by
  intro r
  induction r with
  | zero =>
    intro t c ht h
    have e : t = 29 := by omega
    subst e
    refine ab_go1 hG [11] 80 _ _ _ _ ?_
    simp (decide := true) only [ew_s, ew_0, Option.toList_some, Option.toList_none, List.cons_append, List.nil_append, true_and, and_true, List.length_cons, List.length_nil, Nat.reduceAdd, Nat.reduceLeDiff, Int32.reduceAdd, Int32.reduceSub, Int32.reduceMul, Int32.reduceLT, Int32.reduceLE, Int32.reduceToNatClampNeg, ↓reduceIte, and_self, si_1, si_2, sl_1, sl_2, false_and, and_false, dX6_fittingCount_0, dX6_fittingCount_1, dX6_fittingCount_2, dX6_fittingCount_3, dX6_fittingCount_4, dX6_fittingCount_5, dX6_fittingCount_6, dX6_fittingCount_9, dX6_fittingCount_10, dX6_fittingCount_11, dX6_fittingCount_12, dX6_fittingCount_14, dX6_fittingCount_17, dX6_fittingCount_18, dX6_fittingCount_19, dX6_fittingCount_20, dX6_fittingCount_23, dX6_fittingCount_26, dX6_fittingCount_29, dX6_fittingCount_32, dX6_fittingCount_35, dX6_fittingCount_38, dX6_fittingCount_41, dX6_fittingCount_42, ca_X6_fittingCount_30, e_aload_n0, e_callv, e_iload_n1, e_iload_n2, e_iload_n3, e_ireturn, e_istore_n1i, e_istore_n1n, e_istore_n1r, e_istore_n2i, e_istore_n2n, e_istore_n2r, e_istore_n3i, e_istore_n3n, e_istore_n3r, j_bp_9, j_goto_32_m21, j_goto_38_m34, j_ic_0, j_ic_1, j_ic_3, j_icmp_ge_6_35, j_icmp_gt_14_21, j_if_eq_23_6, j_ii_1_1, j_ii_2_1, j_ii_3_1, q_X6_fits, ab_rn, bi_0, bi_1, ite_not]
    exact h
  | succ r ih =>
    intro t c ht h
    unfold cf_l at h
    have ih1 := fun c => ih (t + 1) c (by omega)
    refine ab_go1 hG [11] 80 _ _ _ _ ?_
    simp (decide := true) only [ew_s, ew_0, Option.toList_some, Option.toList_none, List.cons_append, List.nil_append, true_and, and_true, List.length_cons, List.length_nil, Nat.reduceAdd, Nat.reduceLeDiff, Int32.reduceAdd, Int32.reduceSub, Int32.reduceMul, Int32.reduceLT, Int32.reduceLE, Int32.reduceToNatClampNeg, ↓reduceIte, and_self, si_1, si_2, sl_1, sl_2, false_and, and_false, dX6_fittingCount_0, dX6_fittingCount_1, dX6_fittingCount_2, dX6_fittingCount_3, dX6_fittingCount_4, dX6_fittingCount_5, dX6_fittingCount_6, dX6_fittingCount_9, dX6_fittingCount_10, dX6_fittingCount_11, dX6_fittingCount_12, dX6_fittingCount_14, dX6_fittingCount_17, dX6_fittingCount_18, dX6_fittingCount_19, dX6_fittingCount_20, dX6_fittingCount_23, dX6_fittingCount_26, dX6_fittingCount_29, dX6_fittingCount_32, dX6_fittingCount_35, dX6_fittingCount_38, dX6_fittingCount_41, dX6_fittingCount_42, ca_X6_fittingCount_30, e_aload_n0, e_callv, e_iload_n1, e_iload_n2, e_iload_n3, e_ireturn, e_istore_n1i, e_istore_n1n, e_istore_n1r, e_istore_n2i, e_istore_n2n, e_istore_n2r, e_istore_n3i, e_istore_n3n, e_istore_n3r, j_bp_9, j_goto_32_m21, j_goto_38_m34, j_ic_0, j_ic_1, j_ic_3, j_icmp_ge_6_35, j_icmp_gt_14_21, j_if_eq_23_6, j_ii_1_1, j_ii_2_1, j_ii_3_1, q_X6_fits, ab_rn, bi_0, bi_1, ite_not]
    by_cases e : t % 10 = 9
    · rw [if_pos e] at h
      have e1 : (t + 1) / 10 = t / 10 + 1 := by omega
      have e2 : (t + 1) % 10 = 0 := by omega
      have e3 : t / 10 < 2 := by omega
      rw [e1, e2] at ih1
      rw [e]
      simp only [show (9 : Int32) < nI (9 + 1) from by decide, ↓reduceIte, nI_1]
      rw [if_pos (show nI (t / 10 + 1) < 3 from nI_lt (b := 3) (by omega) (by omega))]
      exact ih1 c h
    · rw [if_neg e] at h
      have e1 : (t + 1) / 10 = t / 10 := by omega
      have e2 : (t + 1) % 10 = t % 10 + 1 := by omega
      rw [e1, e2] at ih1
      rw [if_neg (show ¬ (9 : Int32) < nI (t % 10 + 1) from nI_nlt (a := 9) (by omega) (by omega))]
      simp only [nI_1]
      split
      · rename_i h2
        rw [if_pos h2] at h
        exact ih1 _ h
      · rename_i h2
        rw [if_neg h2] at h
        exact ih1 _ h
set_option maxRecDepth 20000 in
set_option maxHeartbeats 4000000 in
theorem c_X6_fittingCount {l : Launch} : ab_ctr l yX6_fittingCount cX6_fittingCount 4 (some .int) 2 48 s_X6_fittingCount := by
  refine ab_met x_X6_fittingCount (by decide) rfl fo_X6 ko_X6 so_X6 rfl (ab_cs_cons (ab_kV c_X6_fits ml_X6_30 v_X6_fits ⟨rfl, rfl⟩ r_X6_fits) ab_cs_nil) ?_ ?_
  · intro as M Po h
    unfold s_X6_fittingCount at h
    split at h
    · simp [ab_e0]
    · exact h.elim
  · intro as M Po h G hG
    unfold s_X6_fittingCount at h
    split at h
    · simp only [ab_en, ab_e0, List.length_cons, List.length_nil, Nat.reduceAdd, Nat.reduceSub, List.replicate, List.cons_append, List.nil_append]
      refine ab_go hG [11] 80 _ _ _ _ ?_
      simp (decide := true) only [ew_s, ew_0, Option.toList_some, Option.toList_none, List.cons_append, List.nil_append, true_and, and_true, List.length_cons, List.length_nil, Nat.reduceAdd, Nat.reduceLeDiff, Int32.reduceAdd, Int32.reduceSub, Int32.reduceMul, Int32.reduceLT, Int32.reduceLE, Int32.reduceToNatClampNeg, ↓reduceIte, and_self, si_1, si_2, sl_1, sl_2, false_and, and_false, dX6_fittingCount_0, dX6_fittingCount_1, dX6_fittingCount_2, dX6_fittingCount_3, dX6_fittingCount_4, dX6_fittingCount_5, dX6_fittingCount_6, dX6_fittingCount_9, dX6_fittingCount_10, dX6_fittingCount_11, dX6_fittingCount_12, dX6_fittingCount_14, dX6_fittingCount_17, dX6_fittingCount_18, dX6_fittingCount_19, dX6_fittingCount_20, dX6_fittingCount_23, dX6_fittingCount_26, dX6_fittingCount_29, dX6_fittingCount_32, dX6_fittingCount_35, dX6_fittingCount_38, dX6_fittingCount_41, dX6_fittingCount_42, ca_X6_fittingCount_30, e_aload_n0, e_callv, e_iload_n1, e_iload_n2, e_iload_n3, e_ireturn, e_istore_n1i, e_istore_n1n, e_istore_n1r, e_istore_n2i, e_istore_n2n, e_istore_n2r, e_istore_n3i, e_istore_n3n, e_istore_n3r, j_bp_9, j_goto_32_m21, j_goto_38_m34, j_ic_0, j_ic_1, j_ic_3, j_icmp_ge_6_35, j_icmp_gt_14_21, j_if_eq_23_6, j_ii_1_1, j_ii_2_1, j_ii_3_1, q_X6_fits, ab_rn, bi_0, bi_1, ite_not]
      exact lp_X6_fittingCount hG 29 0 0 (by omega) h
    · exact h.elim

def s_X6_firstFitting : ab_Sem := fun as M Po => match as with
  | [.ref 25] => Po (some (.int (ff_l M 29 0))) M
  | _ => False
theorem q_X6_firstFitting {M : ab_M} {Po : ab_P} : s_X6_firstFitting [.ref 25] M Po = (Po (some (.int (ff_l M 29 0))) M) := rfl
abbrev x_X6_firstFitting : ab_X := (some .int, fl_X6, [(60, 3, s_X6_fits)], kl_X6, gs_X6, ab_ros)
theorem ca_X6_firstFitting_30 {v0 v1 v2 : Value} {st : List Value} {M : ab_M} {k : List Value → ab_M → Prop} : ab_ca x_X6_firstFitting (2 * 30) (v2 :: v1 :: v0 :: st) M k = (st.length ≤ 4 ∧ s_X6_fits [v0, v1, v2] M (fun r M' => k (r.toList ++ st) M')) := rfl
theorem r_X6_firstFitting : ∀ (as : List Value) (M : ab_M) (Po : ab_P), s_X6_firstFitting as M Po → ∃ (q : Nat) (as' : List Value) (ci : Nat) (T : u_T) (N : Nat) (fs : List ab_F), as = .ref q :: as' ∧ ab_sh[q]? = some (.inl (ci, fs)) ∧ vwCl[ci]? = some (yX6_firstFitting.cls, T, N) := by
  intro as M Po h
  unfold s_X6_firstFitting at h
  split at h
  · first | exact ⟨_, _, 6, _, _, _, rfl, rfl, rfl⟩ | (rcases h.1 with rfl | rfl | rfl <;> exact ⟨_, _, 6, _, _, _, rfl, rfl, rfl⟩)
  · exact h.elim
set_option maxRecDepth 20000 in
set_option maxHeartbeats 4000000 in
theorem lp_X6_firstFitting {G : ab_K} {Po : ab_P} (hG : ab_Clo cX6_firstFitting x_X6_firstFitting Po G) {M : ab_M} : ∀ (r t : Nat), t + r = 29 → Po (some (.int (ff_l M r t))) M → G 9 [some (.ref 25), some (.int (nI (t / 10))), some (.int (nI (t % 10 + 1)))] [] M := by
  intro r
  induction r with
  | zero =>
    intro t ht h
    have e : t = 29 := by omega
    subst e
    refine ab_go1 hG [9] 80 _ _ _ _ ?_
    simp (decide := true) only [ew_s, ew_0, Option.toList_some, Option.toList_none, List.cons_append, List.nil_append, true_and, and_true, List.length_cons, List.length_nil, Nat.reduceAdd, Nat.reduceLeDiff, Int32.reduceAdd, Int32.reduceSub, Int32.reduceMul, Int32.reduceLT, Int32.reduceLE, Int32.reduceToNatClampNeg, ↓reduceIte, and_self, si_1, si_2, sl_1, sl_2, false_and, and_false, dX6_firstFitting_0, dX6_firstFitting_1, dX6_firstFitting_2, dX6_firstFitting_3, dX6_firstFitting_4, dX6_firstFitting_7, dX6_firstFitting_8, dX6_firstFitting_9, dX6_firstFitting_10, dX6_firstFitting_12, dX6_firstFitting_15, dX6_firstFitting_16, dX6_firstFitting_17, dX6_firstFitting_18, dX6_firstFitting_21, dX6_firstFitting_24, dX6_firstFitting_26, dX6_firstFitting_27, dX6_firstFitting_28, dX6_firstFitting_29, dX6_firstFitting_30, dX6_firstFitting_31, dX6_firstFitting_34, dX6_firstFitting_37, dX6_firstFitting_40, dX6_firstFitting_43, dX6_firstFitting_45, ca_X6_firstFitting_30, e_aload_n0, e_callv, e_iadd, e_iload_n1, e_iload_n2, e_imul, e_ireturn, e_istore_n1i, e_istore_n1n, e_istore_n1r, e_istore_n2i, e_istore_n2n, e_istore_n2r, j_bp_10, j_bp_9, j_bp_m9, j_goto_34_m25, j_goto_40_m38, j_ic_0, j_ic_1, j_ic_3, j_icmp_ge_4_39, j_icmp_gt_12_25, j_if_eq_21_10, j_ii_1_1, j_ii_2_1, q_X6_fits, ab_rn, bi_0, bi_1, ite_not]
    exact h
  | succ r ih =>
    intro t ht h
    unfold ff_l at h
    have ih1 := ih (t + 1) (by omega)
    refine ab_go1 hG [9] 80 _ _ _ _ ?_
    simp (decide := true) only [ew_s, ew_0, Option.toList_some, Option.toList_none, List.cons_append, List.nil_append, true_and, and_true, List.length_cons, List.length_nil, Nat.reduceAdd, Nat.reduceLeDiff, Int32.reduceAdd, Int32.reduceSub, Int32.reduceMul, Int32.reduceLT, Int32.reduceLE, Int32.reduceToNatClampNeg, ↓reduceIte, and_self, si_1, si_2, sl_1, sl_2, false_and, and_false, dX6_firstFitting_0, dX6_firstFitting_1, dX6_firstFitting_2, dX6_firstFitting_3, dX6_firstFitting_4, dX6_firstFitting_7, dX6_firstFitting_8, dX6_firstFitting_9, dX6_firstFitting_10, dX6_firstFitting_12, dX6_firstFitting_15, dX6_firstFitting_16, dX6_firstFitting_17, dX6_firstFitting_18, dX6_firstFitting_21, dX6_firstFitting_24, dX6_firstFitting_26, dX6_firstFitting_27, dX6_firstFitting_28, dX6_firstFitting_29, dX6_firstFitting_30, dX6_firstFitting_31, dX6_firstFitting_34, dX6_firstFitting_37, dX6_firstFitting_40, dX6_firstFitting_43, dX6_firstFitting_45, ca_X6_firstFitting_30, e_aload_n0, e_callv, e_iadd, e_iload_n1, e_iload_n2, e_imul, e_ireturn, e_istore_n1i, e_istore_n1n, e_istore_n1r, e_istore_n2i, e_istore_n2n, e_istore_n2r, j_bp_10, j_bp_9, j_bp_m9, j_goto_34_m25, j_goto_40_m38, j_ic_0, j_ic_1, j_ic_3, j_icmp_ge_4_39, j_icmp_gt_12_25, j_if_eq_21_10, j_ii_1_1, j_ii_2_1, q_X6_fits, ab_rn, bi_0, bi_1, ite_not]
    by_cases e : t % 10 = 9
    · rw [if_pos e] at h
      have e1 : (t + 1) / 10 = t / 10 + 1 := by omega
      have e2 : (t + 1) % 10 = 0 := by omega
      have e3 : t / 10 < 2 := by omega
      rw [e1, e2] at ih1
      rw [e]
      simp only [show (9 : Int32) < nI (9 + 1) from by decide, ↓reduceIte, nI_1]
      rw [if_pos (show nI (t / 10 + 1) < 3 from nI_lt (b := 3) (by omega) (by omega))]
      exact ih1 h
    · rw [if_neg e] at h
      have e1 : (t + 1) / 10 = t / 10 := by omega
      have e2 : (t + 1) % 10 = t % 10 + 1 := by omega
      rw [e1, e2] at ih1
      rw [if_neg (show ¬ (9 : Int32) < nI (t % 10 + 1) from nI_nlt (a := 9) (by omega) (by omega))]
      simp only [nI_1]
      split
      · rename_i h2
        rw [if_pos h2] at h
        exact ih1 h
      · rename_i h2
        rw [if_neg h2] at h
        exact h
set_option maxRecDepth 20000 in
set_option maxHeartbeats 4000000 in
theorem c_X6_firstFitting {l : Launch} : ab_ctr l yX6_firstFitting cX6_firstFitting 3 (some .int) 2 48 s_X6_firstFitting := by
  refine ab_met x_X6_firstFitting (by decide) rfl fo_X6 ko_X6 so_X6 rfl (ab_cs_cons (ab_kV c_X6_fits ml_X6_30 v_X6_fits ⟨rfl, rfl⟩ r_X6_fits) ab_cs_nil) ?_ ?_
  · intro as M Po h
    unfold s_X6_firstFitting at h
    split at h
    · simp [ab_e0]
    · exact h.elim
  · intro as M Po h G hG
    unfold s_X6_firstFitting at h
    split at h
    · simp only [ab_en, ab_e0, List.length_cons, List.length_nil, Nat.reduceAdd, Nat.reduceSub, List.replicate, List.cons_append, List.nil_append]
      refine ab_go hG [9] 80 _ _ _ _ ?_
      simp (decide := true) only [ew_s, ew_0, Option.toList_some, Option.toList_none, List.cons_append, List.nil_append, true_and, and_true, List.length_cons, List.length_nil, Nat.reduceAdd, Nat.reduceLeDiff, Int32.reduceAdd, Int32.reduceSub, Int32.reduceMul, Int32.reduceLT, Int32.reduceLE, Int32.reduceToNatClampNeg, ↓reduceIte, and_self, si_1, si_2, sl_1, sl_2, false_and, and_false, dX6_firstFitting_0, dX6_firstFitting_1, dX6_firstFitting_2, dX6_firstFitting_3, dX6_firstFitting_4, dX6_firstFitting_7, dX6_firstFitting_8, dX6_firstFitting_9, dX6_firstFitting_10, dX6_firstFitting_12, dX6_firstFitting_15, dX6_firstFitting_16, dX6_firstFitting_17, dX6_firstFitting_18, dX6_firstFitting_21, dX6_firstFitting_24, dX6_firstFitting_26, dX6_firstFitting_27, dX6_firstFitting_28, dX6_firstFitting_29, dX6_firstFitting_30, dX6_firstFitting_31, dX6_firstFitting_34, dX6_firstFitting_37, dX6_firstFitting_40, dX6_firstFitting_43, dX6_firstFitting_45, ca_X6_firstFitting_30, e_aload_n0, e_callv, e_iadd, e_iload_n1, e_iload_n2, e_imul, e_ireturn, e_istore_n1i, e_istore_n1n, e_istore_n1r, e_istore_n2i, e_istore_n2n, e_istore_n2r, j_bp_10, j_bp_9, j_bp_m9, j_goto_34_m25, j_goto_40_m38, j_ic_0, j_ic_1, j_ic_3, j_icmp_ge_4_39, j_icmp_gt_12_25, j_if_eq_21_10, j_ii_1_1, j_ii_2_1, q_X6_fits, ab_rn, bi_0, bi_1, ite_not]
      exact lp_X6_firstFitting hG 29 0 (by omega) h
    · exact h.elim

def s_X2_easeTimes : ab_Sem := fun as M Po => match as with
  | [.ref q, .int x, .int y] => (q = 12 ∨ q = 18 ∨ q = 23) ∧ Po none (mws M q ((mrs M q).1, (mrs M q).2.1, (mrs M q).2.2.1, eas_X M x y.toNatClampNeg (mrs M q).2.2.2))
  | _ => False
theorem q_X2_easeTimes {q : Nat} {x y : Int32} {M : ab_M} {Po : ab_P} : s_X2_easeTimes [.ref q, .int x, .int y] M Po = ((q = 12 ∨ q = 18 ∨ q = 23) ∧ Po none (mws M q ((mrs M q).1, (mrs M q).2.1, (mrs M q).2.2.1, eas_X M x y.toNatClampNeg (mrs M q).2.2.2))) := rfl
abbrev x_X2_easeTimes : ab_X := (none, fl_X2, [(158, 2, s_X2_ease)], kl_X2, gs_X2, ab_ros)
theorem ca_X2_easeTimes_79 {v0 v1 : Value} {st : List Value} {M : ab_M} {k : List Value → ab_M → Prop} : ab_ca x_X2_easeTimes (2 * 79) (v1 :: v0 :: st) M k = (st.length ≤ 4 ∧ s_X2_ease [v0, v1] M (fun r M' => k (r.toList ++ st) M')) := rfl
theorem r_X2_easeTimes : ∀ (as : List Value) (M : ab_M) (Po : ab_P), s_X2_easeTimes as M Po → ∃ (q : Nat) (as' : List Value) (ci : Nat) (T : u_T) (N : Nat) (fs : List ab_F), as = .ref q :: as' ∧ ab_sh[q]? = some (.inl (ci, fs)) ∧ vwCl[ci]? = some (yX2_easeTimes.cls, T, N) := by
  intro as M Po h
  unfold s_X2_easeTimes at h
  split at h
  · first | exact ⟨_, _, 2, _, _, _, rfl, rfl, rfl⟩ | (rcases h.1 with rfl | rfl | rfl <;> exact ⟨_, _, 2, _, _, _, rfl, rfl, rfl⟩)
  · exact h.elim
theorem eq_w12 {M : ab_M} {m d p x : Int32} {f : Nat → Int32} {Po : ab_P} : s_X2_ease [.ref 12, .int x] (mw M 12 m d p f) Po = Po none (mw M 12 m d p (ea_X M f x)) := by
  rw [q_X2_ease, w_o83_12, ← ea_ite]
  simp only [Nat.reduceAdd, w_rt12, w_si12]
  simp
theorem eq_w18 {M : ab_M} {m d p x : Int32} {f : Nat → Int32} {Po : ab_P} : s_X2_ease [.ref 18, .int x] (mw M 18 m d p f) Po = Po none (mw M 18 m d p (ea_X M f x)) := by
  rw [q_X2_ease, w_o83_18, ← ea_ite]
  simp only [Nat.reduceAdd, w_rt18, w_si18]
  simp
theorem eq_w23 {M : ab_M} {m d p x : Int32} {f : Nat → Int32} {Po : ab_P} : s_X2_ease [.ref 23, .int x] (mw M 23 m d p f) Po = Po none (mw M 23 m d p (ea_X M f x)) := by
  rw [q_X2_ease, w_o83_23, ← ea_ite]
  simp only [Nat.reduceAdd, w_rt23, w_si23]
  simp
set_option maxRecDepth 20000 in
set_option maxHeartbeats 4000000 in
theorem lq_X2_easeTimes {G : ab_K} {Po : ab_P} (hG : ab_Clo cX2_easeTimes x_X2_easeTimes Po G) {M : ab_M} {q : Nat} (hq : q = 12 ∨ q = 18 ∨ q = 23) {m d p x : Int32} {f : Nat → Int32} {n : Nat} (hn : n < 2 ^ 31) (h : Po none (mw M q m d p (eas_X M x n f))) : ∀ j i : Nat, i + j = n → G 2 [some (.ref q), some (.int x), some (.int (nI n)), some (.int (nI i))] [] (mw M q m d p (eas_X M x i f)) := by
  intro j
  induction j with
  | zero =>
    intro i hi
    have e : i = n := by omega
    subst e
    rcases hq with rfl | rfl | rfl
    all_goals
      refine ab_go1 hG [2] 80 _ _ _ _ ?_
      simp (decide := true) only [ew_s, ew_0, Option.toList_some, Option.toList_none, List.cons_append, List.nil_append, true_and, and_true, List.length_cons, List.length_nil, Nat.reduceAdd, Nat.reduceLeDiff, Int32.reduceAdd, Int32.reduceSub, Int32.reduceMul, Int32.reduceLT, Int32.reduceLE, Int32.reduceToNatClampNeg, ↓reduceIte, and_self, si_1, si_2, sl_1, sl_2, false_and, and_false, dX2_easeTimes_0, dX2_easeTimes_1, dX2_easeTimes_2, dX2_easeTimes_3, dX2_easeTimes_4, dX2_easeTimes_7, dX2_easeTimes_8, dX2_easeTimes_9, dX2_easeTimes_12, dX2_easeTimes_15, dX2_easeTimes_18, ca_X2_easeTimes_79, e_aload_n0, e_callv, e_iload_n1, e_iload_n2, e_iload_n3, e_istore_n3i, e_istore_n3n, e_istore_n3r, e_return, j_goto_15_m13, j_ic_0, j_icmp_ge_4_14, j_ii_3_1, ab_rn, bi_0, bi_1, ite_not]
      rw [if_neg (nI_nlt (Nat.le_refl i) hn)]
      exact h
  | succ j ih =>
    intro i hi
    have ih1 := ih (i + 1) (by omega)
    rcases hq with rfl | rfl | rfl
    all_goals
      refine ab_go1 hG [2] 80 _ _ _ _ ?_
      simp (decide := true) only [ew_s, ew_0, Option.toList_some, Option.toList_none, List.cons_append, List.nil_append, true_and, and_true, List.length_cons, List.length_nil, Nat.reduceAdd, Nat.reduceLeDiff, Int32.reduceAdd, Int32.reduceSub, Int32.reduceMul, Int32.reduceLT, Int32.reduceLE, Int32.reduceToNatClampNeg, ↓reduceIte, and_self, si_1, si_2, sl_1, sl_2, false_and, and_false, dX2_easeTimes_0, dX2_easeTimes_1, dX2_easeTimes_2, dX2_easeTimes_3, dX2_easeTimes_4, dX2_easeTimes_7, dX2_easeTimes_8, dX2_easeTimes_9, dX2_easeTimes_12, dX2_easeTimes_15, dX2_easeTimes_18, ca_X2_easeTimes_79, e_aload_n0, e_callv, e_iload_n1, e_iload_n2, e_iload_n3, e_istore_n3i, e_istore_n3n, e_istore_n3r, e_return, j_goto_15_m13, j_ic_0, j_icmp_ge_4_14, j_ii_3_1, eq_w12, eq_w18, eq_w23, ab_rn, bi_0, bi_1, ite_not]
      rw [if_pos (nI_lt (by omega) hn), nI_1]
      exact ih1
set_option maxRecDepth 20000 in
set_option maxHeartbeats 4000000 in
theorem c_X2_easeTimes {l : Launch} : ab_ctr l yX2_easeTimes cX2_easeTimes 4 none 2 42 s_X2_easeTimes := by
  refine ab_met x_X2_easeTimes (by decide) rfl fo_X2 ko_X2 so_X2 rfl (ab_cs_cons (ab_kV c_X2_ease ml_X2_79 v_X2_ease ⟨rfl, rfl⟩ r_X2_ease) ab_cs_nil) ?_ ?_
  · intro as M Po h
    unfold s_X2_easeTimes at h
    split at h
    · simp [ab_e0]
    · exact h.elim
  · intro as M Po h G hG
    unfold s_X2_easeTimes at h
    split at h
    · simp only [ab_en, ab_e0, List.length_cons, List.length_nil, Nat.reduceAdd, Nat.reduceSub, List.replicate, List.cons_append, List.nil_append]
      rename_i q x y
      obtain ⟨hq, h⟩ := h
      simp only [mws, mrs] at h
      by_cases ht : y < 0
      · rw [tn_neg ht, eas_X, mw_id] at h
        have hx : ¬ 0 < y := fun h2 => by have h3 := Int32.lt_iff_toInt_lt.mp h2; have h4 := Int32.lt_iff_toInt_lt.mp ht; omega
        rcases hq with rfl | rfl | rfl
        all_goals
          refine ab_go hG [] 8 _ _ _ _ ?_
          simp (decide := true) only [ew_n, ew_0, Option.toList_some, Option.toList_none, List.cons_append, List.nil_append, true_and, and_true, List.length_cons, List.length_nil, Nat.reduceAdd, Nat.reduceLeDiff, Int32.reduceAdd, Int32.reduceSub, Int32.reduceMul, Int32.reduceLT, Int32.reduceLE, Int32.reduceToNatClampNeg, ↓reduceIte, and_self, si_1, si_2, sl_1, sl_2, false_and, and_false, dX2_easeTimes_0, dX2_easeTimes_1, dX2_easeTimes_2, dX2_easeTimes_3, dX2_easeTimes_4, dX2_easeTimes_7, dX2_easeTimes_8, dX2_easeTimes_9, dX2_easeTimes_12, dX2_easeTimes_15, dX2_easeTimes_18, ca_X2_easeTimes_79, e_aload_n0, e_callv, e_iload_n1, e_iload_n2, e_iload_n3, e_istore_n3i, e_istore_n3n, e_istore_n3r, e_return, j_goto_15_m13, j_ic_0, j_icmp_ge_4_14, j_ii_3_1, ab_rn, bi_0, bi_1, ite_not]
          rw [if_neg hx]
          exact h
      · obtain ⟨n, hn, rfl⟩ := nI_of ht
        rw [nI_clamp hn] at h
        have key := lq_X2_easeTimes hG hq hn h n 0 (by omega)
        rw [eas_X, mw_id] at key
        rcases hq with rfl | rfl | rfl
        all_goals
          refine ab_go hG [2] 8 _ _ _ _ ?_
          simp (decide := true) only [ew_s, ew_0, Option.toList_some, Option.toList_none, List.cons_append, List.nil_append, true_and, and_true, List.length_cons, List.length_nil, Nat.reduceAdd, Nat.reduceLeDiff, Int32.reduceAdd, Int32.reduceSub, Int32.reduceMul, Int32.reduceLT, Int32.reduceLE, Int32.reduceToNatClampNeg, ↓reduceIte, and_self, si_1, si_2, sl_1, sl_2, false_and, and_false, dX2_easeTimes_0, dX2_easeTimes_1, dX2_easeTimes_2, dX2_easeTimes_3, dX2_easeTimes_4, dX2_easeTimes_7, dX2_easeTimes_8, dX2_easeTimes_9, dX2_easeTimes_12, dX2_easeTimes_15, dX2_easeTimes_18, ca_X2_easeTimes_79, e_aload_n0, e_callv, e_iload_n1, e_iload_n2, e_iload_n3, e_istore_n3i, e_istore_n3n, e_istore_n3r, e_return, j_goto_15_m13, j_ic_0, j_icmp_ge_4_14, j_ii_3_1, ab_rn, bi_0, bi_1, ite_not]
          exact key
    · exact h.elim

def us_X (x y : Int32) : Int32 := (x.toUInt32 >>> (y.toUInt32 &&& Int32.toUInt32 31)).toInt32
def bc_1 (x : Int32) : Int32 := x - (us_X x 1 &&& 1431655765)
def bc_2 (x : Int32) : Int32 := (x &&& 858993459) + (us_X x 2 &&& 858993459)
def bc_3 (x : Int32) : Int32 := (x + us_X x 4) &&& 252645135
def bc_4 (x : Int32) : Int32 := x + us_X x 8
def bc_5 (x : Int32) : Int32 := x + us_X x 16
def bc_X (x : Int32) : Int32 := bc_5 (bc_4 (bc_3 (bc_2 (bc_1 x)))) &&& 63
def s_J6_bitCount_0f7a4 : ab_Sem := fun as M Po => match as with
  | [.int x] => Po (some (.int (bc_X x))) M
  | _ => False
theorem q_J6_bitCount_0f7a4 {x : Int32} {M : ab_M} {Po : ab_P} : s_J6_bitCount_0f7a4 [.int x] M Po = (Po (some (.int (bc_X x))) M) := rfl
abbrev x_J6_bitCount_0f7a4 : ab_X := (some .int, fl_J6, [], kl_J6, gs_J6, ab_ros)
set_option maxRecDepth 20000 in
set_option maxHeartbeats 4000000 in
theorem c_J6_bitCount_0f7a4 {l : Launch} : ab_ctr l yJ6_bitCount_0f7a4 cJ6_bitCount_0f7a4 1 (some .int) 0 0 s_J6_bitCount_0f7a4 := by
  refine ab_met x_J6_bitCount_0f7a4 (by decide) rfl fo_J6 ko_J6 so_J6 rfl ab_cs_nil ?_ ?_
  · intro as M Po h
    unfold s_J6_bitCount_0f7a4 at h
    split at h
    · simp [ab_e0]
    · exact h.elim
  · intro as M Po h G hG
    unfold s_J6_bitCount_0f7a4 at h
    split at h
    · refine ab_go hG [] 60 _ _ _ _ ?_
      simp only [ab_en, ab_e0, List.length_cons, List.length_nil, Nat.reduceAdd, Nat.reduceSub, List.replicate, List.cons_append, List.nil_append]
      simp (decide := true) only [ew_n, ew_0, Option.toList_some, Option.toList_none, List.cons_append, List.nil_append, true_and, and_true, List.length_cons, List.length_nil, Nat.reduceAdd, Nat.reduceLeDiff, Int32.reduceAdd, Int32.reduceSub, Int32.reduceMul, Int32.reduceLT, Int32.reduceLE, Int32.reduceToNatClampNeg, ↓reduceIte, and_self, si_1, si_2, sl_1, sl_2, false_and, and_false, dJ6_bitCount_0f7a4_0, dJ6_bitCount_0f7a4_1, dJ6_bitCount_0f7a4_2, dJ6_bitCount_0f7a4_3, dJ6_bitCount_0f7a4_4, dJ6_bitCount_0f7a4_7, dJ6_bitCount_0f7a4_8, dJ6_bitCount_0f7a4_9, dJ6_bitCount_0f7a4_10, dJ6_bitCount_0f7a4_11, dJ6_bitCount_0f7a4_14, dJ6_bitCount_0f7a4_15, dJ6_bitCount_0f7a4_16, dJ6_bitCount_0f7a4_17, dJ6_bitCount_0f7a4_18, dJ6_bitCount_0f7a4_21, dJ6_bitCount_0f7a4_22, dJ6_bitCount_0f7a4_23, dJ6_bitCount_0f7a4_24, dJ6_bitCount_0f7a4_25, dJ6_bitCount_0f7a4_26, dJ6_bitCount_0f7a4_27, dJ6_bitCount_0f7a4_28, dJ6_bitCount_0f7a4_29, dJ6_bitCount_0f7a4_32, dJ6_bitCount_0f7a4_33, dJ6_bitCount_0f7a4_34, dJ6_bitCount_0f7a4_35, dJ6_bitCount_0f7a4_36, dJ6_bitCount_0f7a4_38, dJ6_bitCount_0f7a4_39, dJ6_bitCount_0f7a4_40, dJ6_bitCount_0f7a4_41, dJ6_bitCount_0f7a4_42, dJ6_bitCount_0f7a4_43, dJ6_bitCount_0f7a4_45, dJ6_bitCount_0f7a4_46, dJ6_bitCount_0f7a4_47, dJ6_bitCount_0f7a4_48, dJ6_bitCount_0f7a4_49, dJ6_bitCount_0f7a4_51, dJ6_bitCount_0f7a4_52, e_iadd, e_iand, e_iload_n0, e_ireturn, e_istore_n0, e_isub, e_iushr, e_kl_J6_100265, e_kl_J6_100266, e_kl_J6_100267, j_bp_16, j_bp_63, j_bp_8, j_ic_1, j_ic_2, j_ic_4, ab_rn, bi_0, bi_1, ite_not]
      simp only [bc_X, bc_5, bc_4, bc_3, bc_2, bc_1, us_X] at h
      exact h
    · exact h.elim

