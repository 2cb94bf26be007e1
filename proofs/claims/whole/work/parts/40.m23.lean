/-! METHODS: the model, a day -/
/-- where a stretch begins -/
def bg_M (M : ab_M) : Nat → Int32
  | 0 => 0
  | k + 1 => bg_M M k + M.1 32 k
theorem c_8 {i : Nat} (h : i < 8) : (nI i).toNatClampNeg = i ∧ (0 ≤ nI i ∧ nI i < 8) := by
  have key : ∀ i, i < 8 → (nI i).toNatClampNeg = i ∧ (0 ≤ nI i ∧ nI i < 8) := by decide
  exact key i h
def s_X9_begins : ab_Sem := fun as M Po => match as with
  | [.ref 30, .int x] => ∃ n : Nat, n ≤ 8 ∧ x = nI n ∧ Po (some (.int (bg_M M n))) M
  | _ => False
theorem q_X9_begins {x : Int32} {M : ab_M} {Po : ab_P} : s_X9_begins [.ref 30, .int x] M Po = (∃ n : Nat, n ≤ 8 ∧ x = nI n ∧ Po (some (.int (bg_M M n))) M) := rfl
abbrev x_X9_begins : ab_X := (some .int, fl_X9, [], kl_X9, gs_X9, ab_ros)
theorem r_X9_begins : ∀ (as : List Value) (M : ab_M) (Po : ab_P), s_X9_begins as M Po → ∃ (q : Nat) (as' : List Value) (ci : Nat) (T : u_T) (N : Nat) (fs : List ab_F), as = .ref q :: as' ∧ ab_sh[q]? = some (.inl (ci, fs)) ∧ vwCl[ci]? = some (yX9_begins.cls, T, N) := by
  intro as M Po h
  unfold s_X9_begins at h
  split at h
  · first | exact ⟨_, _, 9, _, _, _, rfl, rfl, rfl⟩ | (rcases h.1 with rfl | rfl | rfl <;> exact ⟨_, _, 9, _, _, _, rfl, rfl, rfl⟩)
  · exact h.elim
set_option maxRecDepth 20000 in
set_option maxHeartbeats 4000000 in
theorem lq_X9_begins {G : ab_K} {Po : ab_P} (hG : ab_Clo cX9_begins x_X9_begins Po G) {M : ab_M} {n : Nat} (hn : n ≤ 8) (h : Po (some (.int (bg_M M n))) M) : ∀ (j i : Nat), i + j = n → G 4 [some (.ref 30), some (.int (nI n)), some (.int (bg_M M i)), some (.int (nI i))] [] M := by
  intro j
  induction j with
  | zero =>
    intro i hi
    have e : i = n := by omega
    subst e
    refine ab_go1 hG [4] 80 _ _ _ _ ?_
    simp (decide := true) only [ew_s, ew_0, Option.toList_some, Option.toList_none, List.cons_append, List.nil_append, true_and, and_true, List.length_cons, List.length_nil, Nat.reduceAdd, Nat.reduceLeDiff, Int32.reduceAdd, Int32.reduceSub, Int32.reduceMul, Int32.reduceLT, Int32.reduceLE, Int32.reduceToNatClampNeg, ↓reduceIte, and_self, si_1, si_2, sl_1, sl_2, false_and, and_false, dX9_begins_0, dX9_begins_1, dX9_begins_2, dX9_begins_3, dX9_begins_4, dX9_begins_5, dX9_begins_6, dX9_begins_9, dX9_begins_10, dX9_begins_11, dX9_begins_14, dX9_begins_15, dX9_begins_16, dX9_begins_17, dX9_begins_18, dX9_begins_21, dX9_begins_24, dX9_begins_25, e_aload_n0, e_getfield, e_iadd, e_iaload, e_iload_n1, e_iload_n2, e_iload_n3, e_ireturn, e_istore_n2i, e_istore_n2n, e_istore_n2r, e_istore_n3i, e_istore_n3n, e_istore_n3r, ea_32, gf_X9_13_30, j_goto_21_m17, j_ic_0, j_icmp_ge_6_18, j_ii_3_1, ab_rn, bi_0, bi_1, ite_not]
    rw [if_neg (nI_nlt (Nat.le_refl i) (by omega))]
    exact h
  | succ j ih =>
    intro i hi
    obtain ⟨e1, e2⟩ := c_8 (i := i) (by omega)
    refine ab_go1 hG [4] 80 _ _ _ _ ?_
    simp (decide := true) only [ew_s, ew_0, Option.toList_some, Option.toList_none, List.cons_append, List.nil_append, true_and, and_true, List.length_cons, List.length_nil, Nat.reduceAdd, Nat.reduceLeDiff, Int32.reduceAdd, Int32.reduceSub, Int32.reduceMul, Int32.reduceLT, Int32.reduceLE, Int32.reduceToNatClampNeg, ↓reduceIte, and_self, si_1, si_2, sl_1, sl_2, false_and, and_false, dX9_begins_0, dX9_begins_1, dX9_begins_2, dX9_begins_3, dX9_begins_4, dX9_begins_5, dX9_begins_6, dX9_begins_9, dX9_begins_10, dX9_begins_11, dX9_begins_14, dX9_begins_15, dX9_begins_16, dX9_begins_17, dX9_begins_18, dX9_begins_21, dX9_begins_24, dX9_begins_25, e_aload_n0, e_getfield, e_iadd, e_iaload, e_iload_n1, e_iload_n2, e_iload_n3, e_ireturn, e_istore_n2i, e_istore_n2n, e_istore_n2r, e_istore_n3i, e_istore_n3n, e_istore_n3r, ea_32, gf_X9_13_30, j_goto_21_m17, j_ic_0, j_icmp_ge_6_18, j_ii_3_1, e1, ab_rn, bi_0, bi_1, ite_not]
    rw [if_pos (nI_lt (by omega) (by omega)), nI_1]
    exact ⟨e2, ih (i + 1) (by omega)⟩
set_option maxRecDepth 20000 in
set_option maxHeartbeats 4000000 in
theorem c_X9_begins {l : Launch} : ab_ctr l yX9_begins cX9_begins 4 (some .int) 0 0 s_X9_begins := by
  refine ab_met x_X9_begins (by decide) rfl fo_X9 ko_X9 so_X9 rfl ab_cs_nil ?_ ?_
  · intro as M Po h
    unfold s_X9_begins at h
    split at h
    · simp [ab_e0]
    · exact h.elim
  · intro as M Po h G hG
    unfold s_X9_begins at h
    split at h
    · simp only [ab_en, ab_e0, List.length_cons, List.length_nil, Nat.reduceAdd, Nat.reduceSub, List.replicate, List.cons_append, List.nil_append]
      obtain ⟨n, hn, rfl, h⟩ := h
      have key := lq_X9_begins hG hn h n 0 (by omega)
      refine ab_go hG [4] 80 _ _ _ _ ?_
      simp (decide := true) only [ew_s, ew_0, Option.toList_some, Option.toList_none, List.cons_append, List.nil_append, true_and, and_true, List.length_cons, List.length_nil, Nat.reduceAdd, Nat.reduceLeDiff, Int32.reduceAdd, Int32.reduceSub, Int32.reduceMul, Int32.reduceLT, Int32.reduceLE, Int32.reduceToNatClampNeg, ↓reduceIte, and_self, si_1, si_2, sl_1, sl_2, false_and, and_false, dX9_begins_0, dX9_begins_1, dX9_begins_2, dX9_begins_3, dX9_begins_4, dX9_begins_5, dX9_begins_6, dX9_begins_9, dX9_begins_10, dX9_begins_11, dX9_begins_14, dX9_begins_15, dX9_begins_16, dX9_begins_17, dX9_begins_18, dX9_begins_21, dX9_begins_24, dX9_begins_25, e_aload_n0, e_getfield, e_iadd, e_iaload, e_iload_n1, e_iload_n2, e_iload_n3, e_ireturn, e_istore_n2i, e_istore_n2n, e_istore_n2r, e_istore_n3i, e_istore_n3n, e_istore_n3r, ea_32, gf_X9_13_30, j_goto_21_m17, j_ic_0, j_icmp_ge_6_18, j_ii_3_1, ab_rn, bi_0, bi_1, ite_not]
      exact key
    · exact h.elim

/-- the stretch in which a mile is -/
def sa_1 (M : ab_M) (x : Int32) (i : Nat) (f : Int32) : Int32 := if ¬ x < bg_M M i ∧ x < bg_M M i + M.1 32 i then nI i else f
def sa_l (M : ab_M) (x : Int32) : Nat → Nat → Int32 → Int32
  | 0, _, f => f
  | n + 1, i, f => sa_l M x n (i + 1) (sa_1 M x i f)
def s_X9_stretchAt : ab_Sem := fun as M Po => match as with
  | [.ref 30, .int x] => ∃ n : Nat, n ≤ 8 ∧ M.1 30 4 = nI n ∧ Po (some (.int (sa_l M x n 0 (-9)))) M
  | _ => False
theorem q_X9_stretchAt {x : Int32} {M : ab_M} {Po : ab_P} : s_X9_stretchAt [.ref 30, .int x] M Po = (∃ n : Nat, n ≤ 8 ∧ M.1 30 4 = nI n ∧ Po (some (.int (sa_l M x n 0 (-9)))) M) := rfl
abbrev x_X9_stretchAt : ab_X := (some .int, fl_X9, [(258, 2, s_X9_begins)], kl_X9, gs_X9, ab_ros)
theorem ca_X9_stretchAt_129 {v0 v1 : Value} {st : List Value} {M : ab_M} {k : List Value → ab_M → Prop} : ab_ca x_X9_stretchAt (2 * 129) (v1 :: v0 :: st) M k = (st.length ≤ 4 ∧ s_X9_begins [v0, v1] M (fun r M' => k (r.toList ++ st) M')) := rfl
theorem r_X9_stretchAt : ∀ (as : List Value) (M : ab_M) (Po : ab_P), s_X9_stretchAt as M Po → ∃ (q : Nat) (as' : List Value) (ci : Nat) (T : u_T) (N : Nat) (fs : List ab_F), as = .ref q :: as' ∧ ab_sh[q]? = some (.inl (ci, fs)) ∧ vwCl[ci]? = some (yX9_stretchAt.cls, T, N) := by
  intro as M Po h
  unfold s_X9_stretchAt at h
  split at h
  · first | exact ⟨_, _, 9, _, _, _, rfl, rfl, rfl⟩ | (rcases h.1 with rfl | rfl | rfl <;> exact ⟨_, _, 9, _, _, _, rfl, rfl, rfl⟩)
  · exact h.elim
set_option maxRecDepth 20000 in
set_option maxHeartbeats 4000000 in
theorem lq_X9_stretchAt {G : ab_K} {Po : ab_P} (hG : ab_Clo cX9_stretchAt x_X9_stretchAt Po G) {M : ab_M} {n : Nat} {x : Int32} (hn : n ≤ 8) (hs : M.1 30 4 = nI n) : ∀ (j i : Nat) (f : Int32), i + j = n → Po (some (.int (sa_l M x j i f))) M → G 5 [some (.ref 30), some (.int x), some (.int f), some (.int (nI i))] [] M := by
  intro j
  induction j with
  | zero =>
    intro i f hi h
    have e : i = n := by omega
    subst e
    unfold sa_l at h
    refine ab_go1 hG [5] 80 _ _ _ _ ?_
    simp (decide := true) only [ew_s, ew_0, Option.toList_some, Option.toList_none, List.cons_append, List.nil_append, true_and, and_true, List.length_cons, List.length_nil, Nat.reduceAdd, Nat.reduceLeDiff, Int32.reduceAdd, Int32.reduceSub, Int32.reduceMul, Int32.reduceLT, Int32.reduceLE, Int32.reduceToNatClampNeg, ↓reduceIte, and_self, si_1, si_2, sl_1, sl_2, false_and, and_false, dX9_stretchAt_0, dX9_stretchAt_2, dX9_stretchAt_3, dX9_stretchAt_4, dX9_stretchAt_5, dX9_stretchAt_6, dX9_stretchAt_7, dX9_stretchAt_10, dX9_stretchAt_13, dX9_stretchAt_14, dX9_stretchAt_15, dX9_stretchAt_16, dX9_stretchAt_19, dX9_stretchAt_22, dX9_stretchAt_23, dX9_stretchAt_24, dX9_stretchAt_25, dX9_stretchAt_28, dX9_stretchAt_29, dX9_stretchAt_32, dX9_stretchAt_33, dX9_stretchAt_34, dX9_stretchAt_35, dX9_stretchAt_38, dX9_stretchAt_39, dX9_stretchAt_42, dX9_stretchAt_43, dX9_stretchAt_44, dX9_stretchAt_47, dX9_stretchAt_50, dX9_stretchAt_51, ca_X9_stretchAt_129, e_aload_n0, e_callv, e_getfield, e_iadd, e_iaload, e_iload_n1, e_iload_n2, e_iload_n3, e_ireturn, e_istore_n2i, e_istore_n2n, e_istore_n2r, e_istore_n3i, e_istore_n3n, e_istore_n3r, ea_32, gf_X9_108_30, gf_X9_13_30, j_bp_m9, j_goto_39_4, j_goto_47_m42, j_ic_0, j_icmp_ge_10_40, j_icmp_ge_35_7, j_icmp_lt_19_23, j_ii_3_1, q_X9_begins, hs, ab_rn, bi_0, bi_1, ite_not]
    rw [if_neg (nI_nlt (Nat.le_refl i) (by omega))]
    exact h
  | succ j ih =>
    intro i f hi h
    unfold sa_l at h
    obtain ⟨e1, e2⟩ := c_8 (i := i) (by omega)
    have ih1 := ih (i + 1) (sa_1 M x i f) (by omega) h
    unfold sa_1 at ih1
    refine ab_go1 hG [5] 80 _ _ _ _ ?_
    simp (decide := true) only [ew_s, ew_0, Option.toList_some, Option.toList_none, List.cons_append, List.nil_append, true_and, and_true, List.length_cons, List.length_nil, Nat.reduceAdd, Nat.reduceLeDiff, Int32.reduceAdd, Int32.reduceSub, Int32.reduceMul, Int32.reduceLT, Int32.reduceLE, Int32.reduceToNatClampNeg, ↓reduceIte, and_self, si_1, si_2, sl_1, sl_2, false_and, and_false, dX9_stretchAt_0, dX9_stretchAt_2, dX9_stretchAt_3, dX9_stretchAt_4, dX9_stretchAt_5, dX9_stretchAt_6, dX9_stretchAt_7, dX9_stretchAt_10, dX9_stretchAt_13, dX9_stretchAt_14, dX9_stretchAt_15, dX9_stretchAt_16, dX9_stretchAt_19, dX9_stretchAt_22, dX9_stretchAt_23, dX9_stretchAt_24, dX9_stretchAt_25, dX9_stretchAt_28, dX9_stretchAt_29, dX9_stretchAt_32, dX9_stretchAt_33, dX9_stretchAt_34, dX9_stretchAt_35, dX9_stretchAt_38, dX9_stretchAt_39, dX9_stretchAt_42, dX9_stretchAt_43, dX9_stretchAt_44, dX9_stretchAt_47, dX9_stretchAt_50, dX9_stretchAt_51, ca_X9_stretchAt_129, e_aload_n0, e_callv, e_getfield, e_iadd, e_iaload, e_iload_n1, e_iload_n2, e_iload_n3, e_ireturn, e_istore_n2i, e_istore_n2n, e_istore_n2r, e_istore_n3i, e_istore_n3n, e_istore_n3r, ea_32, gf_X9_108_30, gf_X9_13_30, j_bp_m9, j_goto_39_4, j_goto_47_m42, j_ic_0, j_icmp_ge_10_40, j_icmp_ge_35_7, j_icmp_lt_19_23, j_ii_3_1, q_X9_begins, hs, e1, ab_rn, bi_0, bi_1, ite_not]
    rw [if_pos (nI_lt (by omega) (by omega)), nI_1]
    refine ⟨i, by omega, rfl, ?_⟩
    split
    · rename_i h2
      rw [if_neg (fun hh => hh.1 h2)] at ih1
      exact ih1
    · rename_i h2
      refine ⟨i, by omega, rfl, e2, ?_⟩
      split
      · rename_i h3
        rw [if_pos ⟨h2, h3⟩] at ih1
        exact ih1
      · rename_i h3
        rw [if_neg (fun hh => h3 hh.2)] at ih1
        exact ih1
set_option maxRecDepth 20000 in
set_option maxHeartbeats 4000000 in
theorem c_X9_stretchAt {l : Launch} : ab_ctr l yX9_stretchAt cX9_stretchAt 4 (some .int) 1 23 s_X9_stretchAt := by
  refine ab_met x_X9_stretchAt (by decide) rfl fo_X9 ko_X9 so_X9 rfl (ab_cs_cons (ab_kV c_X9_begins ml_X9_129 v_X9_begins ⟨rfl, rfl⟩ r_X9_begins) ab_cs_nil) ?_ ?_
  · intro as M Po h
    unfold s_X9_stretchAt at h
    split at h
    · simp [ab_e0]
    · exact h.elim
  · intro as M Po h G hG
    unfold s_X9_stretchAt at h
    split at h
    · simp only [ab_en, ab_e0, List.length_cons, List.length_nil, Nat.reduceAdd, Nat.reduceSub, List.replicate, List.cons_append, List.nil_append]
      obtain ⟨n, hn, hs, h⟩ := h
      have key := lq_X9_stretchAt hG hn hs n 0 _ (by omega) h
      refine ab_go hG [5] 80 _ _ _ _ ?_
      simp (decide := true) only [ew_s, ew_0, Option.toList_some, Option.toList_none, List.cons_append, List.nil_append, true_and, and_true, List.length_cons, List.length_nil, Nat.reduceAdd, Nat.reduceLeDiff, Int32.reduceAdd, Int32.reduceSub, Int32.reduceMul, Int32.reduceLT, Int32.reduceLE, Int32.reduceToNatClampNeg, ↓reduceIte, and_self, si_1, si_2, sl_1, sl_2, false_and, and_false, dX9_stretchAt_0, dX9_stretchAt_2, dX9_stretchAt_3, dX9_stretchAt_4, dX9_stretchAt_5, dX9_stretchAt_6, dX9_stretchAt_7, dX9_stretchAt_10, dX9_stretchAt_13, dX9_stretchAt_14, dX9_stretchAt_15, dX9_stretchAt_16, dX9_stretchAt_19, dX9_stretchAt_22, dX9_stretchAt_23, dX9_stretchAt_24, dX9_stretchAt_25, dX9_stretchAt_28, dX9_stretchAt_29, dX9_stretchAt_32, dX9_stretchAt_33, dX9_stretchAt_34, dX9_stretchAt_35, dX9_stretchAt_38, dX9_stretchAt_39, dX9_stretchAt_42, dX9_stretchAt_43, dX9_stretchAt_44, dX9_stretchAt_47, dX9_stretchAt_50, dX9_stretchAt_51, ca_X9_stretchAt_129, e_aload_n0, e_callv, e_getfield, e_iadd, e_iaload, e_iload_n1, e_iload_n2, e_iload_n3, e_ireturn, e_istore_n2i, e_istore_n2n, e_istore_n2r, e_istore_n3i, e_istore_n3n, e_istore_n3r, ea_32, gf_X9_108_30, gf_X9_13_30, j_bp_m9, j_goto_39_4, j_goto_47_m42, j_ic_0, j_icmp_ge_10_40, j_icmp_ge_35_7, j_icmp_lt_19_23, j_ii_3_1, q_X9_begins, ab_rn, bi_0, bi_1, ite_not]
      exact key
    · exact h.elim

/-- every man but the old ones has a thorn less, as far as the k-th -/
def hk_M (M : ab_M) (P : Nat → Int32) : Nat → (Nat → Int32)
  | 0 => P
  | k + 1 => up_f (hk_M M P k) (2 + k) (P (2 + k) - (if ¬ M.1 35 k = 3 ∧ 0 < P (2 + k) then 1 else 0))
theorem hk_at (M : ab_M) (P : Nat → Int32) : ∀ (k i : Nat), k ≤ i → hk_M M P k (2 + i) = P (2 + i)
  | 0, _, _ => rfl
  | k + 1, i, h => by
    have e : ¬ 2 + i = 2 + k := by omega
    simp only [hk_M, up_f, if_neg e]
    exact hk_at M P k i (by omega)
def s_X9_heal : ab_Sem := fun as M Po => match as with
  | [.ref 30, .ref p] => (p = 38 ∨ p = 39 ∨ p = 40) ∧ ∃ n : Nat, n ≤ 5 ∧ M.1 30 7 = nI n ∧ Po none (wt M p (hk_M M (M.1 p) n))
  | _ => False
theorem q_X9_heal {p : Nat} {M : ab_M} {Po : ab_P} : s_X9_heal [.ref 30, .ref p] M Po = ((p = 38 ∨ p = 39 ∨ p = 40) ∧ ∃ n : Nat, n ≤ 5 ∧ M.1 30 7 = nI n ∧ Po none (wt M p (hk_M M (M.1 p) n))) := rfl
abbrev x_X9_heal : ab_X := (none, fl_X9, [], kl_X9, gs_X9, ab_ros)
theorem r_X9_heal : ∀ (as : List Value) (M : ab_M) (Po : ab_P), s_X9_heal as M Po → ∃ (q : Nat) (as' : List Value) (ci : Nat) (T : u_T) (N : Nat) (fs : List ab_F), as = .ref q :: as' ∧ ab_sh[q]? = some (.inl (ci, fs)) ∧ vwCl[ci]? = some (yX9_heal.cls, T, N) := by
  intro as M Po h
  unfold s_X9_heal at h
  split at h
  · first | exact ⟨_, _, 9, _, _, _, rfl, rfl, rfl⟩ | (rcases h.1 with rfl | rfl | rfl <;> exact ⟨_, _, 9, _, _, _, rfl, rfl, rfl⟩)
  · exact h.elim
theorem h35_38 {M : ab_M} {g : Nat → Int32} {b : Nat} : (wt M 38 g).1 35 b = M.1 35 b := rfl
theorem h30_38 {M : ab_M} {g : Nat → Int32} {b : Nat} : (wt M 38 g).1 30 b = M.1 30 b := rfl
theorem hpp_38 {M : ab_M} {g : Nat → Int32} {b : Nat} : (wt M 38 g).1 38 b = g b := rfl
theorem h35_39 {M : ab_M} {g : Nat → Int32} {b : Nat} : (wt M 39 g).1 35 b = M.1 35 b := rfl
theorem h30_39 {M : ab_M} {g : Nat → Int32} {b : Nat} : (wt M 39 g).1 30 b = M.1 30 b := rfl
theorem hpp_39 {M : ab_M} {g : Nat → Int32} {b : Nat} : (wt M 39 g).1 39 b = g b := rfl
theorem h35_40 {M : ab_M} {g : Nat → Int32} {b : Nat} : (wt M 40 g).1 35 b = M.1 35 b := rfl
theorem h30_40 {M : ab_M} {g : Nat → Int32} {b : Nat} : (wt M 40 g).1 30 b = M.1 30 b := rfl
theorem hpp_40 {M : ab_M} {g : Nat → Int32} {b : Nat} : (wt M 40 g).1 40 b = g b := rfl
set_option maxRecDepth 20000 in
set_option maxHeartbeats 4000000 in
theorem lq_X9_heal {G : ab_K} {Po : ab_P} (hG : ab_Clo cX9_heal x_X9_heal Po G) {M : ab_M} {p n : Nat} (hp : p = 38 ∨ p = 39 ∨ p = 40) (hn : n ≤ 5) (hm : M.1 30 7 = nI n) (h : Po none (wt M p (hk_M M (M.1 p) n))) : ∀ (j i : Nat), i + j = n → G 2 [some (.ref 30), some (.ref p), some (.int (nI i))] [] (wt M p (hk_M M (M.1 p) i)) := by
  intro j
  induction j with
  | zero =>
    intro i hi
    have e : i = n := by omega
    subst e
    rcases hp with rfl | rfl | rfl
    all_goals
      refine ab_go1 hG [2] 80 _ _ _ _ ?_
      simp (decide := true) only [ew_s, ew_0, Option.toList_some, Option.toList_none, List.cons_append, List.nil_append, true_and, and_true, List.length_cons, List.length_nil, Nat.reduceAdd, Nat.reduceLeDiff, Int32.reduceAdd, Int32.reduceSub, Int32.reduceMul, Int32.reduceLT, Int32.reduceLE, Int32.reduceToNatClampNeg, ↓reduceIte, and_self, si_1, si_2, sl_1, sl_2, false_and, and_false, dX9_heal_0, dX9_heal_1, dX9_heal_2, dX9_heal_3, dX9_heal_4, dX9_heal_7, dX9_heal_10, dX9_heal_11, dX9_heal_12, dX9_heal_13, dX9_heal_14, dX9_heal_15, dX9_heal_16, dX9_heal_17, dX9_heal_20, dX9_heal_21, dX9_heal_22, dX9_heal_23, dX9_heal_26, dX9_heal_27, dX9_heal_28, dX9_heal_29, dX9_heal_30, dX9_heal_31, dX9_heal_34, dX9_heal_35, dX9_heal_38, dX9_heal_39, dX9_heal_40, dX9_heal_41, dX9_heal_44, dX9_heal_47, e_aload_n0, e_aload_n1, e_dup2, e_getfield, e_iadd, e_iaload, e_iastore, e_iload_n2, e_istore_n2i, e_istore_n2n, e_istore_n2r, e_isub, e_return, ea_35, ea_38, ea_39, ea_40, es_35, es_38, es_39, es_40, gf_X9_22_30, gf_X9_69_30, j_goto_35_4, j_goto_44_m42, j_ic_0, j_ic_1, j_ic_2, j_ic_3, j_icmp_eq_23_15, j_icmp_ge_7_40, j_if_le_31_7, j_ii_2_1, h35_38, h30_38, hpp_38, h35_39, h30_39, hpp_39, h35_40, h30_40, hpp_40, hm, ab_rn, bi_0, bi_1, ite_not]
      rw [if_neg (nI_nlt (Nat.le_refl i) (by omega))]
      exact h
  | succ j ih =>
    intro i hi
    obtain ⟨e1, e2, e3, e4⟩ := c_2i (i := i) (by omega)
    have ih1 := ih (i + 1) (by omega)
    simp only [hk_M] at ih1
    have hat := hk_at M (M.1 p) i i (Nat.le_refl i)
    rcases hp with rfl | rfl | rfl
    all_goals
      refine ab_go1 hG [2] 80 _ _ _ _ ?_
      simp (decide := true) only [ew_s, ew_0, Option.toList_some, Option.toList_none, List.cons_append, List.nil_append, true_and, and_true, List.length_cons, List.length_nil, Nat.reduceAdd, Nat.reduceLeDiff, Int32.reduceAdd, Int32.reduceSub, Int32.reduceMul, Int32.reduceLT, Int32.reduceLE, Int32.reduceToNatClampNeg, ↓reduceIte, and_self, si_1, si_2, sl_1, sl_2, false_and, and_false, dX9_heal_0, dX9_heal_1, dX9_heal_2, dX9_heal_3, dX9_heal_4, dX9_heal_7, dX9_heal_10, dX9_heal_11, dX9_heal_12, dX9_heal_13, dX9_heal_14, dX9_heal_15, dX9_heal_16, dX9_heal_17, dX9_heal_20, dX9_heal_21, dX9_heal_22, dX9_heal_23, dX9_heal_26, dX9_heal_27, dX9_heal_28, dX9_heal_29, dX9_heal_30, dX9_heal_31, dX9_heal_34, dX9_heal_35, dX9_heal_38, dX9_heal_39, dX9_heal_40, dX9_heal_41, dX9_heal_44, dX9_heal_47, e_aload_n0, e_aload_n1, e_dup2, e_getfield, e_iadd, e_iaload, e_iastore, e_iload_n2, e_istore_n2i, e_istore_n2n, e_istore_n2r, e_isub, e_return, ea_35, ea_38, ea_39, ea_40, es_35, es_38, es_39, es_40, gf_X9_22_30, gf_X9_69_30, j_goto_35_4, j_goto_44_m42, j_ic_0, j_ic_1, j_ic_2, j_ic_3, j_icmp_eq_23_15, j_icmp_ge_7_40, j_if_le_31_7, j_ii_2_1, h35_38, h30_38, hpp_38, h35_39, h30_39, hpp_39, h35_40, h30_40, hpp_40, hm, e1, e3, hat, wt_s, ab_rn, bi_0, bi_1, ite_not]
      rw [if_pos (nI_lt (by omega) (by omega)), nI_1]
      refine ⟨e2, e4, ?_⟩
      split
      · rename_i h2
        rw [if_neg (fun hh => hh.1 h2)] at ih1
        exact ⟨e2, ih1⟩
      · rename_i h2
        refine ⟨e2, ?_⟩
        split
        · rename_i h3
          rw [if_pos ⟨h2, h3⟩] at ih1
          exact ⟨e2, ih1⟩
        · rename_i h3
          rw [if_neg (fun hh => h3 hh.2)] at ih1
          exact ⟨e2, ih1⟩
set_option maxRecDepth 20000 in
set_option maxHeartbeats 4000000 in
theorem c_X9_heal {l : Launch} : ab_ctr l yX9_heal cX9_heal 3 none 0 0 s_X9_heal := by
  refine ab_met x_X9_heal (by decide) rfl fo_X9 ko_X9 so_X9 rfl ab_cs_nil ?_ ?_
  · intro as M Po h
    unfold s_X9_heal at h
    split at h
    · simp [ab_e0]
    · exact h.elim
  · intro as M Po h G hG
    unfold s_X9_heal at h
    split at h
    · simp only [ab_en, ab_e0, List.length_cons, List.length_nil, Nat.reduceAdd, Nat.reduceSub, List.replicate, List.cons_append, List.nil_append]
      obtain ⟨hp, n, hn, hm, h⟩ := h
      have key := lq_X9_heal hG hp hn hm h n 0 (by omega)
      rw [hk_M, wt_id] at key
      rcases hp with rfl | rfl | rfl
      all_goals
        refine ab_go hG [2] 80 _ _ _ _ ?_
        simp (decide := true) only [ew_s, ew_0, Option.toList_some, Option.toList_none, List.cons_append, List.nil_append, true_and, and_true, List.length_cons, List.length_nil, Nat.reduceAdd, Nat.reduceLeDiff, Int32.reduceAdd, Int32.reduceSub, Int32.reduceMul, Int32.reduceLT, Int32.reduceLE, Int32.reduceToNatClampNeg, ↓reduceIte, and_self, si_1, si_2, sl_1, sl_2, false_and, and_false, dX9_heal_0, dX9_heal_1, dX9_heal_2, dX9_heal_3, dX9_heal_4, dX9_heal_7, dX9_heal_10, dX9_heal_11, dX9_heal_12, dX9_heal_13, dX9_heal_14, dX9_heal_15, dX9_heal_16, dX9_heal_17, dX9_heal_20, dX9_heal_21, dX9_heal_22, dX9_heal_23, dX9_heal_26, dX9_heal_27, dX9_heal_28, dX9_heal_29, dX9_heal_30, dX9_heal_31, dX9_heal_34, dX9_heal_35, dX9_heal_38, dX9_heal_39, dX9_heal_40, dX9_heal_41, dX9_heal_44, dX9_heal_47, e_aload_n0, e_aload_n1, e_dup2, e_getfield, e_iadd, e_iaload, e_iastore, e_iload_n2, e_istore_n2i, e_istore_n2n, e_istore_n2r, e_isub, e_return, ea_35, ea_38, ea_39, ea_40, es_35, es_38, es_39, es_40, gf_X9_22_30, gf_X9_69_30, j_goto_35_4, j_goto_44_m42, j_ic_0, j_ic_1, j_ic_2, j_ic_3, j_icmp_eq_23_15, j_icmp_ge_7_40, j_if_le_31_7, j_ii_2_1, ab_rn, bi_0, bi_1, ite_not]
        exact key
    · exact h.elim

