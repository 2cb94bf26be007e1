/-! METHODS: the model, tried, kept, cure, plan -/
def s_X9_unattempt : ab_Sem := fun as M Po => match as with
  | [.ref 30] => Po (some (.int (M.1 30 22))) (ab_si (t0 M) 30 22 0)
  | _ => False
theorem q_X9_unattempt {M : ab_M} {Po : ab_P} : s_X9_unattempt [.ref 30] M Po = (Po (some (.int (M.1 30 22))) (ab_si (t0 M) 30 22 0)) := rfl
abbrev x_X9_unattempt : ab_X := (some .int, fl_X9, [], kl_X9, gs_X9, ab_ros)
theorem r_X9_unattempt : ∀ (as : List Value) (M : ab_M) (Po : ab_P), s_X9_unattempt as M Po → ∃ (q : Nat) (as' : List Value) (ci : Nat) (T : u_T) (N : Nat) (fs : List ab_F), as = .ref q :: as' ∧ ab_sh[q]? = some (.inl (ci, fs)) ∧ vwCl[ci]? = some (yX9_unattempt.cls, T, N) := by
  intro as M Po h
  unfold s_X9_unattempt at h
  split at h
  · first | exact ⟨_, _, 9, _, _, _, rfl, rfl, rfl⟩ | (rcases h.1 with rfl | rfl | rfl <;> exact ⟨_, _, 9, _, _, _, rfl, rfl, rfl⟩)
  · exact h.elim
set_option maxRecDepth 20000 in
set_option maxHeartbeats 4000000 in
theorem c_X9_unattempt {l : Launch} : ab_ctr l yX9_unattempt cX9_unattempt 2 (some .int) 0 0 s_X9_unattempt := by
  refine ab_met x_X9_unattempt (by decide) rfl fo_X9 ko_X9 so_X9 rfl ab_cs_nil ?_ ?_
  · intro as M Po h
    unfold s_X9_unattempt at h
    split at h
    · simp [ab_e0]
    · exact h.elim
  · intro as M Po h G hG
    unfold s_X9_unattempt at h
    split at h
    · refine ab_go hG [] 60 _ _ _ _ ?_
      simp only [ab_en, ab_e0, List.length_cons, List.length_nil, Nat.reduceAdd, Nat.reduceSub, List.replicate, List.cons_append, List.nil_append]
      simp (decide := true) only [ew_n, ew_0, Option.toList_some, Option.toList_none, List.cons_append, List.nil_append, true_and, and_true, List.length_cons, List.length_nil, Nat.reduceAdd, Nat.reduceLeDiff, Int32.reduceAdd, Int32.reduceSub, Int32.reduceMul, Int32.reduceLT, Int32.reduceLE, Int32.reduceToNatClampNeg, ↓reduceIte, and_self, si_1, si_2, sl_1, sl_2, false_and, and_false, dX9_unattempt_0, dX9_unattempt_1, dX9_unattempt_2, dX9_unattempt_5, dX9_unattempt_6, dX9_unattempt_9, dX9_unattempt_10, dX9_unattempt_11, dX9_unattempt_12, dX9_unattempt_15, dX9_unattempt_16, e_aload_n0, e_getfield, e_iload_n1, e_ireturn, e_istore_n1i, e_istore_n1n, e_istore_n1r, e_putfield, gf_X9_151_30, j_ic_0, pf_X9_151_30, pf_X9_65_30, t0_r, t0_l, t0_38f, t0_39f, t0_40f, t0_sm, t0_lm, t0_sa, t0_bg, t0_hk, t0_30_2, t0_30_3, t0_30_4, t0_30_7, t0_30_10, t0_30_11, t0_30_13, t0_30_19, t0_30_22, t0_30_26, t0_30_27, t0_30_28, t0_30_29, t0_30_30, t0_30_31, t0_30_32, t0_30_35, t0_31, t0_32, t0_33, t0_34, t0_35, t0_36, t0_37, t0_38, t0_39, t0_40, t0_41, t0_42, t0_43, t0_44, t0_45, t0_46, t0_47, t0_48, ab_rn, bi_0, bi_1, ite_not]
      (repeat' split) <;> (try simp (decide := true) only [i0_le, *, not_false_eq_true, not_true_eq_false, and_self, true_and, and_true, or_false, false_or, or_true, true_or, false_and, and_false, not_and, ↓reduceIte] at h) <;> (try simp (decide := true) only [i0_le, *, not_false_eq_true, not_true_eq_false, and_self, true_and, and_true, or_false, false_or, or_true, true_or, false_and, and_false, not_and, ↓reduceIte]) <;> first | done | exact h | (exfalso; simp_all (decide := true) only [not_true_eq_false, not_false_eq_true, false_and, and_false, true_and, and_true]; done)
    · exact h.elim

def s_X9_seed : ab_Sem := fun as M Po => match as with
  | [.ref 30, .long u] => Po (some (.long (M.2 30 26))) (ab_sl (t0 M) 30 26 u)
  | _ => False
theorem q_X9_seed {u : Int64} {M : ab_M} {Po : ab_P} : s_X9_seed [.ref 30, .long u] M Po = (Po (some (.long (M.2 30 26))) (ab_sl (t0 M) 30 26 u)) := rfl
abbrev x_X9_seed : ab_X := (some .long, fl_X9, [], kl_X9, gs_X9, ab_ros)
theorem r_X9_seed : ∀ (as : List Value) (M : ab_M) (Po : ab_P), s_X9_seed as M Po → ∃ (q : Nat) (as' : List Value) (ci : Nat) (T : u_T) (N : Nat) (fs : List ab_F), as = .ref q :: as' ∧ ab_sh[q]? = some (.inl (ci, fs)) ∧ vwCl[ci]? = some (yX9_seed.cls, T, N) := by
  intro as M Po h
  unfold s_X9_seed at h
  split at h
  · first | exact ⟨_, _, 9, _, _, _, rfl, rfl, rfl⟩ | (rcases h.1 with rfl | rfl | rfl <;> exact ⟨_, _, 9, _, _, _, rfl, rfl, rfl⟩)
  · exact h.elim
set_option maxRecDepth 20000 in
set_option maxHeartbeats 4000000 in
theorem c_X9_seed {l : Launch} : ab_ctr l yX9_seed cX9_seed 5 (some .long) 0 0 s_X9_seed := by
  refine ab_met x_X9_seed (by decide) rfl fo_X9 ko_X9 so_X9 rfl ab_cs_nil ?_ ?_
  · intro as M Po h
    unfold s_X9_seed at h
    split at h
    · simp [ab_e0]
    · exact h.elim
  · intro as M Po h G hG
    unfold s_X9_seed at h
    split at h
    · simp only [ab_en, ab_e0, List.length_cons, List.length_nil, Nat.reduceAdd, Nat.reduceSub, List.replicate, List.cons_append, List.nil_append]
      refine ab_go hG [] 80 _ _ _ _ ?_
      simp (decide := true) only [ew_n, ew_0, Option.toList_some, Option.toList_none, List.cons_append, List.nil_append, true_and, and_true, List.length_cons, List.length_nil, Nat.reduceAdd, Nat.reduceLeDiff, Int32.reduceAdd, Int32.reduceSub, Int32.reduceMul, Int32.reduceLT, Int32.reduceLE, Int32.reduceToNatClampNeg, ↓reduceIte, and_self, si_1, si_2, sl_1, sl_2, false_and, and_false, dX9_seed_0, dX9_seed_1, dX9_seed_2, dX9_seed_5, dX9_seed_6, dX9_seed_9, dX9_seed_10, dX9_seed_11, dX9_seed_12, dX9_seed_15, dX9_seed_16, e_aload_n0, e_getfield, e_lload_n1, e_lload_n3, e_lreturn, e_lstore3ii, e_lstore3il, e_lstore3in, e_lstore3ir, e_lstore3ni, e_lstore3nl, e_lstore3nn, e_lstore3nr, e_lstore3ri, e_lstore3rl, e_lstore3rn, e_lstore3rr, e_putfield, gf_X9_248_30, j_ic_0, pf_X9_248_30, pf_X9_65_30, t0_r, t0_l, t0_38f, t0_39f, t0_40f, t0_sm, t0_lm, t0_sa, t0_bg, t0_hk, t0_30_2, t0_30_3, t0_30_4, t0_30_7, t0_30_10, t0_30_11, t0_30_13, t0_30_19, t0_30_22, t0_30_26, t0_30_27, t0_30_28, t0_30_29, t0_30_30, t0_30_31, t0_30_32, t0_30_35, t0_31, t0_32, t0_33, t0_34, t0_35, t0_36, t0_37, t0_38, t0_39, t0_40, t0_41, t0_42, t0_43, t0_44, t0_45, t0_46, t0_47, t0_48, ab_rn, bi_0, bi_1, ite_not]
      exact h
    · exact h.elim

def s_X9_attempt : ab_Sem := fun as M Po => match as with
  | [.ref 30, .int x, .int v, .int y] => ∃ t : Nat, t ≤ 6 ∧ M.1 30 22 = nI t ∧ (if ¬ x < 0 ∧ ¬ 3 < x then (if ¬ v < 1 ∧ ¬ 9 < v then (if ¬ y < 0 ∧ ¬ 1 < y then (if t = 6 then Po (some (.int (-4))) (t0 M) else Po (some (.int (nI (t + 1)))) (ab_si (ab_si (ab_si (ab_si (t0 M) 44 t x) 45 t v) 46 t y) 30 22 (nI (t + 1)))) else Po (some (.int (-2))) (t0 M)) else Po (some (.int (-2))) (t0 M)) else Po (some (.int (-2))) (t0 M))
  | _ => False
theorem q_X9_attempt {x v y : Int32} {M : ab_M} {Po : ab_P} : s_X9_attempt [.ref 30, .int x, .int v, .int y] M Po = (∃ t : Nat, t ≤ 6 ∧ M.1 30 22 = nI t ∧ (if ¬ x < 0 ∧ ¬ 3 < x then (if ¬ v < 1 ∧ ¬ 9 < v then (if ¬ y < 0 ∧ ¬ 1 < y then (if t = 6 then Po (some (.int (-4))) (t0 M) else Po (some (.int (nI (t + 1)))) (ab_si (ab_si (ab_si (ab_si (t0 M) 44 t x) 45 t v) 46 t y) 30 22 (nI (t + 1)))) else Po (some (.int (-2))) (t0 M)) else Po (some (.int (-2))) (t0 M)) else Po (some (.int (-2))) (t0 M))) := rfl
abbrev x_X9_attempt : ab_X := (some .int, fl_X9, [(145, 3, s_X9_in)], kl_X9, gs_X9, ab_ros)
theorem ca_X9_attempt_72 {v0 v1 v2 : Value} {st : List Value} {M : ab_M} {k : List Value → ab_M → Prop} : ab_ca x_X9_attempt (2 * 72 + 1) (v2 :: v1 :: v0 :: st) M k = (st.length ≤ 4 ∧ s_X9_in [v0, v1, v2] M (fun r M' => k (r.toList ++ st) M')) := rfl
theorem r_X9_attempt : ∀ (as : List Value) (M : ab_M) (Po : ab_P), s_X9_attempt as M Po → ∃ (q : Nat) (as' : List Value) (ci : Nat) (T : u_T) (N : Nat) (fs : List ab_F), as = .ref q :: as' ∧ ab_sh[q]? = some (.inl (ci, fs)) ∧ vwCl[ci]? = some (yX9_attempt.cls, T, N) := by
  intro as M Po h
  unfold s_X9_attempt at h
  split at h
  · first | exact ⟨_, _, 9, _, _, _, rfl, rfl, rfl⟩ | (rcases h.1 with rfl | rfl | rfl <;> exact ⟨_, _, 9, _, _, _, rfl, rfl, rfl⟩)
  · exact h.elim
theorem at_1 {M : ab_M} {t : Nat} {x : Int32} : (ab_si M 44 t x).1 30 22 = M.1 30 22 := rfl
theorem at_2 {M : ab_M} {t : Nat} {x : Int32} : (ab_si M 45 t x).1 30 22 = M.1 30 22 := rfl
theorem at_3 {M : ab_M} {t : Nat} {x : Int32} : (ab_si M 46 t x).1 30 22 = M.1 30 22 := rfl
theorem at_4 {M : ab_M} {x : Int32} : (ab_si M 30 22 x).1 30 22 = x := rfl
set_option maxRecDepth 20000 in
set_option maxHeartbeats 4000000 in
theorem c_X9_attempt {l : Launch} : ab_ctr l yX9_attempt cX9_attempt 4 (some .int) 1 25 s_X9_attempt := by
  refine ab_met x_X9_attempt (by decide) rfl fo_X9 ko_X9 so_X9 rfl (ab_cs_cons (ab_kS c_X9_in ml_X9_72 v_X9_in ⟨rfl, rfl⟩) ab_cs_nil) ?_ ?_
  · intro as M Po h
    unfold s_X9_attempt at h
    split at h
    · simp [ab_e0]
    · exact h.elim
  · intro as M Po h G hG
    unfold s_X9_attempt at h
    split at h
    · simp only [ab_en, ab_e0, List.length_cons, List.length_nil, Nat.reduceAdd, Nat.reduceSub, List.replicate, List.cons_append, List.nil_append]
      rename_i x v y
      obtain ⟨t, ht, hm, h⟩ := h
      by_cases h1 : ¬ x < 0 ∧ ¬ 3 < x
      · rw [if_pos h1] at h
        by_cases h2 : ¬ v < 1 ∧ ¬ 9 < v
        · rw [if_pos h2] at h
          by_cases h3 : ¬ y < 0 ∧ ¬ 1 < y
          · rw [if_pos h3] at h
            by_cases h4 : t = 6
            · rw [if_pos h4] at h
              subst h4
              have h6 : nI 6 = 6 := rfl
              refine ab_go hG [] 80 _ _ _ _ ?_
              simp (decide := true) only [ew_n, ew_0, Option.toList_some, Option.toList_none, List.cons_append, List.nil_append, true_and, and_true, List.length_cons, List.length_nil, Nat.reduceAdd, Nat.reduceLeDiff, Int32.reduceAdd, Int32.reduceSub, Int32.reduceMul, Int32.reduceLT, Int32.reduceLE, Int32.reduceToNatClampNeg, ↓reduceIte, and_self, si_1, si_2, sl_1, sl_2, false_and, and_false, dX9_attempt_0, dX9_attempt_1, dX9_attempt_2, dX9_attempt_5, dX9_attempt_6, dX9_attempt_7, dX9_attempt_8, dX9_attempt_11, dX9_attempt_14, dX9_attempt_17, dX9_attempt_18, dX9_attempt_19, dX9_attempt_20, dX9_attempt_23, dX9_attempt_26, dX9_attempt_29, dX9_attempt_30, dX9_attempt_31, dX9_attempt_32, dX9_attempt_33, dX9_attempt_36, dX9_attempt_39, dX9_attempt_41, dX9_attempt_42, dX9_attempt_43, dX9_attempt_46, dX9_attempt_48, dX9_attempt_51, dX9_attempt_53, dX9_attempt_54, dX9_attempt_55, dX9_attempt_58, dX9_attempt_59, dX9_attempt_62, dX9_attempt_63, dX9_attempt_64, dX9_attempt_65, dX9_attempt_68, dX9_attempt_69, dX9_attempt_72, dX9_attempt_73, dX9_attempt_74, dX9_attempt_75, dX9_attempt_78, dX9_attempt_79, dX9_attempt_82, dX9_attempt_83, dX9_attempt_84, dX9_attempt_85, dX9_attempt_86, dX9_attempt_89, dX9_attempt_90, dX9_attempt_91, dX9_attempt_94, dX9_attempt_95, dX9_attempt_98, ca_X9_attempt_72, e_aload_n0, e_calls, e_dupi, e_dupr, e_getfield, e_i2l, e_iadd, e_iastore, e_iload_n1, e_iload_n2, e_iload_n3, e_ireturn, e_kl_X9_230, e_kl_X9_232, e_lconst0, e_lconst1, e_putfield, es_44, es_45, es_46, gf_X9_151_30, gf_X9_50_30, gf_X9_53_30, gf_X9_56_30, j_bp_6, j_bp_m2, j_bp_m4, j_ic_0, j_ic_1, j_icmp_ne_48_6, j_if_eq_14_25, j_if_eq_26_13, j_if_ne_36_6, pf_X9_151_30, pf_X9_65_30, q_X9_in, wi_0, wi_lt, wi_g255, wi_g40, wi_g20, wi_g4, wi_g3, wi_g9, wi_g10, wi_g30, wi_g1, wi_l255, wi_l40, wi_l20, wi_l4, wi_l3, wi_l9, wi_l10, wi_l30, wi_l1, t0_r, t0_l, t0_38f, t0_39f, t0_40f, t0_sm, t0_lm, t0_sa, t0_bg, t0_hk, t0_30_2, t0_30_3, t0_30_4, t0_30_7, t0_30_10, t0_30_11, t0_30_13, t0_30_19, t0_30_22, t0_30_26, t0_30_27, t0_30_28, t0_30_29, t0_30_30, t0_30_31, t0_30_32, t0_30_35, t0_31, t0_32, t0_33, t0_34, t0_35, t0_36, t0_37, t0_38, t0_39, t0_40, t0_41, t0_42, t0_43, t0_44, t0_45, t0_46, t0_47, t0_48, hm, h6, ab_rn, bi_0, bi_1, ite_not]
              rw [if_pos h1, if_pos h2, if_pos h3]
              exact h
            · rw [if_neg h4] at h
              have hne : ¬ nI t = 6 := by
                rw [show (6 : Int32) = nI 6 from rfl, nI_eqz (by omega) (by omega)]
                exact h4
              obtain ⟨e1, e2⟩ := cI (i := t) (b := 6) (by omega) (by omega)
              refine ab_go hG [] 80 _ _ _ _ ?_
              simp (decide := true) only [ew_n, ew_0, Option.toList_some, Option.toList_none, List.cons_append, List.nil_append, true_and, and_true, List.length_cons, List.length_nil, Nat.reduceAdd, Nat.reduceLeDiff, Int32.reduceAdd, Int32.reduceSub, Int32.reduceMul, Int32.reduceLT, Int32.reduceLE, Int32.reduceToNatClampNeg, ↓reduceIte, and_self, si_1, si_2, sl_1, sl_2, false_and, and_false, dX9_attempt_0, dX9_attempt_1, dX9_attempt_2, dX9_attempt_5, dX9_attempt_6, dX9_attempt_7, dX9_attempt_8, dX9_attempt_11, dX9_attempt_14, dX9_attempt_17, dX9_attempt_18, dX9_attempt_19, dX9_attempt_20, dX9_attempt_23, dX9_attempt_26, dX9_attempt_29, dX9_attempt_30, dX9_attempt_31, dX9_attempt_32, dX9_attempt_33, dX9_attempt_36, dX9_attempt_39, dX9_attempt_41, dX9_attempt_42, dX9_attempt_43, dX9_attempt_46, dX9_attempt_48, dX9_attempt_51, dX9_attempt_53, dX9_attempt_54, dX9_attempt_55, dX9_attempt_58, dX9_attempt_59, dX9_attempt_62, dX9_attempt_63, dX9_attempt_64, dX9_attempt_65, dX9_attempt_68, dX9_attempt_69, dX9_attempt_72, dX9_attempt_73, dX9_attempt_74, dX9_attempt_75, dX9_attempt_78, dX9_attempt_79, dX9_attempt_82, dX9_attempt_83, dX9_attempt_84, dX9_attempt_85, dX9_attempt_86, dX9_attempt_89, dX9_attempt_90, dX9_attempt_91, dX9_attempt_94, dX9_attempt_95, dX9_attempt_98, ca_X9_attempt_72, e_aload_n0, e_calls, e_dupi, e_dupr, e_getfield, e_i2l, e_iadd, e_iastore, e_iload_n1, e_iload_n2, e_iload_n3, e_ireturn, e_kl_X9_230, e_kl_X9_232, e_lconst0, e_lconst1, e_putfield, es_44, es_45, es_46, gf_X9_151_30, gf_X9_50_30, gf_X9_53_30, gf_X9_56_30, j_bp_6, j_bp_m2, j_bp_m4, j_ic_0, j_ic_1, j_icmp_ne_48_6, j_if_eq_14_25, j_if_eq_26_13, j_if_ne_36_6, pf_X9_151_30, pf_X9_65_30, q_X9_in, wi_0, wi_lt, wi_g255, wi_g40, wi_g20, wi_g4, wi_g3, wi_g9, wi_g10, wi_g30, wi_g1, wi_l255, wi_l40, wi_l20, wi_l4, wi_l3, wi_l9, wi_l10, wi_l30, wi_l1, t0_r, t0_l, t0_38f, t0_39f, t0_40f, t0_sm, t0_lm, t0_sa, t0_bg, t0_hk, t0_30_2, t0_30_3, t0_30_4, t0_30_7, t0_30_10, t0_30_11, t0_30_13, t0_30_19, t0_30_22, t0_30_26, t0_30_27, t0_30_28, t0_30_29, t0_30_30, t0_30_31, t0_30_32, t0_30_35, t0_31, t0_32, t0_33, t0_34, t0_35, t0_36, t0_37, t0_38, t0_39, t0_40, t0_41, t0_42, t0_43, t0_44, t0_45, t0_46, t0_47, t0_48, hm, hne, e1, at_1, at_2, at_3, at_4, nI_1, ab_rn, bi_0, bi_1, ite_not]
              rw [if_pos h1, if_pos h2, if_pos h3]
              exact ⟨e2, e2, e2, h⟩
          · rw [if_neg h3] at h
            refine ab_go hG [] 80 _ _ _ _ ?_
            simp (decide := true) only [ew_n, ew_0, Option.toList_some, Option.toList_none, List.cons_append, List.nil_append, true_and, and_true, List.length_cons, List.length_nil, Nat.reduceAdd, Nat.reduceLeDiff, Int32.reduceAdd, Int32.reduceSub, Int32.reduceMul, Int32.reduceLT, Int32.reduceLE, Int32.reduceToNatClampNeg, ↓reduceIte, and_self, si_1, si_2, sl_1, sl_2, false_and, and_false, dX9_attempt_0, dX9_attempt_1, dX9_attempt_2, dX9_attempt_5, dX9_attempt_6, dX9_attempt_7, dX9_attempt_8, dX9_attempt_11, dX9_attempt_14, dX9_attempt_17, dX9_attempt_18, dX9_attempt_19, dX9_attempt_20, dX9_attempt_23, dX9_attempt_26, dX9_attempt_29, dX9_attempt_30, dX9_attempt_31, dX9_attempt_32, dX9_attempt_33, dX9_attempt_36, dX9_attempt_39, dX9_attempt_41, dX9_attempt_42, dX9_attempt_43, dX9_attempt_46, dX9_attempt_48, dX9_attempt_51, dX9_attempt_53, dX9_attempt_54, dX9_attempt_55, dX9_attempt_58, dX9_attempt_59, dX9_attempt_62, dX9_attempt_63, dX9_attempt_64, dX9_attempt_65, dX9_attempt_68, dX9_attempt_69, dX9_attempt_72, dX9_attempt_73, dX9_attempt_74, dX9_attempt_75, dX9_attempt_78, dX9_attempt_79, dX9_attempt_82, dX9_attempt_83, dX9_attempt_84, dX9_attempt_85, dX9_attempt_86, dX9_attempt_89, dX9_attempt_90, dX9_attempt_91, dX9_attempt_94, dX9_attempt_95, dX9_attempt_98, ca_X9_attempt_72, e_aload_n0, e_calls, e_dupi, e_dupr, e_getfield, e_i2l, e_iadd, e_iastore, e_iload_n1, e_iload_n2, e_iload_n3, e_ireturn, e_kl_X9_230, e_kl_X9_232, e_lconst0, e_lconst1, e_putfield, es_44, es_45, es_46, gf_X9_151_30, gf_X9_50_30, gf_X9_53_30, gf_X9_56_30, j_bp_6, j_bp_m2, j_bp_m4, j_ic_0, j_ic_1, j_icmp_ne_48_6, j_if_eq_14_25, j_if_eq_26_13, j_if_ne_36_6, pf_X9_151_30, pf_X9_65_30, q_X9_in, wi_0, wi_lt, wi_g255, wi_g40, wi_g20, wi_g4, wi_g3, wi_g9, wi_g10, wi_g30, wi_g1, wi_l255, wi_l40, wi_l20, wi_l4, wi_l3, wi_l9, wi_l10, wi_l30, wi_l1, t0_r, t0_l, t0_38f, t0_39f, t0_40f, t0_sm, t0_lm, t0_sa, t0_bg, t0_hk, t0_30_2, t0_30_3, t0_30_4, t0_30_7, t0_30_10, t0_30_11, t0_30_13, t0_30_19, t0_30_22, t0_30_26, t0_30_27, t0_30_28, t0_30_29, t0_30_30, t0_30_31, t0_30_32, t0_30_35, t0_31, t0_32, t0_33, t0_34, t0_35, t0_36, t0_37, t0_38, t0_39, t0_40, t0_41, t0_42, t0_43, t0_44, t0_45, t0_46, t0_47, t0_48, hm, ab_rn, bi_0, bi_1, ite_not]
            rw [if_pos h1, if_pos h2, if_neg h3]
            exact h
        · rw [if_neg h2] at h
          refine ab_go hG [] 80 _ _ _ _ ?_
          simp (decide := true) only [ew_n, ew_0, Option.toList_some, Option.toList_none, List.cons_append, List.nil_append, true_and, and_true, List.length_cons, List.length_nil, Nat.reduceAdd, Nat.reduceLeDiff, Int32.reduceAdd, Int32.reduceSub, Int32.reduceMul, Int32.reduceLT, Int32.reduceLE, Int32.reduceToNatClampNeg, ↓reduceIte, and_self, si_1, si_2, sl_1, sl_2, false_and, and_false, dX9_attempt_0, dX9_attempt_1, dX9_attempt_2, dX9_attempt_5, dX9_attempt_6, dX9_attempt_7, dX9_attempt_8, dX9_attempt_11, dX9_attempt_14, dX9_attempt_17, dX9_attempt_18, dX9_attempt_19, dX9_attempt_20, dX9_attempt_23, dX9_attempt_26, dX9_attempt_29, dX9_attempt_30, dX9_attempt_31, dX9_attempt_32, dX9_attempt_33, dX9_attempt_36, dX9_attempt_39, dX9_attempt_41, dX9_attempt_42, dX9_attempt_43, dX9_attempt_46, dX9_attempt_48, dX9_attempt_51, dX9_attempt_53, dX9_attempt_54, dX9_attempt_55, dX9_attempt_58, dX9_attempt_59, dX9_attempt_62, dX9_attempt_63, dX9_attempt_64, dX9_attempt_65, dX9_attempt_68, dX9_attempt_69, dX9_attempt_72, dX9_attempt_73, dX9_attempt_74, dX9_attempt_75, dX9_attempt_78, dX9_attempt_79, dX9_attempt_82, dX9_attempt_83, dX9_attempt_84, dX9_attempt_85, dX9_attempt_86, dX9_attempt_89, dX9_attempt_90, dX9_attempt_91, dX9_attempt_94, dX9_attempt_95, dX9_attempt_98, ca_X9_attempt_72, e_aload_n0, e_calls, e_dupi, e_dupr, e_getfield, e_i2l, e_iadd, e_iastore, e_iload_n1, e_iload_n2, e_iload_n3, e_ireturn, e_kl_X9_230, e_kl_X9_232, e_lconst0, e_lconst1, e_putfield, es_44, es_45, es_46, gf_X9_151_30, gf_X9_50_30, gf_X9_53_30, gf_X9_56_30, j_bp_6, j_bp_m2, j_bp_m4, j_ic_0, j_ic_1, j_icmp_ne_48_6, j_if_eq_14_25, j_if_eq_26_13, j_if_ne_36_6, pf_X9_151_30, pf_X9_65_30, q_X9_in, wi_0, wi_lt, wi_g255, wi_g40, wi_g20, wi_g4, wi_g3, wi_g9, wi_g10, wi_g30, wi_g1, wi_l255, wi_l40, wi_l20, wi_l4, wi_l3, wi_l9, wi_l10, wi_l30, wi_l1, t0_r, t0_l, t0_38f, t0_39f, t0_40f, t0_sm, t0_lm, t0_sa, t0_bg, t0_hk, t0_30_2, t0_30_3, t0_30_4, t0_30_7, t0_30_10, t0_30_11, t0_30_13, t0_30_19, t0_30_22, t0_30_26, t0_30_27, t0_30_28, t0_30_29, t0_30_30, t0_30_31, t0_30_32, t0_30_35, t0_31, t0_32, t0_33, t0_34, t0_35, t0_36, t0_37, t0_38, t0_39, t0_40, t0_41, t0_42, t0_43, t0_44, t0_45, t0_46, t0_47, t0_48, hm, ab_rn, bi_0, bi_1, ite_not]
          rw [if_pos h1, if_neg h2]
          exact h
      · rw [if_neg h1] at h
        refine ab_go hG [] 80 _ _ _ _ ?_
        simp (decide := true) only [ew_n, ew_0, Option.toList_some, Option.toList_none, List.cons_append, List.nil_append, true_and, and_true, List.length_cons, List.length_nil, Nat.reduceAdd, Nat.reduceLeDiff, Int32.reduceAdd, Int32.reduceSub, Int32.reduceMul, Int32.reduceLT, Int32.reduceLE, Int32.reduceToNatClampNeg, ↓reduceIte, and_self, si_1, si_2, sl_1, sl_2, false_and, and_false, dX9_attempt_0, dX9_attempt_1, dX9_attempt_2, dX9_attempt_5, dX9_attempt_6, dX9_attempt_7, dX9_attempt_8, dX9_attempt_11, dX9_attempt_14, dX9_attempt_17, dX9_attempt_18, dX9_attempt_19, dX9_attempt_20, dX9_attempt_23, dX9_attempt_26, dX9_attempt_29, dX9_attempt_30, dX9_attempt_31, dX9_attempt_32, dX9_attempt_33, dX9_attempt_36, dX9_attempt_39, dX9_attempt_41, dX9_attempt_42, dX9_attempt_43, dX9_attempt_46, dX9_attempt_48, dX9_attempt_51, dX9_attempt_53, dX9_attempt_54, dX9_attempt_55, dX9_attempt_58, dX9_attempt_59, dX9_attempt_62, dX9_attempt_63, dX9_attempt_64, dX9_attempt_65, dX9_attempt_68, dX9_attempt_69, dX9_attempt_72, dX9_attempt_73, dX9_attempt_74, dX9_attempt_75, dX9_attempt_78, dX9_attempt_79, dX9_attempt_82, dX9_attempt_83, dX9_attempt_84, dX9_attempt_85, dX9_attempt_86, dX9_attempt_89, dX9_attempt_90, dX9_attempt_91, dX9_attempt_94, dX9_attempt_95, dX9_attempt_98, ca_X9_attempt_72, e_aload_n0, e_calls, e_dupi, e_dupr, e_getfield, e_i2l, e_iadd, e_iastore, e_iload_n1, e_iload_n2, e_iload_n3, e_ireturn, e_kl_X9_230, e_kl_X9_232, e_lconst0, e_lconst1, e_putfield, es_44, es_45, es_46, gf_X9_151_30, gf_X9_50_30, gf_X9_53_30, gf_X9_56_30, j_bp_6, j_bp_m2, j_bp_m4, j_ic_0, j_ic_1, j_icmp_ne_48_6, j_if_eq_14_25, j_if_eq_26_13, j_if_ne_36_6, pf_X9_151_30, pf_X9_65_30, q_X9_in, wi_0, wi_lt, wi_g255, wi_g40, wi_g20, wi_g4, wi_g3, wi_g9, wi_g10, wi_g30, wi_g1, wi_l255, wi_l40, wi_l20, wi_l4, wi_l3, wi_l9, wi_l10, wi_l30, wi_l1, t0_r, t0_l, t0_38f, t0_39f, t0_40f, t0_sm, t0_lm, t0_sa, t0_bg, t0_hk, t0_30_2, t0_30_3, t0_30_4, t0_30_7, t0_30_10, t0_30_11, t0_30_13, t0_30_19, t0_30_22, t0_30_26, t0_30_27, t0_30_28, t0_30_29, t0_30_30, t0_30_31, t0_30_32, t0_30_35, t0_31, t0_32, t0_33, t0_34, t0_35, t0_36, t0_37, t0_38, t0_39, t0_40, t0_41, t0_42, t0_43, t0_44, t0_45, t0_46, t0_47, t0_48, hm, ab_rn, bi_0, bi_1, ite_not]
        rw [if_neg h1]
        exact h
    · exact h.elim

theorem w42_38 {M : ab_M} {g : Nat → Int32} {b : Nat} : (wt M 42 g).1 38 b = M.1 38 b := rfl
theorem a43_38 {M : ab_M} {x : Int32} {k b : Nat} : (ab_si M 43 k x).1 38 b = M.1 38 b := rfl
def kp_M (N : ab_M) (c : Nat) : ab_M := wt (ab_si N 43 c 1) 42 (bw_k (N.1 42) c (N.1 38) 7)
theorem nI_2 (x : Int32) (h : ¬ x < 0 ∧ ¬ 1 < x) : ∃ c : Nat, c < 2 ∧ x = nI c := by
  obtain ⟨c, hc, rfl⟩ := nI_of h.1
  refine ⟨c, ?_, rfl⟩
  by_cases h2 : c < 2
  · exact h2
  · exact absurd (nI_lt (a := 1) (by omega) hc) h.2
def s_X9_keep : ab_Sem := fun as M Po => match as with
  | [.ref 30, .int x] => (∀ c, c < 2 → x = nI c → Po (some (.int ((t0 M).1 38 1))) (kp_M (t0 M) c)) ∧ (¬ (¬ x < 0 ∧ ¬ 1 < x) → Po (some (.int (-1))) (t0 M))
  | _ => False
theorem q_X9_keep {x : Int32} {M : ab_M} {Po : ab_P} : s_X9_keep [.ref 30, .int x] M Po = ((∀ c, c < 2 → x = nI c → Po (some (.int ((t0 M).1 38 1))) (kp_M (t0 M) c)) ∧ (¬ (¬ x < 0 ∧ ¬ 1 < x) → Po (some (.int (-1))) (t0 M))) := rfl
abbrev x_X9_keep : ab_X := (some .int, fl_X9, [(145, 3, s_X9_in)], kl_X9, gs_X9, ab_ros)
theorem ca_X9_keep_72 {v0 v1 v2 : Value} {st : List Value} {M : ab_M} {k : List Value → ab_M → Prop} : ab_ca x_X9_keep (2 * 72 + 1) (v2 :: v1 :: v0 :: st) M k = (st.length ≤ 4 ∧ s_X9_in [v0, v1, v2] M (fun r M' => k (r.toList ++ st) M')) := rfl
theorem r_X9_keep : ∀ (as : List Value) (M : ab_M) (Po : ab_P), s_X9_keep as M Po → ∃ (q : Nat) (as' : List Value) (ci : Nat) (T : u_T) (N : Nat) (fs : List ab_F), as = .ref q :: as' ∧ ab_sh[q]? = some (.inl (ci, fs)) ∧ vwCl[ci]? = some (yX9_keep.cls, T, N) := by
  intro as M Po h
  unfold s_X9_keep at h
  split at h
  · first | exact ⟨_, _, 9, _, _, _, rfl, rfl, rfl⟩ | (rcases h.1 with rfl | rfl | rfl <;> exact ⟨_, _, 9, _, _, _, rfl, rfl, rfl⟩)
  · exact h.elim
set_option maxRecDepth 20000 in
set_option maxHeartbeats 4000000 in
theorem lq_X9_keep {G : ab_K} {Po : ab_P} (hG : ab_Clo cX9_keep x_X9_keep Po G) {N : ab_M} {c : Nat} {f : Nat → Int32} (hc : c < 2) (h : Po (some (.int (N.1 38 1))) (wt N 42 (bw_k f c (N.1 38) 7))) : ∀ j i : Nat, i + j = 7 → G 26 [some (.ref 30), some (.int (nI c)), some (.int (nI i))] [] (wt N 42 (bw_k f c (N.1 38) i)) := by
  intro j
  induction j with
  | zero =>
    intro i hi
    have e : i = 7 := by omega
    subst e
    refine ab_go1 hG [26] 80 _ _ _ _ ?_
    simp (decide := true) only [ew_s, ew_0, Option.toList_some, Option.toList_none, List.cons_append, List.nil_append, true_and, and_true, List.length_cons, List.length_nil, Nat.reduceAdd, Nat.reduceLeDiff, Int32.reduceAdd, Int32.reduceSub, Int32.reduceMul, Int32.reduceLT, Int32.reduceLE, Int32.reduceToNatClampNeg, ↓reduceIte, and_self, si_1, si_2, sl_1, sl_2, false_and, and_false, dX9_keep_0, dX9_keep_1, dX9_keep_2, dX9_keep_5, dX9_keep_6, dX9_keep_7, dX9_keep_8, dX9_keep_9, dX9_keep_12, dX9_keep_15, dX9_keep_16, dX9_keep_17, dX9_keep_18, dX9_keep_21, dX9_keep_22, dX9_keep_23, dX9_keep_24, dX9_keep_25, dX9_keep_26, dX9_keep_27, dX9_keep_29, dX9_keep_32, dX9_keep_33, dX9_keep_36, dX9_keep_38, dX9_keep_39, dX9_keep_40, dX9_keep_41, dX9_keep_42, dX9_keep_43, dX9_keep_46, dX9_keep_47, dX9_keep_48, dX9_keep_49, dX9_keep_52, dX9_keep_55, dX9_keep_56, dX9_keep_59, dX9_keep_60, dX9_keep_61, ca_X9_keep_72, e_aload_n0, e_bastore, e_calls, e_getfield, e_i2l, e_iadd, e_iaload, e_iastore, e_iload_n1, e_iload_n2, e_imul, e_ireturn, e_istore_n2i, e_istore_n2n, e_istore_n2r, e_lconst0, e_lconst1, e_putfield, ea_38, ea_42, ea_43, es_38, es_42, es_43, gf_X9_31_30, gf_X9_43_30, gf_X9_46_30, j_bp_7, j_goto_52_m26, j_ic_0, j_ic_1, j_ic_m1, j_icmp_ge_29_26, j_if_ne_12_5, j_ii_2_1, pf_X9_65_30, q_X9_in, w42_38, ab_rn, bi_0, bi_1, ite_not]
    exact h
  | succ j ih =>
    intro i hi
    obtain ⟨e1, e2⟩ := cI (i := i) (b := 7) (by omega) (by omega)
    obtain ⟨e3, e4⟩ := cI (i := 7 * c + i) (b := 14) (by omega) (by omega)
    have ih1 := ih (i + 1) (by omega)
    rw [← bw_s] at ih1
    refine ab_go1 hG [26] 80 _ _ _ _ ?_
    simp (decide := true) only [ew_s, ew_0, Option.toList_some, Option.toList_none, List.cons_append, List.nil_append, true_and, and_true, List.length_cons, List.length_nil, Nat.reduceAdd, Nat.reduceLeDiff, Int32.reduceAdd, Int32.reduceSub, Int32.reduceMul, Int32.reduceLT, Int32.reduceLE, Int32.reduceToNatClampNeg, ↓reduceIte, and_self, si_1, si_2, sl_1, sl_2, false_and, and_false, dX9_keep_0, dX9_keep_1, dX9_keep_2, dX9_keep_5, dX9_keep_6, dX9_keep_7, dX9_keep_8, dX9_keep_9, dX9_keep_12, dX9_keep_15, dX9_keep_16, dX9_keep_17, dX9_keep_18, dX9_keep_21, dX9_keep_22, dX9_keep_23, dX9_keep_24, dX9_keep_25, dX9_keep_26, dX9_keep_27, dX9_keep_29, dX9_keep_32, dX9_keep_33, dX9_keep_36, dX9_keep_38, dX9_keep_39, dX9_keep_40, dX9_keep_41, dX9_keep_42, dX9_keep_43, dX9_keep_46, dX9_keep_47, dX9_keep_48, dX9_keep_49, dX9_keep_52, dX9_keep_55, dX9_keep_56, dX9_keep_59, dX9_keep_60, dX9_keep_61, ca_X9_keep_72, e_aload_n0, e_bastore, e_calls, e_getfield, e_i2l, e_iadd, e_iaload, e_iastore, e_iload_n1, e_iload_n2, e_imul, e_ireturn, e_istore_n2i, e_istore_n2n, e_istore_n2r, e_lconst0, e_lconst1, e_putfield, ea_38, ea_42, ea_43, es_38, es_42, es_43, gf_X9_31_30, gf_X9_43_30, gf_X9_46_30, j_bp_7, j_goto_52_m26, j_ic_0, j_ic_1, j_ic_m1, j_icmp_ge_29_26, j_if_ne_12_5, j_ii_2_1, pf_X9_65_30, q_X9_in, w42_38, i7_eq, e1, e3, wt_s, ab_rn, bi_0, bi_1, ite_not]
    rw [if_pos (show nI i < 7 from nI_lt (b := 7) (by omega) (by omega)), nI_1]
    exact ⟨e2, e4, ih1⟩
set_option maxRecDepth 20000 in
set_option maxHeartbeats 4000000 in
theorem c_X9_keep {l : Launch} : ab_ctr l yX9_keep cX9_keep 3 (some .int) 1 25 s_X9_keep := by
  refine ab_met x_X9_keep (by decide) rfl fo_X9 ko_X9 so_X9 rfl (ab_cs_cons (ab_kS c_X9_in ml_X9_72 v_X9_in ⟨rfl, rfl⟩) ab_cs_nil) ?_ ?_
  · intro as M Po h
    unfold s_X9_keep at h
    split at h
    · simp [ab_e0]
    · exact h.elim
  · intro as M Po h G hG
    unfold s_X9_keep at h
    split at h
    · simp only [ab_en, ab_e0, List.length_cons, List.length_nil, Nat.reduceAdd, Nat.reduceSub, List.replicate, List.cons_append, List.nil_append]
      rename_i x
      obtain ⟨hy, hz⟩ := h
      by_cases h1 : ¬ x < 0 ∧ ¬ 1 < x
      · obtain ⟨c, hc, rfl⟩ := nI_2 x h1
        have h := hy c hc rfl
        obtain ⟨e1, e2⟩ := cI (i := c) (b := 2) (by omega) (by omega)
        have key := lq_X9_keep hG (N := ab_si (t0 M) 43 c 1) (c := c) (f := (t0 M).1 42) hc h 7 0 (by omega)
        rw [bw_0, show wt (ab_si (t0 M) 43 c 1) 42 ((t0 M).1 42) = ab_si (t0 M) 43 c 1 from wt_id (M := ab_si (t0 M) 43 c 1) (p := 42)] at key
        refine ab_go hG [26] 80 _ _ _ _ ?_
        simp (decide := true) only [ew_s, ew_0, Option.toList_some, Option.toList_none, List.cons_append, List.nil_append, true_and, and_true, List.length_cons, List.length_nil, Nat.reduceAdd, Nat.reduceLeDiff, Int32.reduceAdd, Int32.reduceSub, Int32.reduceMul, Int32.reduceLT, Int32.reduceLE, Int32.reduceToNatClampNeg, ↓reduceIte, and_self, si_1, si_2, sl_1, sl_2, false_and, and_false, dX9_keep_0, dX9_keep_1, dX9_keep_2, dX9_keep_5, dX9_keep_6, dX9_keep_7, dX9_keep_8, dX9_keep_9, dX9_keep_12, dX9_keep_15, dX9_keep_16, dX9_keep_17, dX9_keep_18, dX9_keep_21, dX9_keep_22, dX9_keep_23, dX9_keep_24, dX9_keep_25, dX9_keep_26, dX9_keep_27, dX9_keep_29, dX9_keep_32, dX9_keep_33, dX9_keep_36, dX9_keep_38, dX9_keep_39, dX9_keep_40, dX9_keep_41, dX9_keep_42, dX9_keep_43, dX9_keep_46, dX9_keep_47, dX9_keep_48, dX9_keep_49, dX9_keep_52, dX9_keep_55, dX9_keep_56, dX9_keep_59, dX9_keep_60, dX9_keep_61, ca_X9_keep_72, e_aload_n0, e_bastore, e_calls, e_getfield, e_i2l, e_iadd, e_iaload, e_iastore, e_iload_n1, e_iload_n2, e_imul, e_ireturn, e_istore_n2i, e_istore_n2n, e_istore_n2r, e_lconst0, e_lconst1, e_putfield, ea_38, ea_42, ea_43, es_38, es_42, es_43, gf_X9_31_30, gf_X9_43_30, gf_X9_46_30, j_bp_7, j_goto_52_m26, j_ic_0, j_ic_1, j_ic_m1, j_icmp_ge_29_26, j_if_ne_12_5, j_ii_2_1, pf_X9_65_30, q_X9_in, wi_0, wi_lt, wi_g255, wi_g40, wi_g20, wi_g4, wi_g3, wi_g9, wi_g10, wi_g30, wi_g1, wi_l255, wi_l40, wi_l20, wi_l4, wi_l3, wi_l9, wi_l10, wi_l30, wi_l1, t0_r, e1, nar_1, ab_rn, bi_0, bi_1, ite_not]
        rw [if_pos h1]
        exact ⟨e2, key⟩
      · have h := hz h1
        refine ab_go hG [26] 80 _ _ _ _ ?_
        simp (decide := true) only [ew_s, ew_0, Option.toList_some, Option.toList_none, List.cons_append, List.nil_append, true_and, and_true, List.length_cons, List.length_nil, Nat.reduceAdd, Nat.reduceLeDiff, Int32.reduceAdd, Int32.reduceSub, Int32.reduceMul, Int32.reduceLT, Int32.reduceLE, Int32.reduceToNatClampNeg, ↓reduceIte, and_self, si_1, si_2, sl_1, sl_2, false_and, and_false, dX9_keep_0, dX9_keep_1, dX9_keep_2, dX9_keep_5, dX9_keep_6, dX9_keep_7, dX9_keep_8, dX9_keep_9, dX9_keep_12, dX9_keep_15, dX9_keep_16, dX9_keep_17, dX9_keep_18, dX9_keep_21, dX9_keep_22, dX9_keep_23, dX9_keep_24, dX9_keep_25, dX9_keep_26, dX9_keep_27, dX9_keep_29, dX9_keep_32, dX9_keep_33, dX9_keep_36, dX9_keep_38, dX9_keep_39, dX9_keep_40, dX9_keep_41, dX9_keep_42, dX9_keep_43, dX9_keep_46, dX9_keep_47, dX9_keep_48, dX9_keep_49, dX9_keep_52, dX9_keep_55, dX9_keep_56, dX9_keep_59, dX9_keep_60, dX9_keep_61, ca_X9_keep_72, e_aload_n0, e_bastore, e_calls, e_getfield, e_i2l, e_iadd, e_iaload, e_iastore, e_iload_n1, e_iload_n2, e_imul, e_ireturn, e_istore_n2i, e_istore_n2n, e_istore_n2r, e_lconst0, e_lconst1, e_putfield, ea_38, ea_42, ea_43, es_38, es_42, es_43, gf_X9_31_30, gf_X9_43_30, gf_X9_46_30, j_bp_7, j_goto_52_m26, j_ic_0, j_ic_1, j_ic_m1, j_icmp_ge_29_26, j_if_ne_12_5, j_ii_2_1, pf_X9_65_30, q_X9_in, wi_0, wi_lt, wi_g255, wi_g40, wi_g20, wi_g4, wi_g3, wi_g9, wi_g10, wi_g30, wi_g1, wi_l255, wi_l40, wi_l20, wi_l4, wi_l3, wi_l9, wi_l10, wi_l30, wi_l1, t0_r, ab_rn, bi_0, bi_1, ite_not]
        rw [if_neg h1]
        exact h
    · exact h.elim

def ag_M (N : ab_M) (c : Nat) : ab_M := ab_si (wt N 38 (cpk (fun i => N.1 42 (7 * c + i)) (N.1 38) 7)) 30 19 0
theorem ag_38 {M : ab_M} {x : Int32} {b : Nat} : (ab_si M 30 19 x).1 38 b = M.1 38 b := rfl
def s_X9_again : ab_Sem := fun as M Po => match as with
  | [.ref 30, .int x] => (∀ c, c < 2 → x = nI c → if M.1 43 c = 0 then Po (some (.int (-3))) (t0 M) else Po (some (.int (M.1 42 (7 * c + 1)))) (ag_M (t0 M) c)) ∧ (¬ (¬ x < 0 ∧ ¬ 1 < x) → Po (some (.int (-1))) (t0 M))
  | _ => False
theorem q_X9_again {x : Int32} {M : ab_M} {Po : ab_P} : s_X9_again [.ref 30, .int x] M Po = ((∀ c, c < 2 → x = nI c → if M.1 43 c = 0 then Po (some (.int (-3))) (t0 M) else Po (some (.int (M.1 42 (7 * c + 1)))) (ag_M (t0 M) c)) ∧ (¬ (¬ x < 0 ∧ ¬ 1 < x) → Po (some (.int (-1))) (t0 M))) := rfl
abbrev x_X9_again : ab_X := (some .int, fl_X9, [(145, 3, s_X9_in)], kl_X9, gs_X9, ab_ros)
theorem ca_X9_again_72 {v0 v1 v2 : Value} {st : List Value} {M : ab_M} {k : List Value → ab_M → Prop} : ab_ca x_X9_again (2 * 72 + 1) (v2 :: v1 :: v0 :: st) M k = (st.length ≤ 4 ∧ s_X9_in [v0, v1, v2] M (fun r M' => k (r.toList ++ st) M')) := rfl
theorem r_X9_again : ∀ (as : List Value) (M : ab_M) (Po : ab_P), s_X9_again as M Po → ∃ (q : Nat) (as' : List Value) (ci : Nat) (T : u_T) (N : Nat) (fs : List ab_F), as = .ref q :: as' ∧ ab_sh[q]? = some (.inl (ci, fs)) ∧ vwCl[ci]? = some (yX9_again.cls, T, N) := by
  intro as M Po h
  unfold s_X9_again at h
  split at h
  · first | exact ⟨_, _, 9, _, _, _, rfl, rfl, rfl⟩ | (rcases h.1 with rfl | rfl | rfl <;> exact ⟨_, _, 9, _, _, _, rfl, rfl, rfl⟩)
  · exact h.elim
set_option maxRecDepth 20000 in
set_option maxHeartbeats 4000000 in
theorem lq_X9_again {G : ab_K} {Po : ab_P} (hG : ab_Clo cX9_again x_X9_again Po G) {N : ab_M} {c : Nat} {f : Nat → Int32} (hc : c < 2) (h : Po (some (.int (cpk (fun i => N.1 42 (7 * c + i)) f 7 1))) (ab_si (wt N 38 (cpk (fun i => N.1 42 (7 * c + i)) f 7)) 30 19 0)) : ∀ j i : Nat, i + j = 7 → G 31 [some (.ref 30), some (.int (nI c)), some (.int (nI i))] [] (wt N 38 (cpk (fun i => N.1 42 (7 * c + i)) f i)) := by
  intro j
  induction j with
  | zero =>
    intro i hi
    have e : i = 7 := by omega
    subst e
    refine ab_go1 hG [31] 80 _ _ _ _ ?_
    simp (decide := true) only [ew_s, ew_0, Option.toList_some, Option.toList_none, List.cons_append, List.nil_append, true_and, and_true, List.length_cons, List.length_nil, Nat.reduceAdd, Nat.reduceLeDiff, Int32.reduceAdd, Int32.reduceSub, Int32.reduceMul, Int32.reduceLT, Int32.reduceLE, Int32.reduceToNatClampNeg, ↓reduceIte, and_self, si_1, si_2, sl_1, sl_2, false_and, and_false, dX9_again_0, dX9_again_1, dX9_again_2, dX9_again_5, dX9_again_6, dX9_again_7, dX9_again_8, dX9_again_9, dX9_again_12, dX9_again_15, dX9_again_16, dX9_again_17, dX9_again_18, dX9_again_21, dX9_again_22, dX9_again_23, dX9_again_26, dX9_again_28, dX9_again_29, dX9_again_30, dX9_again_31, dX9_again_32, dX9_again_34, dX9_again_37, dX9_again_38, dX9_again_41, dX9_again_42, dX9_again_43, dX9_again_46, dX9_again_48, dX9_again_49, dX9_again_50, dX9_again_51, dX9_again_52, dX9_again_53, dX9_again_54, dX9_again_57, dX9_again_60, dX9_again_61, dX9_again_62, dX9_again_65, dX9_again_66, dX9_again_69, dX9_again_70, dX9_again_71, ca_X9_again_72, e_aload_n0, e_baload, e_calls, e_getfield, e_i2l, e_iadd, e_iaload, e_iastore, e_iload_n1, e_iload_n2, e_imul, e_ireturn, e_istore_n2i, e_istore_n2n, e_istore_n2r, e_lconst0, e_lconst1, e_putfield, ea_38, ea_42, ea_43, es_38, es_42, es_43, gf_X9_31_30, gf_X9_43_30, gf_X9_46_30, j_bp_7, j_bp_m3, j_goto_57_m26, j_ic_0, j_ic_1, j_ic_m1, j_icmp_ge_34_26, j_if_ne_12_5, j_if_ne_23_6, j_ii_2_1, pf_X9_114_30, pf_X9_65_30, q_X9_in, ag_38, hpp_38, ab_rn, bi_0, bi_1, ite_not]
    exact h
  | succ j ih =>
    intro i hi
    obtain ⟨e1, e2⟩ := cI (i := i) (b := 7) (by omega) (by omega)
    obtain ⟨e3, e4⟩ := cI (i := 7 * c + i) (b := 14) (by omega) (by omega)
    have ih1 := ih (i + 1) (by omega)
    rw [← cpk_s] at ih1
    refine ab_go1 hG [31] 80 _ _ _ _ ?_
    simp (decide := true) only [ew_s, ew_0, Option.toList_some, Option.toList_none, List.cons_append, List.nil_append, true_and, and_true, List.length_cons, List.length_nil, Nat.reduceAdd, Nat.reduceLeDiff, Int32.reduceAdd, Int32.reduceSub, Int32.reduceMul, Int32.reduceLT, Int32.reduceLE, Int32.reduceToNatClampNeg, ↓reduceIte, and_self, si_1, si_2, sl_1, sl_2, false_and, and_false, dX9_again_0, dX9_again_1, dX9_again_2, dX9_again_5, dX9_again_6, dX9_again_7, dX9_again_8, dX9_again_9, dX9_again_12, dX9_again_15, dX9_again_16, dX9_again_17, dX9_again_18, dX9_again_21, dX9_again_22, dX9_again_23, dX9_again_26, dX9_again_28, dX9_again_29, dX9_again_30, dX9_again_31, dX9_again_32, dX9_again_34, dX9_again_37, dX9_again_38, dX9_again_41, dX9_again_42, dX9_again_43, dX9_again_46, dX9_again_48, dX9_again_49, dX9_again_50, dX9_again_51, dX9_again_52, dX9_again_53, dX9_again_54, dX9_again_57, dX9_again_60, dX9_again_61, dX9_again_62, dX9_again_65, dX9_again_66, dX9_again_69, dX9_again_70, dX9_again_71, ca_X9_again_72, e_aload_n0, e_baload, e_calls, e_getfield, e_i2l, e_iadd, e_iaload, e_iastore, e_iload_n1, e_iload_n2, e_imul, e_ireturn, e_istore_n2i, e_istore_n2n, e_istore_n2r, e_lconst0, e_lconst1, e_putfield, ea_38, ea_42, ea_43, es_38, es_42, es_43, gf_X9_31_30, gf_X9_43_30, gf_X9_46_30, j_bp_7, j_bp_m3, j_goto_57_m26, j_ic_0, j_ic_1, j_ic_m1, j_icmp_ge_34_26, j_if_ne_12_5, j_if_ne_23_6, j_ii_2_1, pf_X9_114_30, pf_X9_65_30, q_X9_in, w38_42, i7_eq, e1, e3, wt_s, ab_rn, bi_0, bi_1, ite_not]
    rw [if_pos (show nI i < 7 from nI_lt (b := 7) (by omega) (by omega)), nI_1]
    exact ⟨e4, e2, ih1⟩
set_option maxRecDepth 20000 in
set_option maxHeartbeats 4000000 in
theorem c_X9_again {l : Launch} : ab_ctr l yX9_again cX9_again 3 (some .int) 1 25 s_X9_again := by
  refine ab_met x_X9_again (by decide) rfl fo_X9 ko_X9 so_X9 rfl (ab_cs_cons (ab_kS c_X9_in ml_X9_72 v_X9_in ⟨rfl, rfl⟩) ab_cs_nil) ?_ ?_
  · intro as M Po h
    unfold s_X9_again at h
    split at h
    · simp [ab_e0]
    · exact h.elim
  · intro as M Po h G hG
    unfold s_X9_again at h
    split at h
    · simp only [ab_en, ab_e0, List.length_cons, List.length_nil, Nat.reduceAdd, Nat.reduceSub, List.replicate, List.cons_append, List.nil_append]
      rename_i x
      obtain ⟨hy, hz⟩ := h
      by_cases h1 : ¬ x < 0 ∧ ¬ 1 < x
      · obtain ⟨c, hc, rfl⟩ := nI_2 x h1
        have h := hy c hc rfl
        obtain ⟨e1, e2⟩ := cI (i := c) (b := 2) (by omega) (by omega)
        by_cases h2 : M.1 43 c = 0
        · rw [if_pos h2] at h
          refine ab_go hG [31] 80 _ _ _ _ ?_
          simp (decide := true) only [ew_s, ew_0, Option.toList_some, Option.toList_none, List.cons_append, List.nil_append, true_and, and_true, List.length_cons, List.length_nil, Nat.reduceAdd, Nat.reduceLeDiff, Int32.reduceAdd, Int32.reduceSub, Int32.reduceMul, Int32.reduceLT, Int32.reduceLE, Int32.reduceToNatClampNeg, ↓reduceIte, and_self, si_1, si_2, sl_1, sl_2, false_and, and_false, dX9_again_0, dX9_again_1, dX9_again_2, dX9_again_5, dX9_again_6, dX9_again_7, dX9_again_8, dX9_again_9, dX9_again_12, dX9_again_15, dX9_again_16, dX9_again_17, dX9_again_18, dX9_again_21, dX9_again_22, dX9_again_23, dX9_again_26, dX9_again_28, dX9_again_29, dX9_again_30, dX9_again_31, dX9_again_32, dX9_again_34, dX9_again_37, dX9_again_38, dX9_again_41, dX9_again_42, dX9_again_43, dX9_again_46, dX9_again_48, dX9_again_49, dX9_again_50, dX9_again_51, dX9_again_52, dX9_again_53, dX9_again_54, dX9_again_57, dX9_again_60, dX9_again_61, dX9_again_62, dX9_again_65, dX9_again_66, dX9_again_69, dX9_again_70, dX9_again_71, ca_X9_again_72, e_aload_n0, e_baload, e_calls, e_getfield, e_i2l, e_iadd, e_iaload, e_iastore, e_iload_n1, e_iload_n2, e_imul, e_ireturn, e_istore_n2i, e_istore_n2n, e_istore_n2r, e_lconst0, e_lconst1, e_putfield, ea_38, ea_42, ea_43, es_38, es_42, es_43, gf_X9_31_30, gf_X9_43_30, gf_X9_46_30, j_bp_7, j_bp_m3, j_goto_57_m26, j_ic_0, j_ic_1, j_ic_m1, j_icmp_ge_34_26, j_if_ne_12_5, j_if_ne_23_6, j_ii_2_1, pf_X9_114_30, pf_X9_65_30, q_X9_in, wi_0, wi_lt, wi_g255, wi_g40, wi_g20, wi_g4, wi_g3, wi_g9, wi_g10, wi_g30, wi_g1, wi_l255, wi_l40, wi_l20, wi_l4, wi_l3, wi_l9, wi_l10, wi_l30, wi_l1, t0_r, t0_l, t0_38f, t0_39f, t0_40f, t0_sm, t0_lm, t0_sa, t0_bg, t0_hk, t0_30_2, t0_30_3, t0_30_4, t0_30_7, t0_30_10, t0_30_11, t0_30_13, t0_30_19, t0_30_22, t0_30_26, t0_30_27, t0_30_28, t0_30_29, t0_30_30, t0_30_31, t0_30_32, t0_30_35, t0_31, t0_32, t0_33, t0_34, t0_35, t0_36, t0_37, t0_38, t0_39, t0_40, t0_41, t0_42, t0_43, t0_44, t0_45, t0_46, t0_47, t0_48, e1, h2, ab_rn, bi_0, bi_1, ite_not]
          rw [if_pos h1]
          exact ⟨e2, h⟩
        · rw [if_neg h2] at h
          have key := lq_X9_again hG (N := t0 M) (c := c) (f := (t0 M).1 38) hc h 7 0 (by omega)
          rw [cpk_0, show wt (t0 M) 38 ((t0 M).1 38) = t0 M from wt_id (M := t0 M) (p := 38)] at key
          refine ab_go hG [31] 80 _ _ _ _ ?_
          simp (decide := true) only [ew_s, ew_0, Option.toList_some, Option.toList_none, List.cons_append, List.nil_append, true_and, and_true, List.length_cons, List.length_nil, Nat.reduceAdd, Nat.reduceLeDiff, Int32.reduceAdd, Int32.reduceSub, Int32.reduceMul, Int32.reduceLT, Int32.reduceLE, Int32.reduceToNatClampNeg, ↓reduceIte, and_self, si_1, si_2, sl_1, sl_2, false_and, and_false, dX9_again_0, dX9_again_1, dX9_again_2, dX9_again_5, dX9_again_6, dX9_again_7, dX9_again_8, dX9_again_9, dX9_again_12, dX9_again_15, dX9_again_16, dX9_again_17, dX9_again_18, dX9_again_21, dX9_again_22, dX9_again_23, dX9_again_26, dX9_again_28, dX9_again_29, dX9_again_30, dX9_again_31, dX9_again_32, dX9_again_34, dX9_again_37, dX9_again_38, dX9_again_41, dX9_again_42, dX9_again_43, dX9_again_46, dX9_again_48, dX9_again_49, dX9_again_50, dX9_again_51, dX9_again_52, dX9_again_53, dX9_again_54, dX9_again_57, dX9_again_60, dX9_again_61, dX9_again_62, dX9_again_65, dX9_again_66, dX9_again_69, dX9_again_70, dX9_again_71, ca_X9_again_72, e_aload_n0, e_baload, e_calls, e_getfield, e_i2l, e_iadd, e_iaload, e_iastore, e_iload_n1, e_iload_n2, e_imul, e_ireturn, e_istore_n2i, e_istore_n2n, e_istore_n2r, e_lconst0, e_lconst1, e_putfield, ea_38, ea_42, ea_43, es_38, es_42, es_43, gf_X9_31_30, gf_X9_43_30, gf_X9_46_30, j_bp_7, j_bp_m3, j_goto_57_m26, j_ic_0, j_ic_1, j_ic_m1, j_icmp_ge_34_26, j_if_ne_12_5, j_if_ne_23_6, j_ii_2_1, pf_X9_114_30, pf_X9_65_30, q_X9_in, wi_0, wi_lt, wi_g255, wi_g40, wi_g20, wi_g4, wi_g3, wi_g9, wi_g10, wi_g30, wi_g1, wi_l255, wi_l40, wi_l20, wi_l4, wi_l3, wi_l9, wi_l10, wi_l30, wi_l1, t0_r, t0_l, t0_38f, t0_39f, t0_40f, t0_sm, t0_lm, t0_sa, t0_bg, t0_hk, t0_30_2, t0_30_3, t0_30_4, t0_30_7, t0_30_10, t0_30_11, t0_30_13, t0_30_19, t0_30_22, t0_30_26, t0_30_27, t0_30_28, t0_30_29, t0_30_30, t0_30_31, t0_30_32, t0_30_35, t0_31, t0_32, t0_33, t0_34, t0_35, t0_36, t0_37, t0_38, t0_39, t0_40, t0_41, t0_42, t0_43, t0_44, t0_45, t0_46, t0_47, t0_48, e1, h2, ab_rn, bi_0, bi_1, ite_not]
          rw [if_pos h1]
          exact ⟨e2, key⟩
      · have h := hz h1
        refine ab_go hG [31] 80 _ _ _ _ ?_
        simp (decide := true) only [ew_s, ew_0, Option.toList_some, Option.toList_none, List.cons_append, List.nil_append, true_and, and_true, List.length_cons, List.length_nil, Nat.reduceAdd, Nat.reduceLeDiff, Int32.reduceAdd, Int32.reduceSub, Int32.reduceMul, Int32.reduceLT, Int32.reduceLE, Int32.reduceToNatClampNeg, ↓reduceIte, and_self, si_1, si_2, sl_1, sl_2, false_and, and_false, dX9_again_0, dX9_again_1, dX9_again_2, dX9_again_5, dX9_again_6, dX9_again_7, dX9_again_8, dX9_again_9, dX9_again_12, dX9_again_15, dX9_again_16, dX9_again_17, dX9_again_18, dX9_again_21, dX9_again_22, dX9_again_23, dX9_again_26, dX9_again_28, dX9_again_29, dX9_again_30, dX9_again_31, dX9_again_32, dX9_again_34, dX9_again_37, dX9_again_38, dX9_again_41, dX9_again_42, dX9_again_43, dX9_again_46, dX9_again_48, dX9_again_49, dX9_again_50, dX9_again_51, dX9_again_52, dX9_again_53, dX9_again_54, dX9_again_57, dX9_again_60, dX9_again_61, dX9_again_62, dX9_again_65, dX9_again_66, dX9_again_69, dX9_again_70, dX9_again_71, ca_X9_again_72, e_aload_n0, e_baload, e_calls, e_getfield, e_i2l, e_iadd, e_iaload, e_iastore, e_iload_n1, e_iload_n2, e_imul, e_ireturn, e_istore_n2i, e_istore_n2n, e_istore_n2r, e_lconst0, e_lconst1, e_putfield, ea_38, ea_42, ea_43, es_38, es_42, es_43, gf_X9_31_30, gf_X9_43_30, gf_X9_46_30, j_bp_7, j_bp_m3, j_goto_57_m26, j_ic_0, j_ic_1, j_ic_m1, j_icmp_ge_34_26, j_if_ne_12_5, j_if_ne_23_6, j_ii_2_1, pf_X9_114_30, pf_X9_65_30, q_X9_in, wi_0, wi_lt, wi_g255, wi_g40, wi_g20, wi_g4, wi_g3, wi_g9, wi_g10, wi_g30, wi_g1, wi_l255, wi_l40, wi_l20, wi_l4, wi_l3, wi_l9, wi_l10, wi_l30, wi_l1, t0_r, ab_rn, bi_0, bi_1, ite_not]
        rw [if_neg h1]
        exact h
    · exact h.elim

/-- in how many days they are there, if one has a thorn pulled -/
def cm_1 (M : ab_M) (n s i : Nat) : Int32 := co_l M n s 61 0 (up_f (M.1 38) (2 + i) (M.1 38 (2 + i) - 1))
def cq_l (M : ab_M) (n s : Nat) : Nat → Nat → Int32 → Int32 → Int32 × Int32
  | 0, _, b, w => (w, b)
  | j + 1, i, b, w => if 0 < M.1 38 (2 + i) ∧ ¬ cm_1 M n s i = -9 ∧ (b = -9 ∨ cm_1 M n s i < b) then cq_l M n s j (i + 1) (cm_1 M n s i) (nI i) else cq_l M n s j (i + 1) b w
def s_X9_cure : ab_Sem := fun as M Po => match as with
  | [.ref 30, .int y] => ∃ n s : Nat, ct_M M n s ∧ (if ¬ y < 0 ∧ ¬ 1 < y then (∀ N, jj (t0 M) N → if y = 0 then Po (some (.int ((cq_l (t0 M) n s n 0 (-9) (-9)).1))) N else Po (some (.int ((cq_l (t0 M) n s n 0 (-9) (-9)).2))) N) else Po (some (.int (-2))) (t0 M))
  | _ => False
theorem q_X9_cure {y : Int32} {M : ab_M} {Po : ab_P} : s_X9_cure [.ref 30, .int y] M Po = (∃ n s : Nat, ct_M M n s ∧ (if ¬ y < 0 ∧ ¬ 1 < y then (∀ N, jj (t0 M) N → if y = 0 then Po (some (.int ((cq_l (t0 M) n s n 0 (-9) (-9)).1))) N else Po (some (.int ((cq_l (t0 M) n s n 0 (-9) (-9)).2))) N) else Po (some (.int (-2))) (t0 M))) := rfl
abbrev x_X9_cure : ab_X := (some .int, fl_X9, [(145, 3, s_X9_in), (338, 1, s_X9_begin), (352, 1, s_X9_comesOf)], kl_X9, gs_X9, ab_ros)
theorem ca_X9_cure_72 {v0 v1 v2 : Value} {st : List Value} {M : ab_M} {k : List Value → ab_M → Prop} : ab_ca x_X9_cure (2 * 72 + 1) (v2 :: v1 :: v0 :: st) M k = (st.length ≤ 4 ∧ s_X9_in [v0, v1, v2] M (fun r M' => k (r.toList ++ st) M')) := rfl
theorem ca_X9_cure_169 {v0 : Value} {st : List Value} {M : ab_M} {k : List Value → ab_M → Prop} : ab_ca x_X9_cure (2 * 169) (v0 :: st) M k = (st.length ≤ 4 ∧ s_X9_begin [v0] M (fun r M' => k (r.toList ++ st) M')) := rfl
theorem ca_X9_cure_176 {v0 : Value} {st : List Value} {M : ab_M} {k : List Value → ab_M → Prop} : ab_ca x_X9_cure (2 * 176) (v0 :: st) M k = (st.length ≤ 4 ∧ s_X9_comesOf [v0] M (fun r M' => k (r.toList ++ st) M')) := rfl
theorem r_X9_cure : ∀ (as : List Value) (M : ab_M) (Po : ab_P), s_X9_cure as M Po → ∃ (q : Nat) (as' : List Value) (ci : Nat) (T : u_T) (N : Nat) (fs : List ab_F), as = .ref q :: as' ∧ ab_sh[q]? = some (.inl (ci, fs)) ∧ vwCl[ci]? = some (yX9_cure.cls, T, N) := by
  intro as M Po h
  unfold s_X9_cure at h
  split at h
  · first | exact ⟨_, _, 9, _, _, _, rfl, rfl, rfl⟩ | (rcases h.1 with rfl | rfl | rfl <;> exact ⟨_, _, 9, _, _, _, rfl, rfl, rfl⟩)
  · exact h.elim
set_option maxRecDepth 20000 in
set_option maxHeartbeats 4000000 in
theorem lq_X9_cure {G : ab_K} {Po : ab_P} (hG : ab_Clo cX9_cure x_X9_cure Po G) {N : ab_M} {n s : Nat} {y : Int32} {p q : Nat → Int32} (hc : ct_M N n s) : ∀ (j i : Nat) (z g h : Nat → Int32) (c3 : Option Value), i + j = n → (∀ N', jj N N' → if y = 0 then Po (some (.int (cq_l N n s j i (z 27) (z 28)).1)) N' else Po (some (.int (cq_l N n s j i (z 27) (z 28)).2)) N') → G 32 [some (.ref 30), some (.int y), some (.int (nI i)), c3] [] (jw N z g h p q) := by
  have cm := cmE hc
  have hm := hc.2.1
  have hn := hc.1
  intro j
  induction j with
  | zero =>
    intro i z g h c3 hi hh
    have e : i = n := by omega
    subst e
    unfold cq_l at hh
    refine ab_go1 hG [32] 80 _ _ _ _ ?_
    simp (decide := true) only [ew_s, ew_0, Option.toList_some, Option.toList_none, List.cons_append, List.nil_append, true_and, and_true, List.length_cons, List.length_nil, Nat.reduceAdd, Nat.reduceLeDiff, Int32.reduceAdd, Int32.reduceSub, Int32.reduceMul, Int32.reduceLT, Int32.reduceLE, Int32.reduceToNatClampNeg, ↓reduceIte, and_self, si_1, si_2, sl_1, sl_2, false_and, and_false, dX9_cure_0, dX9_cure_1, dX9_cure_2, dX9_cure_5, dX9_cure_6, dX9_cure_7, dX9_cure_8, dX9_cure_9, dX9_cure_12, dX9_cure_15, dX9_cure_17, dX9_cure_18, dX9_cure_19, dX9_cure_21, dX9_cure_24, dX9_cure_25, dX9_cure_27, dX9_cure_30, dX9_cure_31, dX9_cure_32, dX9_cure_33, dX9_cure_34, dX9_cure_37, dX9_cure_40, dX9_cure_41, dX9_cure_44, dX9_cure_45, dX9_cure_46, dX9_cure_47, dX9_cure_48, dX9_cure_51, dX9_cure_52, dX9_cure_55, dX9_cure_56, dX9_cure_59, dX9_cure_60, dX9_cure_61, dX9_cure_62, dX9_cure_63, dX9_cure_64, dX9_cure_65, dX9_cure_66, dX9_cure_67, dX9_cure_68, dX9_cure_71, dX9_cure_72, dX9_cure_73, dX9_cure_75, dX9_cure_78, dX9_cure_79, dX9_cure_82, dX9_cure_84, dX9_cure_87, dX9_cure_88, dX9_cure_89, dX9_cure_92, dX9_cure_95, dX9_cure_96, dX9_cure_97, dX9_cure_100, dX9_cure_101, dX9_cure_102, dX9_cure_105, dX9_cure_108, dX9_cure_111, dX9_cure_112, dX9_cure_115, dX9_cure_116, dX9_cure_119, dX9_cure_122, dX9_cure_123, dX9_cure_126, ca_X9_cure_169, ca_X9_cure_176, ca_X9_cure_72, e_aload_n0, e_calls, e_callv, e_dup2, e_getfield, e_i2l, e_iadd, e_iaload, e_iastore, e_iload_n1, e_iload_n2, e_iload_n3, e_ireturn, e_istore_n2i, e_istore_n2n, e_istore_n2r, e_istore_n3i, e_istore_n3n, e_istore_n3r, e_isub, e_lconst0, e_lconst1, e_putfield, ea_38, ea_39, ea_40, es_38, es_39, es_40, gf_X9_179_30, gf_X9_182_30, gf_X9_31_30, gf_X9_34_30, gf_X9_69_30, j_bp_m2, j_bp_m9, j_goto_108_m76, j_goto_119_7, j_ic_0, j_ic_1, j_ic_2, j_icmp_eq_75_30, j_icmp_eq_84_11, j_icmp_ge_37_74, j_icmp_ge_92_13, j_if_le_48_57, j_if_ne_112_10, j_if_ne_12_6, j_ii_2_1, pf_X9_179_30, pf_X9_182_30, pf_X9_65_30, q_X9_in, jw_30_0, jw_30_2, jw_30_4, jw_30_7, jw_30_10, jw_30_19, jw_30_22, jw_30_27, jw_30_28, jw_30_29, jw_30_30, jw_30_31, jw_30_32, jw_30_35, jw_32, jw_32f, jw_33, jw_33f, jw_34, jw_34f, jw_35, jw_35f, jw_38, jw_38f, jw_41, jw_41f, jw_42, jw_42f, jw_43, jw_43f, jw_44, jw_44f, jw_45, jw_45f, jw_46, jw_46f, jw_39, jw_39f, jw_s39, jw_w39, jw_40, jw_40f, jw_s40, jw_w40, jw_47, jw_47f, jw_s47, jw_w47, jw_48, jw_48f, jw_s48, jw_w48, jw_z27, jw_z28, jw_z29, jw_z30, jw_z31, jw_z32, jw_z35, jw_l, uz_27_27, uz_27_28, uz_27_29, uz_27_30, uz_27_31, uz_27_32, uz_27_35, uz_28_27, uz_28_28, uz_28_29, uz_28_30, uz_28_31, uz_28_32, uz_28_35, uz_29_27, uz_29_28, uz_29_29, uz_29_30, uz_29_31, uz_29_32, uz_29_35, uz_30_27, uz_30_28, uz_30_29, uz_30_30, uz_30_31, uz_30_32, uz_30_35, uz_31_27, uz_31_28, uz_31_29, uz_31_30, uz_31_31, uz_31_32, uz_31_35, uz_32_27, uz_32_28, uz_32_29, uz_32_30, uz_32_31, uz_32_32, uz_32_35, uz_35_27, uz_35_28, uz_35_29, uz_35_30, uz_35_31, uz_35_32, uz_35_35, hm, ab_rn, bi_0, bi_1, ite_not]
    rw [if_neg (nI_nlt (Nat.le_refl i) (by omega))]
    exact hh _ jj_i
  | succ j ih =>
    intro i z g h c3 hi hh
    have h5 : i < 5 := by omega
    obtain ⟨e1, e2, e3, e4⟩ := c_2i h5
    have ec := co_e7 (M := N) (s := s) hn 61 0 (e7_up2 (e7_cp (f := g) (g := N.1 38)) h5 1)
    have ec2 : co_l N n s 61 0 (up_f (N.1 38) (2 + i) (N.1 38 (2 + i) - 1)) = cm_1 N n s i := rfl
    unfold cq_l at hh
    refine ab_go1 hG [32] 80 _ _ _ _ ?_
    simp (decide := true) only [ew_s, ew_0, Option.toList_some, Option.toList_none, List.cons_append, List.nil_append, true_and, and_true, List.length_cons, List.length_nil, Nat.reduceAdd, Nat.reduceLeDiff, Int32.reduceAdd, Int32.reduceSub, Int32.reduceMul, Int32.reduceLT, Int32.reduceLE, Int32.reduceToNatClampNeg, ↓reduceIte, and_self, si_1, si_2, sl_1, sl_2, false_and, and_false, dX9_cure_0, dX9_cure_1, dX9_cure_2, dX9_cure_5, dX9_cure_6, dX9_cure_7, dX9_cure_8, dX9_cure_9, dX9_cure_12, dX9_cure_15, dX9_cure_17, dX9_cure_18, dX9_cure_19, dX9_cure_21, dX9_cure_24, dX9_cure_25, dX9_cure_27, dX9_cure_30, dX9_cure_31, dX9_cure_32, dX9_cure_33, dX9_cure_34, dX9_cure_37, dX9_cure_40, dX9_cure_41, dX9_cure_44, dX9_cure_45, dX9_cure_46, dX9_cure_47, dX9_cure_48, dX9_cure_51, dX9_cure_52, dX9_cure_55, dX9_cure_56, dX9_cure_59, dX9_cure_60, dX9_cure_61, dX9_cure_62, dX9_cure_63, dX9_cure_64, dX9_cure_65, dX9_cure_66, dX9_cure_67, dX9_cure_68, dX9_cure_71, dX9_cure_72, dX9_cure_73, dX9_cure_75, dX9_cure_78, dX9_cure_79, dX9_cure_82, dX9_cure_84, dX9_cure_87, dX9_cure_88, dX9_cure_89, dX9_cure_92, dX9_cure_95, dX9_cure_96, dX9_cure_97, dX9_cure_100, dX9_cure_101, dX9_cure_102, dX9_cure_105, dX9_cure_108, dX9_cure_111, dX9_cure_112, dX9_cure_115, dX9_cure_116, dX9_cure_119, dX9_cure_122, dX9_cure_123, dX9_cure_126, ca_X9_cure_169, ca_X9_cure_176, ca_X9_cure_72, e_aload_n0, e_calls, e_callv, e_dup2, e_getfield, e_i2l, e_iadd, e_iaload, e_iastore, e_iload_n1, e_iload_n2, e_iload_n3, e_ireturn, e_istore_n2i, e_istore_n2n, e_istore_n2r, e_istore_n3i, e_istore_n3n, e_istore_n3r, e_isub, e_lconst0, e_lconst1, e_putfield, ea_38, ea_39, ea_40, es_38, es_39, es_40, gf_X9_179_30, gf_X9_182_30, gf_X9_31_30, gf_X9_34_30, gf_X9_69_30, j_bp_m2, j_bp_m9, j_goto_108_m76, j_goto_119_7, j_ic_0, j_ic_1, j_ic_2, j_icmp_eq_75_30, j_icmp_eq_84_11, j_icmp_ge_37_74, j_icmp_ge_92_13, j_if_le_48_57, j_if_ne_112_10, j_if_ne_12_6, j_ii_2_1, pf_X9_179_30, pf_X9_182_30, pf_X9_65_30, q_X9_in, jw_30_0, jw_30_2, jw_30_4, jw_30_7, jw_30_10, jw_30_19, jw_30_22, jw_30_27, jw_30_28, jw_30_29, jw_30_30, jw_30_31, jw_30_32, jw_30_35, jw_32, jw_32f, jw_33, jw_33f, jw_34, jw_34f, jw_35, jw_35f, jw_38, jw_38f, jw_41, jw_41f, jw_42, jw_42f, jw_43, jw_43f, jw_44, jw_44f, jw_45, jw_45f, jw_46, jw_46f, jw_39, jw_39f, jw_s39, jw_w39, jw_40, jw_40f, jw_s40, jw_w40, jw_47, jw_47f, jw_s47, jw_w47, jw_48, jw_48f, jw_s48, jw_w48, jw_z27, jw_z28, jw_z29, jw_z30, jw_z31, jw_z32, jw_z35, jw_l, uz_27_27, uz_27_28, uz_27_29, uz_27_30, uz_27_31, uz_27_32, uz_27_35, uz_28_27, uz_28_28, uz_28_29, uz_28_30, uz_28_31, uz_28_32, uz_28_35, uz_29_27, uz_29_28, uz_29_29, uz_29_30, uz_29_31, uz_29_32, uz_29_35, uz_30_27, uz_30_28, uz_30_29, uz_30_30, uz_30_31, uz_30_32, uz_30_35, uz_31_27, uz_31_28, uz_31_29, uz_31_30, uz_31_31, uz_31_32, uz_31_35, uz_32_27, uz_32_28, uz_32_29, uz_32_30, uz_32_31, uz_32_32, uz_32_35, uz_35_27, uz_35_28, uz_35_29, uz_35_30, uz_35_31, uz_35_32, uz_35_35, hm, bgE, cm, e1, ec, ec2, nI_1, ab_rn, bi_0, bi_1, ite_not]
    rw [if_pos (nI_lt (by omega) (by omega))]
    refine ⟨e2, ?_⟩
    generalize cm_1 N n s i = r at hh ⊢
    by_cases h1 : 0 < N.1 38 (2 + i)
    · rw [if_pos h1]
      refine ⟨e2, e2, fun f => ?_⟩
      by_cases h2 : r = -9
      · rw [if_pos h2]
        simp only [h2, not_true_eq_false, false_and, and_false, if_false] at hh
        exact ih (i + 1) _ _ _ _ (by omega) hh
      · rw [if_neg h2]
        by_cases h3 : z 27 = -9
        · rw [if_pos h3]
          rw [if_pos ⟨h1, h2, Or.inl h3⟩] at hh
          exact ih (i + 1) _ _ _ _ (by omega) hh
        · rw [if_neg h3]
          by_cases h4 : r < z 27
          · rw [if_pos h4]
            rw [if_pos ⟨h1, h2, Or.inr h4⟩] at hh
            exact ih (i + 1) _ _ _ _ (by omega) hh
          · rw [if_neg h4]
            rw [if_neg (fun hx => hx.2.2.elim h3 h4)] at hh
            exact ih (i + 1) _ _ _ _ (by omega) hh
    · rw [if_neg h1]
      rw [if_neg (fun hx => h1 hx.1)] at hh
      exact ih (i + 1) _ _ _ _ (by omega) hh
set_option maxRecDepth 20000 in
set_option maxHeartbeats 4000000 in
theorem lA_X9_cure {G : ab_K} {Po : ab_P} (hG : ab_Clo cX9_cure x_X9_cure Po G) {N : ab_M} {n s : Nat} {y : Int32} {z g h p q : Nat → Int32} (hc : ct_M N n s) (hh : ∀ N', jj N N' → if y = 0 then Po (some (.int (cq_l N n s n 0 (-9) (-9)).1)) N' else Po (some (.int (cq_l N n s n 0 (-9) (-9)).2)) N') : G 18 [some (.ref 30), some (.int y), none, none] [] (jw N z g h p q) := by
  have key := lq_X9_cure hG (y := y) (p := p) (q := q) hc n 0 (up_f (up_f z 27 (-9)) 28 (-9)) g h none (by omega) hh
  refine ab_go hG [32] 80 _ _ _ _ ?_
  simp (decide := true) only [ew_s, ew_0, Option.toList_some, Option.toList_none, List.cons_append, List.nil_append, true_and, and_true, List.length_cons, List.length_nil, Nat.reduceAdd, Nat.reduceLeDiff, Int32.reduceAdd, Int32.reduceSub, Int32.reduceMul, Int32.reduceLT, Int32.reduceLE, Int32.reduceToNatClampNeg, ↓reduceIte, and_self, si_1, si_2, sl_1, sl_2, false_and, and_false, dX9_cure_0, dX9_cure_1, dX9_cure_2, dX9_cure_5, dX9_cure_6, dX9_cure_7, dX9_cure_8, dX9_cure_9, dX9_cure_12, dX9_cure_15, dX9_cure_17, dX9_cure_18, dX9_cure_19, dX9_cure_21, dX9_cure_24, dX9_cure_25, dX9_cure_27, dX9_cure_30, dX9_cure_31, dX9_cure_32, dX9_cure_33, dX9_cure_34, dX9_cure_37, dX9_cure_40, dX9_cure_41, dX9_cure_44, dX9_cure_45, dX9_cure_46, dX9_cure_47, dX9_cure_48, dX9_cure_51, dX9_cure_52, dX9_cure_55, dX9_cure_56, dX9_cure_59, dX9_cure_60, dX9_cure_61, dX9_cure_62, dX9_cure_63, dX9_cure_64, dX9_cure_65, dX9_cure_66, dX9_cure_67, dX9_cure_68, dX9_cure_71, dX9_cure_72, dX9_cure_73, dX9_cure_75, dX9_cure_78, dX9_cure_79, dX9_cure_82, dX9_cure_84, dX9_cure_87, dX9_cure_88, dX9_cure_89, dX9_cure_92, dX9_cure_95, dX9_cure_96, dX9_cure_97, dX9_cure_100, dX9_cure_101, dX9_cure_102, dX9_cure_105, dX9_cure_108, dX9_cure_111, dX9_cure_112, dX9_cure_115, dX9_cure_116, dX9_cure_119, dX9_cure_122, dX9_cure_123, dX9_cure_126, ca_X9_cure_169, ca_X9_cure_176, ca_X9_cure_72, e_aload_n0, e_calls, e_callv, e_dup2, e_getfield, e_i2l, e_iadd, e_iaload, e_iastore, e_iload_n1, e_iload_n2, e_iload_n3, e_ireturn, e_istore_n2i, e_istore_n2n, e_istore_n2r, e_istore_n3i, e_istore_n3n, e_istore_n3r, e_isub, e_lconst0, e_lconst1, e_putfield, ea_38, ea_39, ea_40, es_38, es_39, es_40, gf_X9_179_30, gf_X9_182_30, gf_X9_31_30, gf_X9_34_30, gf_X9_69_30, j_bp_m2, j_bp_m9, j_goto_108_m76, j_goto_119_7, j_ic_0, j_ic_1, j_ic_2, j_icmp_eq_75_30, j_icmp_eq_84_11, j_icmp_ge_37_74, j_icmp_ge_92_13, j_if_le_48_57, j_if_ne_112_10, j_if_ne_12_6, j_ii_2_1, pf_X9_179_30, pf_X9_182_30, pf_X9_65_30, q_X9_in, jw_30_0, jw_30_2, jw_30_4, jw_30_7, jw_30_10, jw_30_19, jw_30_22, jw_30_27, jw_30_28, jw_30_29, jw_30_30, jw_30_31, jw_30_32, jw_30_35, jw_32, jw_32f, jw_33, jw_33f, jw_34, jw_34f, jw_35, jw_35f, jw_38, jw_38f, jw_41, jw_41f, jw_42, jw_42f, jw_43, jw_43f, jw_44, jw_44f, jw_45, jw_45f, jw_46, jw_46f, jw_39, jw_39f, jw_s39, jw_w39, jw_40, jw_40f, jw_s40, jw_w40, jw_47, jw_47f, jw_s47, jw_w47, jw_48, jw_48f, jw_s48, jw_w48, jw_z27, jw_z28, jw_z29, jw_z30, jw_z31, jw_z32, jw_z35, jw_l, uz_27_27, uz_27_28, uz_27_29, uz_27_30, uz_27_31, uz_27_32, uz_27_35, uz_28_27, uz_28_28, uz_28_29, uz_28_30, uz_28_31, uz_28_32, uz_28_35, uz_29_27, uz_29_28, uz_29_29, uz_29_30, uz_29_31, uz_29_32, uz_29_35, uz_30_27, uz_30_28, uz_30_29, uz_30_30, uz_30_31, uz_30_32, uz_30_35, uz_31_27, uz_31_28, uz_31_29, uz_31_30, uz_31_31, uz_31_32, uz_31_35, uz_32_27, uz_32_28, uz_32_29, uz_32_30, uz_32_31, uz_32_32, uz_32_35, uz_35_27, uz_35_28, uz_35_29, uz_35_30, uz_35_31, uz_35_32, uz_35_35, ab_rn, bi_0, bi_1, ite_not]
  exact key
set_option maxRecDepth 20000 in
set_option maxHeartbeats 4000000 in
theorem c_X9_cure {l : Launch} : ab_ctr l yX9_cure cX9_cure 4 (some .int) 5 117 s_X9_cure := by
  refine ab_met x_X9_cure (by decide) rfl fo_X9 ko_X9 so_X9 rfl (ab_cs_cons (ab_kS c_X9_in ml_X9_72 v_X9_in ⟨rfl, rfl⟩) (ab_cs_cons (ab_kV c_X9_begin ml_X9_169 v_X9_begin ⟨rfl, rfl⟩ r_X9_begin) (ab_cs_cons (ab_kV c_X9_comesOf ml_X9_176 v_X9_comesOf ⟨rfl, rfl⟩ r_X9_comesOf) ab_cs_nil))) ?_ ?_
  · intro as M Po h
    unfold s_X9_cure at h
    split at h
    · simp [ab_e0]
    · exact h.elim
  · intro as M Po h G hG
    unfold s_X9_cure at h
    split at h
    · simp only [ab_en, ab_e0, List.length_cons, List.length_nil, Nat.reduceAdd, Nat.reduceSub, List.replicate, List.cons_append, List.nil_append]
      rename_i y
      obtain ⟨n, s, hc, h⟩ := h
      by_cases h2 : ¬ y < 0 ∧ ¬ 1 < y
      · rw [if_pos h2] at h
        have key := lA_X9_cure hG (N := t0 M) (z := (t0 M).1 30) (g := (t0 M).1 39) (h := (t0 M).1 40) (p := (t0 M).1 47) (q := (t0 M).1 48) hc h
        rw [jw_id] at key
        refine ab_go hG [18] 80 _ _ _ _ ?_
        simp (decide := true) only [ew_s, ew_0, Option.toList_some, Option.toList_none, List.cons_append, List.nil_append, true_and, and_true, List.length_cons, List.length_nil, Nat.reduceAdd, Nat.reduceLeDiff, Int32.reduceAdd, Int32.reduceSub, Int32.reduceMul, Int32.reduceLT, Int32.reduceLE, Int32.reduceToNatClampNeg, ↓reduceIte, and_self, si_1, si_2, sl_1, sl_2, false_and, and_false, dX9_cure_0, dX9_cure_1, dX9_cure_2, dX9_cure_5, dX9_cure_6, dX9_cure_7, dX9_cure_8, dX9_cure_9, dX9_cure_12, dX9_cure_15, dX9_cure_17, dX9_cure_18, dX9_cure_19, dX9_cure_21, dX9_cure_24, dX9_cure_25, dX9_cure_27, dX9_cure_30, dX9_cure_31, dX9_cure_32, dX9_cure_33, dX9_cure_34, dX9_cure_37, dX9_cure_40, dX9_cure_41, dX9_cure_44, dX9_cure_45, dX9_cure_46, dX9_cure_47, dX9_cure_48, dX9_cure_51, dX9_cure_52, dX9_cure_55, dX9_cure_56, dX9_cure_59, dX9_cure_60, dX9_cure_61, dX9_cure_62, dX9_cure_63, dX9_cure_64, dX9_cure_65, dX9_cure_66, dX9_cure_67, dX9_cure_68, dX9_cure_71, dX9_cure_72, dX9_cure_73, dX9_cure_75, dX9_cure_78, dX9_cure_79, dX9_cure_82, dX9_cure_84, dX9_cure_87, dX9_cure_88, dX9_cure_89, dX9_cure_92, dX9_cure_95, dX9_cure_96, dX9_cure_97, dX9_cure_100, dX9_cure_101, dX9_cure_102, dX9_cure_105, dX9_cure_108, dX9_cure_111, dX9_cure_112, dX9_cure_115, dX9_cure_116, dX9_cure_119, dX9_cure_122, dX9_cure_123, dX9_cure_126, ca_X9_cure_169, ca_X9_cure_176, ca_X9_cure_72, e_aload_n0, e_calls, e_callv, e_dup2, e_getfield, e_i2l, e_iadd, e_iaload, e_iastore, e_iload_n1, e_iload_n2, e_iload_n3, e_ireturn, e_istore_n2i, e_istore_n2n, e_istore_n2r, e_istore_n3i, e_istore_n3n, e_istore_n3r, e_isub, e_lconst0, e_lconst1, e_putfield, ea_38, ea_39, ea_40, es_38, es_39, es_40, gf_X9_179_30, gf_X9_182_30, gf_X9_31_30, gf_X9_34_30, gf_X9_69_30, j_bp_m2, j_bp_m9, j_goto_108_m76, j_goto_119_7, j_ic_0, j_ic_1, j_ic_2, j_icmp_eq_75_30, j_icmp_eq_84_11, j_icmp_ge_37_74, j_icmp_ge_92_13, j_if_le_48_57, j_if_ne_112_10, j_if_ne_12_6, j_ii_2_1, pf_X9_179_30, pf_X9_182_30, pf_X9_65_30, q_X9_in, wi_0, wi_lt, wi_g255, wi_g40, wi_g20, wi_g4, wi_g3, wi_g9, wi_g10, wi_g30, wi_g1, wi_l255, wi_l40, wi_l20, wi_l4, wi_l3, wi_l9, wi_l10, wi_l30, wi_l1, t0_r, ab_rn, bi_0, bi_1, ite_not]
        rw [if_pos h2]
        exact key
      · rw [if_neg h2] at h
        refine ab_go hG [18] 80 _ _ _ _ ?_
        simp (decide := true) only [ew_s, ew_0, Option.toList_some, Option.toList_none, List.cons_append, List.nil_append, true_and, and_true, List.length_cons, List.length_nil, Nat.reduceAdd, Nat.reduceLeDiff, Int32.reduceAdd, Int32.reduceSub, Int32.reduceMul, Int32.reduceLT, Int32.reduceLE, Int32.reduceToNatClampNeg, ↓reduceIte, and_self, si_1, si_2, sl_1, sl_2, false_and, and_false, dX9_cure_0, dX9_cure_1, dX9_cure_2, dX9_cure_5, dX9_cure_6, dX9_cure_7, dX9_cure_8, dX9_cure_9, dX9_cure_12, dX9_cure_15, dX9_cure_17, dX9_cure_18, dX9_cure_19, dX9_cure_21, dX9_cure_24, dX9_cure_25, dX9_cure_27, dX9_cure_30, dX9_cure_31, dX9_cure_32, dX9_cure_33, dX9_cure_34, dX9_cure_37, dX9_cure_40, dX9_cure_41, dX9_cure_44, dX9_cure_45, dX9_cure_46, dX9_cure_47, dX9_cure_48, dX9_cure_51, dX9_cure_52, dX9_cure_55, dX9_cure_56, dX9_cure_59, dX9_cure_60, dX9_cure_61, dX9_cure_62, dX9_cure_63, dX9_cure_64, dX9_cure_65, dX9_cure_66, dX9_cure_67, dX9_cure_68, dX9_cure_71, dX9_cure_72, dX9_cure_73, dX9_cure_75, dX9_cure_78, dX9_cure_79, dX9_cure_82, dX9_cure_84, dX9_cure_87, dX9_cure_88, dX9_cure_89, dX9_cure_92, dX9_cure_95, dX9_cure_96, dX9_cure_97, dX9_cure_100, dX9_cure_101, dX9_cure_102, dX9_cure_105, dX9_cure_108, dX9_cure_111, dX9_cure_112, dX9_cure_115, dX9_cure_116, dX9_cure_119, dX9_cure_122, dX9_cure_123, dX9_cure_126, ca_X9_cure_169, ca_X9_cure_176, ca_X9_cure_72, e_aload_n0, e_calls, e_callv, e_dup2, e_getfield, e_i2l, e_iadd, e_iaload, e_iastore, e_iload_n1, e_iload_n2, e_iload_n3, e_ireturn, e_istore_n2i, e_istore_n2n, e_istore_n2r, e_istore_n3i, e_istore_n3n, e_istore_n3r, e_isub, e_lconst0, e_lconst1, e_putfield, ea_38, ea_39, ea_40, es_38, es_39, es_40, gf_X9_179_30, gf_X9_182_30, gf_X9_31_30, gf_X9_34_30, gf_X9_69_30, j_bp_m2, j_bp_m9, j_goto_108_m76, j_goto_119_7, j_ic_0, j_ic_1, j_ic_2, j_icmp_eq_75_30, j_icmp_eq_84_11, j_icmp_ge_37_74, j_icmp_ge_92_13, j_if_le_48_57, j_if_ne_112_10, j_if_ne_12_6, j_ii_2_1, pf_X9_179_30, pf_X9_182_30, pf_X9_65_30, q_X9_in, wi_0, wi_lt, wi_g255, wi_g40, wi_g20, wi_g4, wi_g3, wi_g9, wi_g10, wi_g30, wi_g1, wi_l255, wi_l40, wi_l20, wi_l4, wi_l3, wi_l9, wi_l10, wi_l30, wi_l1, t0_r, ab_rn, bi_0, bi_1, ite_not]
        rw [if_neg h2]
        exact h
    · exact h.elim

