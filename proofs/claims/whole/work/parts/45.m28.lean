/-! METHODS: the model, its first calls -/
/-- nothing is thrown -/
def t0 (M : ab_M) : ab_M := ab_si M 30 0 0
theorem t0_r {M : ab_M} : ab_si M 30 0 0 = t0 M := rfl
theorem t0_30_2 {M : ab_M} : (t0 M).1 30 2 = M.1 30 2 := rfl
theorem t0_30_3 {M : ab_M} : (t0 M).1 30 3 = M.1 30 3 := rfl
theorem t0_30_4 {M : ab_M} : (t0 M).1 30 4 = M.1 30 4 := rfl
theorem t0_30_7 {M : ab_M} : (t0 M).1 30 7 = M.1 30 7 := rfl
theorem t0_30_10 {M : ab_M} : (t0 M).1 30 10 = M.1 30 10 := rfl
theorem t0_30_11 {M : ab_M} : (t0 M).1 30 11 = M.1 30 11 := rfl
theorem t0_30_13 {M : ab_M} : (t0 M).1 30 13 = M.1 30 13 := rfl
theorem t0_30_19 {M : ab_M} : (t0 M).1 30 19 = M.1 30 19 := rfl
theorem t0_30_22 {M : ab_M} : (t0 M).1 30 22 = M.1 30 22 := rfl
theorem t0_30_26 {M : ab_M} : (t0 M).1 30 26 = M.1 30 26 := rfl
theorem t0_30_27 {M : ab_M} : (t0 M).1 30 27 = M.1 30 27 := rfl
theorem t0_30_28 {M : ab_M} : (t0 M).1 30 28 = M.1 30 28 := rfl
theorem t0_30_29 {M : ab_M} : (t0 M).1 30 29 = M.1 30 29 := rfl
theorem t0_30_30 {M : ab_M} : (t0 M).1 30 30 = M.1 30 30 := rfl
theorem t0_30_31 {M : ab_M} : (t0 M).1 30 31 = M.1 30 31 := rfl
theorem t0_30_32 {M : ab_M} : (t0 M).1 30 32 = M.1 30 32 := rfl
theorem t0_30_35 {M : ab_M} : (t0 M).1 30 35 = M.1 30 35 := rfl
theorem t0_31 {M : ab_M} {b : Nat} : (t0 M).1 31 b = M.1 31 b := rfl
theorem t0_32 {M : ab_M} {b : Nat} : (t0 M).1 32 b = M.1 32 b := rfl
theorem t0_33 {M : ab_M} {b : Nat} : (t0 M).1 33 b = M.1 33 b := rfl
theorem t0_34 {M : ab_M} {b : Nat} : (t0 M).1 34 b = M.1 34 b := rfl
theorem t0_35 {M : ab_M} {b : Nat} : (t0 M).1 35 b = M.1 35 b := rfl
theorem t0_36 {M : ab_M} {b : Nat} : (t0 M).1 36 b = M.1 36 b := rfl
theorem t0_37 {M : ab_M} {b : Nat} : (t0 M).1 37 b = M.1 37 b := rfl
theorem t0_38 {M : ab_M} {b : Nat} : (t0 M).1 38 b = M.1 38 b := rfl
theorem t0_39 {M : ab_M} {b : Nat} : (t0 M).1 39 b = M.1 39 b := rfl
theorem t0_40 {M : ab_M} {b : Nat} : (t0 M).1 40 b = M.1 40 b := rfl
theorem t0_41 {M : ab_M} {b : Nat} : (t0 M).1 41 b = M.1 41 b := rfl
theorem t0_42 {M : ab_M} {b : Nat} : (t0 M).1 42 b = M.1 42 b := rfl
theorem t0_43 {M : ab_M} {b : Nat} : (t0 M).1 43 b = M.1 43 b := rfl
theorem t0_44 {M : ab_M} {b : Nat} : (t0 M).1 44 b = M.1 44 b := rfl
theorem t0_45 {M : ab_M} {b : Nat} : (t0 M).1 45 b = M.1 45 b := rfl
theorem t0_46 {M : ab_M} {b : Nat} : (t0 M).1 46 b = M.1 46 b := rfl
theorem t0_47 {M : ab_M} {b : Nat} : (t0 M).1 47 b = M.1 47 b := rfl
theorem t0_48 {M : ab_M} {b : Nat} : (t0 M).1 48 b = M.1 48 b := rfl
theorem t0_l {M : ab_M} : (t0 M).2 = M.2 := rfl
theorem t0_38f {M : ab_M} : (t0 M).1 38 = M.1 38 := rfl
theorem t0_39f {M : ab_M} : (t0 M).1 39 = M.1 39 := rfl
theorem t0_40f {M : ab_M} : (t0 M).1 40 = M.1 40 := rfl
theorem ite_i {c : Prop} [Decidable c] {A B : Prop} (h1 : c → A) (h2 : ¬ c → B) : if c then A else B := by
  split
  · rename_i h
    exact h1 h
  · rename_i h
    exact h2 h
theorem t0_sm {M : ab_M} : sm_M (t0 M) = sm_M M := rfl
theorem t0_lm {M : ab_M} : lm_l (t0 M) = lm_l M := by
  funext P w i f
  exact lm_env (M := M) (N := t0 M) rfl P w i f
theorem t0_sa {M : ab_M} : sa_l (t0 M) = sa_l M := by
  funext x n i f
  exact sa_env (M := M) (N := t0 M) rfl x n i f
theorem t0_bg {M : ab_M} : bg_M (t0 M) = bg_M M := by
  funext x
  exact bg_env (M := M) (N := t0 M) rfl x
theorem t0_hk {M : ab_M} : hk_M (t0 M) = hk_M M := by
  funext P n
  exact hk_env (M := M) (N := t0 M) rfl P n
theorem t0_p {M : ab_M} {p : Nat} (hp : p = 38 ∨ p = 39 ∨ p = 40) : (t0 M).1 p = M.1 p := by
  rcases hp with rfl | rfl | rfl <;> rfl
def s_X9_write : ab_Sem := fun as M Po => match as with
  | [.ref 30, .int x] => if ¬ x < 0 ∧ ¬ 255 < x then (∃ z : Nat, z ≤ 48 ∧ M.1 30 2 = nI z ∧ (if z = 48 then Po (some (.int (-4))) (t0 M) else Po (some (.int (nI (z + 1)))) (ab_si (ab_si (t0 M) 31 z x) 30 2 (nI (z + 1))))) else Po (some (.int (-2))) (t0 M)
  | _ => False
theorem q_X9_write {x : Int32} {M : ab_M} {Po : ab_P} : s_X9_write [.ref 30, .int x] M Po = (if ¬ x < 0 ∧ ¬ 255 < x then (∃ z : Nat, z ≤ 48 ∧ M.1 30 2 = nI z ∧ (if z = 48 then Po (some (.int (-4))) (t0 M) else Po (some (.int (nI (z + 1)))) (ab_si (ab_si (t0 M) 31 z x) 30 2 (nI (z + 1))))) else Po (some (.int (-2))) (t0 M)) := rfl
abbrev x_X9_write : ab_X := (some .int, fl_X9, [(145, 3, s_X9_in)], kl_X9, gs_X9, ab_ros)
theorem ca_X9_write_72 {v0 v1 v2 : Value} {st : List Value} {M : ab_M} {k : List Value → ab_M → Prop} : ab_ca x_X9_write (2 * 72 + 1) (v2 :: v1 :: v0 :: st) M k = (st.length ≤ 4 ∧ s_X9_in [v0, v1, v2] M (fun r M' => k (r.toList ++ st) M')) := rfl
theorem r_X9_write : ∀ (as : List Value) (M : ab_M) (Po : ab_P), s_X9_write as M Po → ∃ (q : Nat) (as' : List Value) (ci : Nat) (T : u_T) (N : Nat) (fs : List ab_F), as = .ref q :: as' ∧ ab_sh[q]? = some (.inl (ci, fs)) ∧ vwCl[ci]? = some (yX9_write.cls, T, N) := by
  intro as M Po h
  unfold s_X9_write at h
  split at h
  · first | exact ⟨_, _, 9, _, _, _, rfl, rfl, rfl⟩ | (rcases h.1 with rfl | rfl | rfl <;> exact ⟨_, _, 9, _, _, _, rfl, rfl, rfl⟩)
  · exact h.elim
theorem wr_2 {M : ab_M} {z : Nat} {x : Int32} : (ab_si (t0 M) 31 z x).1 30 2 = M.1 30 2 := rfl
theorem wr_3 {M : ab_M} {z : Int32} : (ab_si M 30 2 z).1 30 2 = z := rfl
set_option maxRecDepth 20000 in
set_option maxHeartbeats 4000000 in
theorem c_X9_write {l : Launch} : ab_ctr l yX9_write cX9_write 2 (some .int) 1 25 s_X9_write := by
  refine ab_met x_X9_write (by decide) rfl fo_X9 ko_X9 so_X9 rfl (ab_cs_cons (ab_kS c_X9_in ml_X9_72 v_X9_in ⟨rfl, rfl⟩) ab_cs_nil) ?_ ?_
  · intro as M Po h
    unfold s_X9_write at h
    split at h
    · simp [ab_e0]
    · exact h.elim
  · intro as M Po h G hG
    unfold s_X9_write at h
    split at h
    · simp only [ab_en, ab_e0, List.length_cons, List.length_nil, Nat.reduceAdd, Nat.reduceSub, List.replicate, List.cons_append, List.nil_append]
      rename_i x
      by_cases h1 : ¬ x < 0 ∧ ¬ 255 < x
      · rw [if_pos h1] at h
        obtain ⟨z, hz, hm, h⟩ := h
        by_cases h2 : z = 48
        · rw [if_pos h2] at h
          subst h2
          have h48 : nI 48 = 48 := rfl
          refine ab_go hG [] 80 _ _ _ _ ?_
          simp (decide := true) only [ew_n, ew_0, Option.toList_some, Option.toList_none, List.cons_append, List.nil_append, true_and, and_true, List.length_cons, List.length_nil, Nat.reduceAdd, Nat.reduceLeDiff, Int32.reduceAdd, Int32.reduceSub, Int32.reduceMul, Int32.reduceLT, Int32.reduceLE, Int32.reduceToNatClampNeg, ↓reduceIte, and_self, si_1, si_2, sl_1, sl_2, false_and, and_false, dX9_write_0, dX9_write_1, dX9_write_2, dX9_write_5, dX9_write_6, dX9_write_7, dX9_write_8, dX9_write_11, dX9_write_14, dX9_write_17, dX9_write_19, dX9_write_20, dX9_write_21, dX9_write_24, dX9_write_26, dX9_write_29, dX9_write_31, dX9_write_32, dX9_write_33, dX9_write_36, dX9_write_37, dX9_write_40, dX9_write_41, dX9_write_42, dX9_write_43, dX9_write_44, dX9_write_47, dX9_write_48, dX9_write_49, dX9_write_52, dX9_write_53, dX9_write_56, ca_X9_write_72, e_aload_n0, e_calls, e_dupi, e_dupr, e_getfield, e_i2l, e_iadd, e_iastore, e_iload_n1, e_ireturn, e_kl_X9_76, e_lconst0, e_putfield, es_31, gf_X9_78_30, gf_X9_7_30, j_bp_48, j_bp_m2, j_bp_m4, j_ic_0, j_ic_1, j_icmp_ne_26_6, j_if_ne_14_6, pf_X9_65_30, pf_X9_78_30, q_X9_in, wi_0, wi_lt, wi_g255, wi_g40, wi_g20, wi_g4, wi_g3, wi_g9, wi_g10, wi_g30, wi_g1, wi_l255, wi_l40, wi_l20, wi_l4, wi_l3, wi_l9, wi_l10, wi_l30, wi_l1, t0_r, t0_l, t0_38f, t0_39f, t0_40f, t0_sm, t0_lm, t0_sa, t0_bg, t0_hk, t0_30_2, t0_30_3, t0_30_4, t0_30_7, t0_30_10, t0_30_11, t0_30_13, t0_30_19, t0_30_22, t0_30_26, t0_30_27, t0_30_28, t0_30_29, t0_30_30, t0_30_31, t0_30_32, t0_30_35, t0_31, t0_32, t0_33, t0_34, t0_35, t0_36, t0_37, t0_38, t0_39, t0_40, t0_41, t0_42, t0_43, t0_44, t0_45, t0_46, t0_47, t0_48, hm, h48, ab_rn, bi_0, bi_1, ite_not]
          rw [if_pos h1]
          exact h
        · rw [if_neg h2] at h
          have hne : ¬ nI z = 48 := by
            rw [show (48 : Int32) = nI 48 from rfl, nI_eqz (by omega) (by omega)]
            exact h2
          obtain ⟨e1, e2⟩ := cI (i := z) (b := 48) (by omega) (by omega)
          refine ab_go hG [] 80 _ _ _ _ ?_
          simp (decide := true) only [ew_n, ew_0, Option.toList_some, Option.toList_none, List.cons_append, List.nil_append, true_and, and_true, List.length_cons, List.length_nil, Nat.reduceAdd, Nat.reduceLeDiff, Int32.reduceAdd, Int32.reduceSub, Int32.reduceMul, Int32.reduceLT, Int32.reduceLE, Int32.reduceToNatClampNeg, ↓reduceIte, and_self, si_1, si_2, sl_1, sl_2, false_and, and_false, dX9_write_0, dX9_write_1, dX9_write_2, dX9_write_5, dX9_write_6, dX9_write_7, dX9_write_8, dX9_write_11, dX9_write_14, dX9_write_17, dX9_write_19, dX9_write_20, dX9_write_21, dX9_write_24, dX9_write_26, dX9_write_29, dX9_write_31, dX9_write_32, dX9_write_33, dX9_write_36, dX9_write_37, dX9_write_40, dX9_write_41, dX9_write_42, dX9_write_43, dX9_write_44, dX9_write_47, dX9_write_48, dX9_write_49, dX9_write_52, dX9_write_53, dX9_write_56, ca_X9_write_72, e_aload_n0, e_calls, e_dupi, e_dupr, e_getfield, e_i2l, e_iadd, e_iastore, e_iload_n1, e_ireturn, e_kl_X9_76, e_lconst0, e_putfield, es_31, gf_X9_78_30, gf_X9_7_30, j_bp_48, j_bp_m2, j_bp_m4, j_ic_0, j_ic_1, j_icmp_ne_26_6, j_if_ne_14_6, pf_X9_65_30, pf_X9_78_30, q_X9_in, wi_0, wi_lt, wi_g255, wi_g40, wi_g20, wi_g4, wi_g3, wi_g9, wi_g10, wi_g30, wi_g1, wi_l255, wi_l40, wi_l20, wi_l4, wi_l3, wi_l9, wi_l10, wi_l30, wi_l1, t0_r, t0_l, t0_38f, t0_39f, t0_40f, t0_sm, t0_lm, t0_sa, t0_bg, t0_hk, t0_30_2, t0_30_3, t0_30_4, t0_30_7, t0_30_10, t0_30_11, t0_30_13, t0_30_19, t0_30_22, t0_30_26, t0_30_27, t0_30_28, t0_30_29, t0_30_30, t0_30_31, t0_30_32, t0_30_35, t0_31, t0_32, t0_33, t0_34, t0_35, t0_36, t0_37, t0_38, t0_39, t0_40, t0_41, t0_42, t0_43, t0_44, t0_45, t0_46, t0_47, t0_48, hm, hne, e1, nI_1, wr_2, wr_3, ab_rn, bi_0, bi_1, ite_not]
          rw [if_pos h1]
          exact ⟨e2, h⟩
      · rw [if_neg h1] at h
        refine ab_go hG [] 80 _ _ _ _ ?_
        simp (decide := true) only [ew_n, ew_0, Option.toList_some, Option.toList_none, List.cons_append, List.nil_append, true_and, and_true, List.length_cons, List.length_nil, Nat.reduceAdd, Nat.reduceLeDiff, Int32.reduceAdd, Int32.reduceSub, Int32.reduceMul, Int32.reduceLT, Int32.reduceLE, Int32.reduceToNatClampNeg, ↓reduceIte, and_self, si_1, si_2, sl_1, sl_2, false_and, and_false, dX9_write_0, dX9_write_1, dX9_write_2, dX9_write_5, dX9_write_6, dX9_write_7, dX9_write_8, dX9_write_11, dX9_write_14, dX9_write_17, dX9_write_19, dX9_write_20, dX9_write_21, dX9_write_24, dX9_write_26, dX9_write_29, dX9_write_31, dX9_write_32, dX9_write_33, dX9_write_36, dX9_write_37, dX9_write_40, dX9_write_41, dX9_write_42, dX9_write_43, dX9_write_44, dX9_write_47, dX9_write_48, dX9_write_49, dX9_write_52, dX9_write_53, dX9_write_56, ca_X9_write_72, e_aload_n0, e_calls, e_dupi, e_dupr, e_getfield, e_i2l, e_iadd, e_iastore, e_iload_n1, e_ireturn, e_kl_X9_76, e_lconst0, e_putfield, es_31, gf_X9_78_30, gf_X9_7_30, j_bp_48, j_bp_m2, j_bp_m4, j_ic_0, j_ic_1, j_icmp_ne_26_6, j_if_ne_14_6, pf_X9_65_30, pf_X9_78_30, q_X9_in, wi_0, wi_lt, wi_g255, wi_g40, wi_g20, wi_g4, wi_g3, wi_g9, wi_g10, wi_g30, wi_g1, wi_l255, wi_l40, wi_l20, wi_l4, wi_l3, wi_l9, wi_l10, wi_l30, wi_l1, t0_r, t0_l, t0_38f, t0_39f, t0_40f, t0_sm, t0_lm, t0_sa, t0_bg, t0_hk, t0_30_2, t0_30_3, t0_30_4, t0_30_7, t0_30_10, t0_30_11, t0_30_13, t0_30_19, t0_30_22, t0_30_26, t0_30_27, t0_30_28, t0_30_29, t0_30_30, t0_30_31, t0_30_32, t0_30_35, t0_31, t0_32, t0_33, t0_34, t0_35, t0_36, t0_37, t0_38, t0_39, t0_40, t0_41, t0_42, t0_43, t0_44, t0_45, t0_46, t0_47, t0_48, ab_rn, bi_0, bi_1, ite_not]
        rw [if_neg h1]
        exact h
    · exact h.elim

def s_X9_wipe : ab_Sem := fun as M Po => match as with
  | [.ref 30] => Po (some (.int (M.1 30 2))) (ab_si (t0 M) 30 2 0)
  | _ => False
theorem q_X9_wipe {M : ab_M} {Po : ab_P} : s_X9_wipe [.ref 30] M Po = (Po (some (.int (M.1 30 2))) (ab_si (t0 M) 30 2 0)) := rfl
abbrev x_X9_wipe : ab_X := (some .int, fl_X9, [], kl_X9, gs_X9, ab_ros)
theorem r_X9_wipe : ∀ (as : List Value) (M : ab_M) (Po : ab_P), s_X9_wipe as M Po → ∃ (q : Nat) (as' : List Value) (ci : Nat) (T : u_T) (N : Nat) (fs : List ab_F), as = .ref q :: as' ∧ ab_sh[q]? = some (.inl (ci, fs)) ∧ vwCl[ci]? = some (yX9_wipe.cls, T, N) := by
  intro as M Po h
  unfold s_X9_wipe at h
  split at h
  · first | exact ⟨_, _, 9, _, _, _, rfl, rfl, rfl⟩ | (rcases h.1 with rfl | rfl | rfl <;> exact ⟨_, _, 9, _, _, _, rfl, rfl, rfl⟩)
  · exact h.elim
set_option maxRecDepth 20000 in
set_option maxHeartbeats 4000000 in
theorem c_X9_wipe {l : Launch} : ab_ctr l yX9_wipe cX9_wipe 2 (some .int) 0 0 s_X9_wipe := by
  refine ab_met x_X9_wipe (by decide) rfl fo_X9 ko_X9 so_X9 rfl ab_cs_nil ?_ ?_
  · intro as M Po h
    unfold s_X9_wipe at h
    split at h
    · simp [ab_e0]
    · exact h.elim
  · intro as M Po h G hG
    unfold s_X9_wipe at h
    split at h
    · refine ab_go hG [] 60 _ _ _ _ ?_
      simp only [ab_en, ab_e0, List.length_cons, List.length_nil, Nat.reduceAdd, Nat.reduceSub, List.replicate, List.cons_append, List.nil_append]
      simp (decide := true) only [ew_n, ew_0, Option.toList_some, Option.toList_none, List.cons_append, List.nil_append, true_and, and_true, List.length_cons, List.length_nil, Nat.reduceAdd, Nat.reduceLeDiff, Int32.reduceAdd, Int32.reduceSub, Int32.reduceMul, Int32.reduceLT, Int32.reduceLE, Int32.reduceToNatClampNeg, ↓reduceIte, and_self, si_1, si_2, sl_1, sl_2, false_and, and_false, dX9_wipe_0, dX9_wipe_1, dX9_wipe_2, dX9_wipe_5, dX9_wipe_6, dX9_wipe_9, dX9_wipe_10, dX9_wipe_11, dX9_wipe_12, dX9_wipe_15, dX9_wipe_16, e_aload_n0, e_getfield, e_iload_n1, e_ireturn, e_istore_n1i, e_istore_n1n, e_istore_n1r, e_putfield, gf_X9_78_30, j_ic_0, pf_X9_65_30, pf_X9_78_30, t0_r, t0_l, t0_38f, t0_39f, t0_40f, t0_sm, t0_lm, t0_sa, t0_bg, t0_hk, t0_30_2, t0_30_3, t0_30_4, t0_30_7, t0_30_10, t0_30_11, t0_30_13, t0_30_19, t0_30_22, t0_30_26, t0_30_27, t0_30_28, t0_30_29, t0_30_30, t0_30_31, t0_30_32, t0_30_35, t0_31, t0_32, t0_33, t0_34, t0_35, t0_36, t0_37, t0_38, t0_39, t0_40, t0_41, t0_42, t0_43, t0_44, t0_45, t0_46, t0_47, t0_48, ab_rn, bi_0, bi_1, ite_not]
      (repeat' split) <;> (try simp (decide := true) only [i0_le, *, not_false_eq_true, not_true_eq_false, and_self, true_and, and_true, or_false, false_or, or_true, true_or, false_and, and_false, not_and, ↓reduceIte] at h) <;> (try simp (decide := true) only [i0_le, *, not_false_eq_true, not_true_eq_false, and_self, true_and, and_true, or_false, false_or, or_true, true_or, false_and, and_false, not_and, ↓reduceIte]) <;> first | done | exact h | (exfalso; simp_all (decide := true) only [not_true_eq_false, not_false_eq_true, false_and, and_false, true_and, and_true]; done)
    · exact h.elim

def s_X9_fault : ab_Sem := fun as M Po => match as with
  | [.ref 30] => ∃ z : Nat, z ≤ 48 ∧ M.1 30 2 = nI z ∧ (if z = 0 ∨ ¬ M.1 31 0 = 65 then Po (some (.int 0)) (rd (t0 M) 0 0 0 (M.1 36) (M.1 37)) else ra_M (t0 M) z 48 1 0 0 (M.1 36) (M.1 37) (fun r p s m R Q => Po (some (.int r)) (rd (t0 M) p s m R Q)))
  | _ => False
theorem q_X9_fault {M : ab_M} {Po : ab_P} : s_X9_fault [.ref 30] M Po = (∃ z : Nat, z ≤ 48 ∧ M.1 30 2 = nI z ∧ (if z = 0 ∨ ¬ M.1 31 0 = 65 then Po (some (.int 0)) (rd (t0 M) 0 0 0 (M.1 36) (M.1 37)) else ra_M (t0 M) z 48 1 0 0 (M.1 36) (M.1 37) (fun r p s m R Q => Po (some (.int r)) (rd (t0 M) p s m R Q)))) := rfl
abbrev x_X9_fault : ab_X := (some .int, fl_X9, [(208, 1, s_X9_readArmy)], kl_X9, gs_X9, ab_ros)
theorem ca_X9_fault_104 {v0 : Value} {st : List Value} {M : ab_M} {k : List Value → ab_M → Prop} : ab_ca x_X9_fault (2 * 104) (v0 :: st) M k = (st.length ≤ 4 ∧ s_X9_readArmy [v0] M (fun r M' => k (r.toList ++ st) M')) := rfl
theorem r_X9_fault : ∀ (as : List Value) (M : ab_M) (Po : ab_P), s_X9_fault as M Po → ∃ (q : Nat) (as' : List Value) (ci : Nat) (T : u_T) (N : Nat) (fs : List ab_F), as = .ref q :: as' ∧ ab_sh[q]? = some (.inl (ci, fs)) ∧ vwCl[ci]? = some (yX9_fault.cls, T, N) := by
  intro as M Po h
  unfold s_X9_fault at h
  split at h
  · first | exact ⟨_, _, 9, _, _, _, rfl, rfl, rfl⟩ | (rcases h.1 with rfl | rfl | rfl <;> exact ⟨_, _, 9, _, _, _, rfl, rfl, rfl⟩)
  · exact h.elim
set_option maxRecDepth 20000 in
set_option maxHeartbeats 4000000 in
theorem c_X9_fault {l : Launch} : ab_ctr l yX9_fault cX9_fault 1 (some .int) 5 111 s_X9_fault := by
  refine ab_met x_X9_fault (by decide) rfl fo_X9 ko_X9 so_X9 rfl (ab_cs_cons (ab_kV c_X9_readArmy ml_X9_104 v_X9_readArmy ⟨rfl, rfl⟩ r_X9_readArmy) ab_cs_nil) ?_ ?_
  · intro as M Po h
    unfold s_X9_fault at h
    split at h
    · simp [ab_e0]
    · exact h.elim
  · intro as M Po h G hG
    unfold s_X9_fault at h
    split at h
    · simp only [ab_en, ab_e0, List.length_cons, List.length_nil, Nat.reduceAdd, Nat.reduceSub, List.replicate, List.cons_append, List.nil_append]
      obtain ⟨z, hz, hs, h⟩ := h
      refine ab_go hG [] 80 _ _ _ _ ?_
      simp (decide := true) only [ew_n, ew_0, Option.toList_some, Option.toList_none, List.cons_append, List.nil_append, true_and, and_true, List.length_cons, List.length_nil, Nat.reduceAdd, Nat.reduceLeDiff, Int32.reduceAdd, Int32.reduceSub, Int32.reduceMul, Int32.reduceLT, Int32.reduceLE, Int32.reduceToNatClampNeg, ↓reduceIte, and_self, si_1, si_2, sl_1, sl_2, false_and, and_false, dX9_fault_0, dX9_fault_1, dX9_fault_2, dX9_fault_5, dX9_fault_6, dX9_fault_9, ca_X9_fault_104, e_aload_n0, e_callv, e_ireturn, e_putfield, j_ic_0, pf_X9_65_30, q_X9_readArmy, t0_r, ab_rn, bi_0, bi_1, ite_not]
      exact ⟨z, hz, hs, h⟩
    · exact h.elim

theorem ra_mono {M : ab_M} {z : Nat} {K L : rk_T} (hk : ∀ r p s m R Q, s ≤ 8 → m ≤ 5 → K r p s m R Q → L r p s m R Q) : ∀ (j p s m : Nat) (R Q : Nat → Int32), s ≤ 8 → m ≤ 5 → ra_M M z j p s m R Q K → ra_M M z j p s m R Q L
  | 0, p, s, m, R, Q, h8, h5, h => hk _ _ _ _ _ _ h8 h5 h
  | j + 1, p, s, m, R, Q, h8, h5, h => by
    unfold ra_M at h ⊢
    split
    · rename_i h1
      rw [if_pos h1] at h
      refine rt_mono h8 h5 (fun r p s m R Q hr hh => ?_) h
      obtain ⟨_, h8, h5⟩ := hr
      split
      · rename_i h2
        rw [if_pos h2] at hh
        exact hk _ _ _ _ _ _ h8 h5 hh
      · rename_i h2
        rw [if_neg h2] at hh
        exact ra_mono hk j _ _ _ _ _ h8 h5 hh
    · rename_i h1
      rw [if_neg h1] at h
      exact hk _ _ _ _ _ _ h8 h5 h
/-- the memory while the army is laid out -/
def aw (N : ab_M) (s m : Nat) (e : Int32) (l g pc kd pg : Nat → Int32) : ab_M := (fun a b => if a = 30 then (if b = 4 then nI s else if b = 7 then nI m else if b = 10 then e else N.1 30 b) else if a = 32 then l b else if a = 33 then g b else if a = 34 then pc b else if a = 35 then kd b else if a = 38 then pg b else N.1 a b, N.2)
theorem aw_4 {N : ab_M} {s m : Nat} {e : Int32} {l g pc kd pg : Nat → Int32} : (aw N s m e l g pc kd pg).1 30 4 = nI s := rfl
theorem aw_7 {N : ab_M} {s m : Nat} {e : Int32} {l g pc kd pg : Nat → Int32} : (aw N s m e l g pc kd pg).1 30 7 = nI m := rfl
theorem aw_10 {N : ab_M} {s m : Nat} {e : Int32} {l g pc kd pg : Nat → Int32} : (aw N s m e l g pc kd pg).1 30 10 = e := rfl
theorem aw_32 {N : ab_M} {s m : Nat} {e : Int32} {l g pc kd pg : Nat → Int32} {b : Nat} : (aw N s m e l g pc kd pg).1 32 b = l b := rfl
theorem aw_36 {N : ab_M} {s m : Nat} {e : Int32} {l g pc kd pg : Nat → Int32} {b : Nat} : (aw N s m e l g pc kd pg).1 36 b = N.1 36 b := rfl
theorem aw_37 {N : ab_M} {s m : Nat} {e : Int32} {l g pc kd pg : Nat → Int32} {b : Nat} : (aw N s m e l g pc kd pg).1 37 b = N.1 37 b := rfl
theorem aw_s32 {N : ab_M} {s m : Nat} {e : Int32} {l g pc kd pg : Nat → Int32} {k : Nat} {x : Int32} : ab_si (aw N s m e l g pc kd pg) 32 k x = aw N s m e (up_f l k x) g pc kd pg := by
  refine Prod.ext (funext fun a => funext fun b => ?_) rfl
  simp only [ab_si, aw, up_f]
  by_cases h1 : a = 32 <;> by_cases h2 : b = k <;> simp [h1, h2]
theorem aw_s33 {N : ab_M} {s m : Nat} {e : Int32} {l g pc kd pg : Nat → Int32} {k : Nat} {x : Int32} : ab_si (aw N s m e l g pc kd pg) 33 k x = aw N s m e l (up_f g k x) pc kd pg := by
  refine Prod.ext (funext fun a => funext fun b => ?_) rfl
  simp only [ab_si, aw, up_f]
  by_cases h1 : a = 33 <;> by_cases h2 : b = k <;> simp [h1, h2]
theorem aw_s34 {N : ab_M} {s m : Nat} {e : Int32} {l g pc kd pg : Nat → Int32} {k : Nat} {x : Int32} : ab_si (aw N s m e l g pc kd pg) 34 k x = aw N s m e l g (up_f pc k x) kd pg := by
  refine Prod.ext (funext fun a => funext fun b => ?_) rfl
  simp only [ab_si, aw, up_f]
  by_cases h1 : a = 34 <;> by_cases h2 : b = k <;> simp [h1, h2]
theorem aw_s35 {N : ab_M} {s m : Nat} {e : Int32} {l g pc kd pg : Nat → Int32} {k : Nat} {x : Int32} : ab_si (aw N s m e l g pc kd pg) 35 k x = aw N s m e l g pc (up_f kd k x) pg := by
  refine Prod.ext (funext fun a => funext fun b => ?_) rfl
  simp only [ab_si, aw, up_f]
  by_cases h1 : a = 35 <;> by_cases h2 : b = k <;> simp [h1, h2]
theorem aw_s38 {N : ab_M} {s m : Nat} {e : Int32} {l g pc kd pg : Nat → Int32} {k : Nat} {x : Int32} : ab_si (aw N s m e l g pc kd pg) 38 k x = aw N s m e l g pc kd (up_f pg k x) := by
  refine Prod.ext (funext fun a => funext fun b => ?_) rfl
  simp only [ab_si, aw, up_f]
  by_cases h1 : a = 38 <;> by_cases h2 : b = k <;> simp [h1, h2]
theorem aw_s10 {N : ab_M} {s m : Nat} {e : Int32} {l g pc kd pg : Nat → Int32} {x : Int32} : ab_si (aw N s m e l g pc kd pg) 30 10 x = aw N s m x l g pc kd pg := by
  refine Prod.ext (funext fun a => funext fun b => ?_) rfl
  simp only [ab_si, aw]
  by_cases h1 : a = 30
  · subst h1
    by_cases h2 : b = 10
    · subst h2; rfl
    · simp [h2]
  · simp [h1]
theorem aw_0 {N : ab_M} {s m : Nat} : ab_si (ab_si (ab_si N 30 4 (nI s)) 30 7 (nI m)) 30 10 0 = aw N s m 0 (N.1 32) (N.1 33) (N.1 34) (N.1 35) (N.1 38) := by
  refine Prod.ext (funext fun a => funext fun b => ?_) rfl
  simp only [ab_si, aw]
  by_cases h1 : a = 30
  · subst h1
    by_cases h2 : b = 10
    · subst h2; rfl
    · by_cases h3 : b = 7
      · subst h3; rfl
      · by_cases h4 : b = 4
        · subst h4; rfl
        · simp [h2, h3, h4]
  · by_cases h2 : a = 32
    · subst h2; rfl
    · by_cases h3 : a = 33
      · subst h3; rfl
      · by_cases h4 : a = 34
        · subst h4; rfl
        · by_cases h5 : a = 35
          · subst h5; rfl
          · by_cases h6 : a = 38
            · subst h6; rfl
            · simp [h1, h2, h3, h4, h5, h6]
/-- every c-th of a row, from the d-th on, as far as k -/
def ev_k (R f : Nat → Int32) (c d k : Nat) : Nat → Int32 := fun b => if b < k then R (c * b + d) else f b
theorem ev_0 (R f : Nat → Int32) (c d : Nat) : ev_k R f c d 0 = f := by funext i; simp [ev_k]
theorem ev_s (R f : Nat → Int32) (c d k : Nat) : up_f (ev_k R f c d k) k (R (c * k + d)) = ev_k R f c d (k + 1) := by
  funext i
  simp only [up_f, ev_k]
  by_cases h : i = k
  · subst h
    rw [if_pos rfl, if_pos (by omega)]
  · rw [if_neg h]
    by_cases h2 : i < k
    · rw [if_pos h2, if_pos (by omega)]
    · rw [if_neg h2, if_neg (by omega)]
/-- the miles together; the page with its thorns, as far as k -/
def su_k (R : Nat → Int32) : Nat → Int32
  | 0 => 0
  | k + 1 => su_k R k + R (2 * k)
def tp_k (Q f : Nat → Int32) (k : Nat) : Nat → Int32 := fun b => if 2 ≤ b ∧ b < 2 + k then Q (3 * (b - 2) + 2) else f b
theorem tp_0 (Q f : Nat → Int32) : tp_k Q f 0 = f := by
  funext i
  have h : ¬ (2 ≤ i ∧ i < 2 + 0) := by omega
  simp only [tp_k, if_neg h]
theorem tp_s (Q f : Nat → Int32) (k : Nat) : up_f (tp_k Q f k) (2 + k) (Q (3 * k + 2)) = tp_k Q f (k + 1) := by
  funext i
  simp only [up_f, tp_k]
  by_cases h : i = 2 + k
  · subst h
    rw [if_pos rfl, if_pos (by omega), Nat.add_sub_cancel_left]
  · rw [if_neg h]
    by_cases h2 : 2 ≤ i ∧ i < 2 + k
    · rw [if_pos h2, if_pos (by omega)]
    · rw [if_neg h2, if_neg (by omega)]
def ar_M (N : ab_M) (s m : Nat) (R Q : Nat → Int32) : ab_M := ab_si (ab_si (ab_si (aw N s m (su_k R s) (ev_k R (N.1 32) 2 0 s) (ev_k R (N.1 33) 2 1 s) (ev_k Q (N.1 34) 3 0 m) (ev_k Q (N.1 35) 3 1 m) (tp_k Q (cp7 (fun _ => 0) (N.1 38)) m)) 30 19 0) 43 0 0) 43 1 0
theorem nar_0 : vp_nar .boolean 0 = 0 := by decide
theorem nar_1 : vp_nar .boolean 1 = 1 := by decide
def s_X9_army : ab_Sem := fun as M Po => match as with
  | [.ref 30] => ∃ z : Nat, z ≤ 48 ∧ M.1 30 2 = nI z ∧ (if z = 0 ∨ ¬ M.1 31 0 = 65 then Po (some (.int (-3))) (rd (t0 M) 0 0 0 (M.1 36) (M.1 37)) else ra_M (t0 M) z 48 1 0 0 (M.1 36) (M.1 37) (fun r p s m R Q => if r = -9 then Po (some (.int (10 * nI s + nI m))) (ar_M (rd (t0 M) p s m R Q) s m R Q) else Po (some (.int (-3))) (rd (t0 M) p s m R Q)))
  | _ => False
theorem q_X9_army {M : ab_M} {Po : ab_P} : s_X9_army [.ref 30] M Po = (∃ z : Nat, z ≤ 48 ∧ M.1 30 2 = nI z ∧ (if z = 0 ∨ ¬ M.1 31 0 = 65 then Po (some (.int (-3))) (rd (t0 M) 0 0 0 (M.1 36) (M.1 37)) else ra_M (t0 M) z 48 1 0 0 (M.1 36) (M.1 37) (fun r p s m R Q => if r = -9 then Po (some (.int (10 * nI s + nI m))) (ar_M (rd (t0 M) p s m R Q) s m R Q) else Po (some (.int (-3))) (rd (t0 M) p s m R Q)))) := rfl
abbrev x_X9_army : ab_X := (some .int, fl_X9, [(208, 1, s_X9_readArmy)], kl_X9, gs_X9, ab_ros)
theorem ca_X9_army_104 {v0 : Value} {st : List Value} {M : ab_M} {k : List Value → ab_M → Prop} : ab_ca x_X9_army (2 * 104) (v0 :: st) M k = (st.length ≤ 4 ∧ s_X9_readArmy [v0] M (fun r M' => k (r.toList ++ st) M')) := rfl
theorem r_X9_army : ∀ (as : List Value) (M : ab_M) (Po : ab_P), s_X9_army as M Po → ∃ (q : Nat) (as' : List Value) (ci : Nat) (T : u_T) (N : Nat) (fs : List ab_F), as = .ref q :: as' ∧ ab_sh[q]? = some (.inl (ci, fs)) ∧ vwCl[ci]? = some (yX9_army.cls, T, N) := by
  intro as M Po h
  unfold s_X9_army at h
  split at h
  · first | exact ⟨_, _, 9, _, _, _, rfl, rfl, rfl⟩ | (rcases h.1 with rfl | rfl | rfl <;> exact ⟨_, _, 9, _, _, _, rfl, rfl, rfl⟩)
  · exact h.elim
set_option maxRecDepth 20000 in
set_option maxHeartbeats 4000000 in
theorem lC_X9_army {G : ab_K} {Po : ab_P} (hG : ab_Clo cX9_army x_X9_army Po G) {N : ab_M} {s m : Nat} {e : Int32} {l g f1 f2 f3 Q : Nat → Int32} (hQ : N.1 37 = Q) (h5 : m ≤ 5) (h : Po (some (.int (10 * nI s + nI m))) (ab_si (ab_si (ab_si (aw N s m e l g (ev_k Q f1 3 0 m) (ev_k Q f2 3 1 m) (tp_k Q f3 m)) 30 19 0) 43 0 0) 43 1 0)) : ∀ j i : Nat, i + j = m → G 122 [some (.ref 30), some (.int (nI i))] [] (aw N s m e l g (ev_k Q f1 3 0 i) (ev_k Q f2 3 1 i) (tp_k Q f3 i)) := by
  intro j
  induction j with
  | zero =>
    intro i hi
    have ei : i = m := by omega
    subst ei
    refine ab_go1 hG [61, 122] 80 _ _ _ _ ?_
    simp (decide := true) only [ew_s, ew_0, Option.toList_some, Option.toList_none, List.cons_append, List.nil_append, true_and, and_true, List.length_cons, List.length_nil, Nat.reduceAdd, Nat.reduceLeDiff, Int32.reduceAdd, Int32.reduceSub, Int32.reduceMul, Int32.reduceLT, Int32.reduceLE, Int32.reduceToNatClampNeg, ↓reduceIte, and_self, si_1, si_2, sl_1, sl_2, false_and, and_false, dX9_army_0, dX9_army_1, dX9_army_2, dX9_army_5, dX9_army_6, dX9_army_9, dX9_army_11, dX9_army_14, dX9_army_16, dX9_army_17, dX9_army_18, dX9_army_19, dX9_army_22, dX9_army_25, dX9_army_26, dX9_army_27, dX9_army_30, dX9_army_33, dX9_army_34, dX9_army_35, dX9_army_38, dX9_army_39, dX9_army_40, dX9_army_41, dX9_army_43, dX9_army_46, dX9_army_47, dX9_army_50, dX9_army_51, dX9_army_52, dX9_army_53, dX9_army_56, dX9_army_59, dX9_army_60, dX9_army_61, dX9_army_62, dX9_army_63, dX9_army_66, dX9_army_69, dX9_army_70, dX9_army_73, dX9_army_74, dX9_army_75, dX9_army_78, dX9_army_79, dX9_army_80, dX9_army_81, dX9_army_82, dX9_army_83, dX9_army_84, dX9_army_87, dX9_army_88, dX9_army_89, dX9_army_92, dX9_army_93, dX9_army_94, dX9_army_95, dX9_army_96, dX9_army_97, dX9_army_98, dX9_army_99, dX9_army_100, dX9_army_101, dX9_army_104, dX9_army_105, dX9_army_108, dX9_army_109, dX9_army_110, dX9_army_111, dX9_army_114, dX9_army_117, dX9_army_120, dX9_army_121, dX9_army_122, dX9_army_123, dX9_army_124, dX9_army_127, dX9_army_130, dX9_army_131, dX9_army_134, dX9_army_135, dX9_army_136, dX9_army_139, dX9_army_140, dX9_army_141, dX9_army_142, dX9_army_143, dX9_army_144, dX9_army_145, dX9_army_148, dX9_army_149, dX9_army_150, dX9_army_153, dX9_army_154, dX9_army_155, dX9_army_156, dX9_army_157, dX9_army_158, dX9_army_159, dX9_army_160, dX9_army_161, dX9_army_164, dX9_army_165, dX9_army_166, dX9_army_167, dX9_army_168, dX9_army_171, dX9_army_172, dX9_army_173, dX9_army_174, dX9_army_175, dX9_army_176, dX9_army_177, dX9_army_178, dX9_army_181, dX9_army_184, dX9_army_185, dX9_army_186, dX9_army_189, dX9_army_190, dX9_army_193, dX9_army_194, dX9_army_195, dX9_army_196, dX9_army_197, dX9_army_200, dX9_army_201, dX9_army_202, dX9_army_203, dX9_army_205, dX9_army_206, dX9_army_209, dX9_army_210, dX9_army_211, dX9_army_214, dX9_army_215, ca_X9_army_104, e_aload_n0, e_bastore, e_callv, e_dupi, e_dupr, e_getfield, e_iadd, e_iaload, e_iastore, e_iload_n1, e_imul, e_ireturn, e_istore_n1i, e_istore_n1n, e_istore_n1r, e_putfield, ea_32, ea_33, ea_34, ea_35, ea_36, ea_37, ea_38, ea_43, es_32, es_33, es_34, es_35, es_36, es_37, es_38, es_43, gf_X9_108_30, gf_X9_111_30, gf_X9_13_30, gf_X9_16_30, gf_X9_19_30, gf_X9_22_30, gf_X9_25_30, gf_X9_28_30, gf_X9_31_30, gf_X9_46_30, gf_X9_69_30, gf_X9_88_30, gf_X9_91_30, j_bp_10, j_bp_7, j_bp_m3, j_bp_m9, j_goto_117_m56, j_goto_181_m59, j_goto_56_m16, j_ic_0, j_ic_1, j_ic_2, j_ic_3, j_icmp_eq_11_6, j_icmp_ge_127_57, j_icmp_ge_43_16, j_icmp_ge_66_54, j_ii_1_1, pf_X9_108_30, pf_X9_111_30, pf_X9_114_30, pf_X9_65_30, pf_X9_69_30, aw_4, aw_7, aw_10, aw_32, aw_36, aw_37, aw_s32, aw_s33, aw_s34, aw_s35, aw_s38, aw_s10, nar_0, nI_1, ab_rn, bi_0, bi_1, ite_not]
    rw [if_neg (nI_nlt (Nat.le_refl i) (by omega))]
    exact h
  | succ j ih =>
    intro i hi
    obtain ⟨e1, e2⟩ := cI (i := i) (b := 5) (by omega) (by omega)
    obtain ⟨e3, e4⟩ := cI (i := 3 * i) (b := 15) (by omega) (by omega)
    obtain ⟨e5, e6⟩ := cI (i := 3 * i + 1) (b := 15) (by omega) (by omega)
    obtain ⟨e7, e8⟩ := cI (i := 3 * i + 2) (b := 15) (by omega) (by omega)
    obtain ⟨e9, e10⟩ := cI (i := 2 + i) (b := 7) (by omega) (by omega)
    have n3 : 3 * nI i = nI (3 * i) := xI_mul 3 i
    have n2 : nI (3 * i) + 2 = nI (3 * i + 2) := nI_add (3 * i) 2
    have n4 : 2 + nI i = nI (2 + i) := nI_add 2 i
    have ih1 := ih (i + 1) (by omega)
    rw [← ev_s, ← ev_s, ← tp_s, Nat.add_zero] at ih1
    refine ab_go1 hG [61, 122] 80 _ _ _ _ ?_
    simp (decide := true) only [ew_s, ew_0, Option.toList_some, Option.toList_none, List.cons_append, List.nil_append, true_and, and_true, List.length_cons, List.length_nil, Nat.reduceAdd, Nat.reduceLeDiff, Int32.reduceAdd, Int32.reduceSub, Int32.reduceMul, Int32.reduceLT, Int32.reduceLE, Int32.reduceToNatClampNeg, ↓reduceIte, and_self, si_1, si_2, sl_1, sl_2, false_and, and_false, dX9_army_0, dX9_army_1, dX9_army_2, dX9_army_5, dX9_army_6, dX9_army_9, dX9_army_11, dX9_army_14, dX9_army_16, dX9_army_17, dX9_army_18, dX9_army_19, dX9_army_22, dX9_army_25, dX9_army_26, dX9_army_27, dX9_army_30, dX9_army_33, dX9_army_34, dX9_army_35, dX9_army_38, dX9_army_39, dX9_army_40, dX9_army_41, dX9_army_43, dX9_army_46, dX9_army_47, dX9_army_50, dX9_army_51, dX9_army_52, dX9_army_53, dX9_army_56, dX9_army_59, dX9_army_60, dX9_army_61, dX9_army_62, dX9_army_63, dX9_army_66, dX9_army_69, dX9_army_70, dX9_army_73, dX9_army_74, dX9_army_75, dX9_army_78, dX9_army_79, dX9_army_80, dX9_army_81, dX9_army_82, dX9_army_83, dX9_army_84, dX9_army_87, dX9_army_88, dX9_army_89, dX9_army_92, dX9_army_93, dX9_army_94, dX9_army_95, dX9_army_96, dX9_army_97, dX9_army_98, dX9_army_99, dX9_army_100, dX9_army_101, dX9_army_104, dX9_army_105, dX9_army_108, dX9_army_109, dX9_army_110, dX9_army_111, dX9_army_114, dX9_army_117, dX9_army_120, dX9_army_121, dX9_army_122, dX9_army_123, dX9_army_124, dX9_army_127, dX9_army_130, dX9_army_131, dX9_army_134, dX9_army_135, dX9_army_136, dX9_army_139, dX9_army_140, dX9_army_141, dX9_army_142, dX9_army_143, dX9_army_144, dX9_army_145, dX9_army_148, dX9_army_149, dX9_army_150, dX9_army_153, dX9_army_154, dX9_army_155, dX9_army_156, dX9_army_157, dX9_army_158, dX9_army_159, dX9_army_160, dX9_army_161, dX9_army_164, dX9_army_165, dX9_army_166, dX9_army_167, dX9_army_168, dX9_army_171, dX9_army_172, dX9_army_173, dX9_army_174, dX9_army_175, dX9_army_176, dX9_army_177, dX9_army_178, dX9_army_181, dX9_army_184, dX9_army_185, dX9_army_186, dX9_army_189, dX9_army_190, dX9_army_193, dX9_army_194, dX9_army_195, dX9_army_196, dX9_army_197, dX9_army_200, dX9_army_201, dX9_army_202, dX9_army_203, dX9_army_205, dX9_army_206, dX9_army_209, dX9_army_210, dX9_army_211, dX9_army_214, dX9_army_215, ca_X9_army_104, e_aload_n0, e_bastore, e_callv, e_dupi, e_dupr, e_getfield, e_iadd, e_iaload, e_iastore, e_iload_n1, e_imul, e_ireturn, e_istore_n1i, e_istore_n1n, e_istore_n1r, e_putfield, ea_32, ea_33, ea_34, ea_35, ea_36, ea_37, ea_38, ea_43, es_32, es_33, es_34, es_35, es_36, es_37, es_38, es_43, gf_X9_108_30, gf_X9_111_30, gf_X9_13_30, gf_X9_16_30, gf_X9_19_30, gf_X9_22_30, gf_X9_25_30, gf_X9_28_30, gf_X9_31_30, gf_X9_46_30, gf_X9_69_30, gf_X9_88_30, gf_X9_91_30, j_bp_10, j_bp_7, j_bp_m3, j_bp_m9, j_goto_117_m56, j_goto_181_m59, j_goto_56_m16, j_ic_0, j_ic_1, j_ic_2, j_ic_3, j_icmp_eq_11_6, j_icmp_ge_127_57, j_icmp_ge_43_16, j_icmp_ge_66_54, j_ii_1_1, pf_X9_108_30, pf_X9_111_30, pf_X9_114_30, pf_X9_65_30, pf_X9_69_30, aw_4, aw_7, aw_10, aw_32, aw_36, aw_37, aw_s32, aw_s33, aw_s34, aw_s35, aw_s38, aw_s10, nar_0, nI_1, hQ, e1, e3, e5, e7, e9, n3, n2, n4, ab_rn, bi_0, bi_1, ite_not]
    rw [if_pos (nI_lt (by omega) (by omega))]
    exact ⟨e4, e2, e6, e2, e8, e10, ih1⟩
set_option maxRecDepth 20000 in
set_option maxHeartbeats 4000000 in
theorem lB_X9_army {G : ab_K} {Po : ab_P} (hG : ab_Clo cX9_army x_X9_army Po G) {N : ab_M} {s m : Nat} {f1 f2 f3 f4 f5 R Q : Nat → Int32} (hR : N.1 36 = R) (hQ : N.1 37 = Q) (h8 : s ≤ 8) (h5 : m ≤ 5) (h : Po (some (.int (10 * nI s + nI m))) (ab_si (ab_si (ab_si (aw N s m (su_k R s) (ev_k R f4 2 0 s) (ev_k R f5 2 1 s) (ev_k Q f1 3 0 m) (ev_k Q f2 3 1 m) (tp_k Q f3 m)) 30 19 0) 43 0 0) 43 1 0)) : ∀ j i : Nat, i + j = s → G 61 [some (.ref 30), some (.int (nI i))] [] (aw N s m (su_k R i) (ev_k R f4 2 0 i) (ev_k R f5 2 1 i) f1 f2 f3) := by
  intro j
  induction j with
  | zero =>
    intro i hi
    have ei : i = s := by omega
    subst ei
    have key := lC_X9_army hG hQ h5 h m 0 (by omega)
    rw [ev_0, ev_0, tp_0] at key
    refine ab_go1 hG [61, 122] 80 _ _ _ _ ?_
    simp (decide := true) only [ew_s, ew_0, Option.toList_some, Option.toList_none, List.cons_append, List.nil_append, true_and, and_true, List.length_cons, List.length_nil, Nat.reduceAdd, Nat.reduceLeDiff, Int32.reduceAdd, Int32.reduceSub, Int32.reduceMul, Int32.reduceLT, Int32.reduceLE, Int32.reduceToNatClampNeg, ↓reduceIte, and_self, si_1, si_2, sl_1, sl_2, false_and, and_false, dX9_army_0, dX9_army_1, dX9_army_2, dX9_army_5, dX9_army_6, dX9_army_9, dX9_army_11, dX9_army_14, dX9_army_16, dX9_army_17, dX9_army_18, dX9_army_19, dX9_army_22, dX9_army_25, dX9_army_26, dX9_army_27, dX9_army_30, dX9_army_33, dX9_army_34, dX9_army_35, dX9_army_38, dX9_army_39, dX9_army_40, dX9_army_41, dX9_army_43, dX9_army_46, dX9_army_47, dX9_army_50, dX9_army_51, dX9_army_52, dX9_army_53, dX9_army_56, dX9_army_59, dX9_army_60, dX9_army_61, dX9_army_62, dX9_army_63, dX9_army_66, dX9_army_69, dX9_army_70, dX9_army_73, dX9_army_74, dX9_army_75, dX9_army_78, dX9_army_79, dX9_army_80, dX9_army_81, dX9_army_82, dX9_army_83, dX9_army_84, dX9_army_87, dX9_army_88, dX9_army_89, dX9_army_92, dX9_army_93, dX9_army_94, dX9_army_95, dX9_army_96, dX9_army_97, dX9_army_98, dX9_army_99, dX9_army_100, dX9_army_101, dX9_army_104, dX9_army_105, dX9_army_108, dX9_army_109, dX9_army_110, dX9_army_111, dX9_army_114, dX9_army_117, dX9_army_120, dX9_army_121, dX9_army_122, dX9_army_123, dX9_army_124, dX9_army_127, dX9_army_130, dX9_army_131, dX9_army_134, dX9_army_135, dX9_army_136, dX9_army_139, dX9_army_140, dX9_army_141, dX9_army_142, dX9_army_143, dX9_army_144, dX9_army_145, dX9_army_148, dX9_army_149, dX9_army_150, dX9_army_153, dX9_army_154, dX9_army_155, dX9_army_156, dX9_army_157, dX9_army_158, dX9_army_159, dX9_army_160, dX9_army_161, dX9_army_164, dX9_army_165, dX9_army_166, dX9_army_167, dX9_army_168, dX9_army_171, dX9_army_172, dX9_army_173, dX9_army_174, dX9_army_175, dX9_army_176, dX9_army_177, dX9_army_178, dX9_army_181, dX9_army_184, dX9_army_185, dX9_army_186, dX9_army_189, dX9_army_190, dX9_army_193, dX9_army_194, dX9_army_195, dX9_army_196, dX9_army_197, dX9_army_200, dX9_army_201, dX9_army_202, dX9_army_203, dX9_army_205, dX9_army_206, dX9_army_209, dX9_army_210, dX9_army_211, dX9_army_214, dX9_army_215, ca_X9_army_104, e_aload_n0, e_bastore, e_callv, e_dupi, e_dupr, e_getfield, e_iadd, e_iaload, e_iastore, e_iload_n1, e_imul, e_ireturn, e_istore_n1i, e_istore_n1n, e_istore_n1r, e_putfield, ea_32, ea_33, ea_34, ea_35, ea_36, ea_37, ea_38, ea_43, es_32, es_33, es_34, es_35, es_36, es_37, es_38, es_43, gf_X9_108_30, gf_X9_111_30, gf_X9_13_30, gf_X9_16_30, gf_X9_19_30, gf_X9_22_30, gf_X9_25_30, gf_X9_28_30, gf_X9_31_30, gf_X9_46_30, gf_X9_69_30, gf_X9_88_30, gf_X9_91_30, j_bp_10, j_bp_7, j_bp_m3, j_bp_m9, j_goto_117_m56, j_goto_181_m59, j_goto_56_m16, j_ic_0, j_ic_1, j_ic_2, j_ic_3, j_icmp_eq_11_6, j_icmp_ge_127_57, j_icmp_ge_43_16, j_icmp_ge_66_54, j_ii_1_1, pf_X9_108_30, pf_X9_111_30, pf_X9_114_30, pf_X9_65_30, pf_X9_69_30, aw_4, aw_7, aw_10, aw_32, aw_36, aw_37, aw_s32, aw_s33, aw_s34, aw_s35, aw_s38, aw_s10, nar_0, nI_1, ab_rn, bi_0, bi_1, ite_not]
    rw [if_neg (nI_nlt (Nat.le_refl i) (by omega))]
    exact key
  | succ j ih =>
    intro i hi
    obtain ⟨e1, e2⟩ := cI (i := i) (b := 8) (by omega) (by omega)
    obtain ⟨e3, e4⟩ := cI (i := 2 * i) (b := 16) (by omega) (by omega)
    obtain ⟨e5, e6⟩ := cI (i := 2 * i + 1) (b := 16) (by omega) (by omega)
    have n3 : 2 * nI i = nI (2 * i) := xI_mul 2 i
    have hat : (up_f (ev_k R f4 2 0 i) i (R (2 * i))) i = R (2 * i) := by simp only [up_f, ↓reduceIte]
    have ih1 := ih (i + 1) (by omega)
    rw [← ev_s, ← ev_s, Nat.add_zero, su_k] at ih1
    refine ab_go1 hG [61, 122] 80 _ _ _ _ ?_
    simp (decide := true) only [ew_s, ew_0, Option.toList_some, Option.toList_none, List.cons_append, List.nil_append, true_and, and_true, List.length_cons, List.length_nil, Nat.reduceAdd, Nat.reduceLeDiff, Int32.reduceAdd, Int32.reduceSub, Int32.reduceMul, Int32.reduceLT, Int32.reduceLE, Int32.reduceToNatClampNeg, ↓reduceIte, and_self, si_1, si_2, sl_1, sl_2, false_and, and_false, dX9_army_0, dX9_army_1, dX9_army_2, dX9_army_5, dX9_army_6, dX9_army_9, dX9_army_11, dX9_army_14, dX9_army_16, dX9_army_17, dX9_army_18, dX9_army_19, dX9_army_22, dX9_army_25, dX9_army_26, dX9_army_27, dX9_army_30, dX9_army_33, dX9_army_34, dX9_army_35, dX9_army_38, dX9_army_39, dX9_army_40, dX9_army_41, dX9_army_43, dX9_army_46, dX9_army_47, dX9_army_50, dX9_army_51, dX9_army_52, dX9_army_53, dX9_army_56, dX9_army_59, dX9_army_60, dX9_army_61, dX9_army_62, dX9_army_63, dX9_army_66, dX9_army_69, dX9_army_70, dX9_army_73, dX9_army_74, dX9_army_75, dX9_army_78, dX9_army_79, dX9_army_80, dX9_army_81, dX9_army_82, dX9_army_83, dX9_army_84, dX9_army_87, dX9_army_88, dX9_army_89, dX9_army_92, dX9_army_93, dX9_army_94, dX9_army_95, dX9_army_96, dX9_army_97, dX9_army_98, dX9_army_99, dX9_army_100, dX9_army_101, dX9_army_104, dX9_army_105, dX9_army_108, dX9_army_109, dX9_army_110, dX9_army_111, dX9_army_114, dX9_army_117, dX9_army_120, dX9_army_121, dX9_army_122, dX9_army_123, dX9_army_124, dX9_army_127, dX9_army_130, dX9_army_131, dX9_army_134, dX9_army_135, dX9_army_136, dX9_army_139, dX9_army_140, dX9_army_141, dX9_army_142, dX9_army_143, dX9_army_144, dX9_army_145, dX9_army_148, dX9_army_149, dX9_army_150, dX9_army_153, dX9_army_154, dX9_army_155, dX9_army_156, dX9_army_157, dX9_army_158, dX9_army_159, dX9_army_160, dX9_army_161, dX9_army_164, dX9_army_165, dX9_army_166, dX9_army_167, dX9_army_168, dX9_army_171, dX9_army_172, dX9_army_173, dX9_army_174, dX9_army_175, dX9_army_176, dX9_army_177, dX9_army_178, dX9_army_181, dX9_army_184, dX9_army_185, dX9_army_186, dX9_army_189, dX9_army_190, dX9_army_193, dX9_army_194, dX9_army_195, dX9_army_196, dX9_army_197, dX9_army_200, dX9_army_201, dX9_army_202, dX9_army_203, dX9_army_205, dX9_army_206, dX9_army_209, dX9_army_210, dX9_army_211, dX9_army_214, dX9_army_215, ca_X9_army_104, e_aload_n0, e_bastore, e_callv, e_dupi, e_dupr, e_getfield, e_iadd, e_iaload, e_iastore, e_iload_n1, e_imul, e_ireturn, e_istore_n1i, e_istore_n1n, e_istore_n1r, e_putfield, ea_32, ea_33, ea_34, ea_35, ea_36, ea_37, ea_38, ea_43, es_32, es_33, es_34, es_35, es_36, es_37, es_38, es_43, gf_X9_108_30, gf_X9_111_30, gf_X9_13_30, gf_X9_16_30, gf_X9_19_30, gf_X9_22_30, gf_X9_25_30, gf_X9_28_30, gf_X9_31_30, gf_X9_46_30, gf_X9_69_30, gf_X9_88_30, gf_X9_91_30, j_bp_10, j_bp_7, j_bp_m3, j_bp_m9, j_goto_117_m56, j_goto_181_m59, j_goto_56_m16, j_ic_0, j_ic_1, j_ic_2, j_ic_3, j_icmp_eq_11_6, j_icmp_ge_127_57, j_icmp_ge_43_16, j_icmp_ge_66_54, j_ii_1_1, pf_X9_108_30, pf_X9_111_30, pf_X9_114_30, pf_X9_65_30, pf_X9_69_30, aw_4, aw_7, aw_10, aw_32, aw_36, aw_37, aw_s32, aw_s33, aw_s34, aw_s35, aw_s38, aw_s10, nar_0, nI_1, hR, e1, e3, e5, n3, hat, ab_rn, bi_0, bi_1, ite_not]
    rw [if_pos (nI_lt (by omega) (by omega))]
    exact ⟨e4, e2, e6, e2, e2, ih1⟩
set_option maxRecDepth 20000 in
set_option maxHeartbeats 4000000 in
theorem lA_X9_army {G : ab_K} {Po : ab_P} (hG : ab_Clo cX9_army x_X9_army Po G) {N : ab_M} {s m : Nat} {R Q : Nat → Int32} (hR : N.1 36 = R) (hQ : N.1 37 = Q) (h8 : s ≤ 8) (h5 : m ≤ 5) (h : Po (some (.int (10 * nI s + nI m))) (ar_M N s m R Q)) : G 40 [some (.ref 30), some (.int 0)] [] (aw N s m 0 (N.1 32) (N.1 33) (N.1 34) (N.1 35) (N.1 38)) := by
  have key := lB_X9_army hG hR hQ h8 h5 h s 0 (by omega)
  rw [ev_0, ev_0, up7] at key
  refine ab_go hG [61] 140 _ _ _ _ ?_
  simp (decide := true) only [ew_s, ew_0, Option.toList_some, Option.toList_none, List.cons_append, List.nil_append, true_and, and_true, List.length_cons, List.length_nil, Nat.reduceAdd, Nat.reduceLeDiff, Int32.reduceAdd, Int32.reduceSub, Int32.reduceMul, Int32.reduceLT, Int32.reduceLE, Int32.reduceToNatClampNeg, ↓reduceIte, and_self, si_1, si_2, sl_1, sl_2, false_and, and_false, dX9_army_0, dX9_army_1, dX9_army_2, dX9_army_5, dX9_army_6, dX9_army_9, dX9_army_11, dX9_army_14, dX9_army_16, dX9_army_17, dX9_army_18, dX9_army_19, dX9_army_22, dX9_army_25, dX9_army_26, dX9_army_27, dX9_army_30, dX9_army_33, dX9_army_34, dX9_army_35, dX9_army_38, dX9_army_39, dX9_army_40, dX9_army_41, dX9_army_43, dX9_army_46, dX9_army_47, dX9_army_50, dX9_army_51, dX9_army_52, dX9_army_53, dX9_army_56, dX9_army_59, dX9_army_60, dX9_army_61, dX9_army_62, dX9_army_63, dX9_army_66, dX9_army_69, dX9_army_70, dX9_army_73, dX9_army_74, dX9_army_75, dX9_army_78, dX9_army_79, dX9_army_80, dX9_army_81, dX9_army_82, dX9_army_83, dX9_army_84, dX9_army_87, dX9_army_88, dX9_army_89, dX9_army_92, dX9_army_93, dX9_army_94, dX9_army_95, dX9_army_96, dX9_army_97, dX9_army_98, dX9_army_99, dX9_army_100, dX9_army_101, dX9_army_104, dX9_army_105, dX9_army_108, dX9_army_109, dX9_army_110, dX9_army_111, dX9_army_114, dX9_army_117, dX9_army_120, dX9_army_121, dX9_army_122, dX9_army_123, dX9_army_124, dX9_army_127, dX9_army_130, dX9_army_131, dX9_army_134, dX9_army_135, dX9_army_136, dX9_army_139, dX9_army_140, dX9_army_141, dX9_army_142, dX9_army_143, dX9_army_144, dX9_army_145, dX9_army_148, dX9_army_149, dX9_army_150, dX9_army_153, dX9_army_154, dX9_army_155, dX9_army_156, dX9_army_157, dX9_army_158, dX9_army_159, dX9_army_160, dX9_army_161, dX9_army_164, dX9_army_165, dX9_army_166, dX9_army_167, dX9_army_168, dX9_army_171, dX9_army_172, dX9_army_173, dX9_army_174, dX9_army_175, dX9_army_176, dX9_army_177, dX9_army_178, dX9_army_181, dX9_army_184, dX9_army_185, dX9_army_186, dX9_army_189, dX9_army_190, dX9_army_193, dX9_army_194, dX9_army_195, dX9_army_196, dX9_army_197, dX9_army_200, dX9_army_201, dX9_army_202, dX9_army_203, dX9_army_205, dX9_army_206, dX9_army_209, dX9_army_210, dX9_army_211, dX9_army_214, dX9_army_215, ca_X9_army_104, e_aload_n0, e_bastore, e_callv, e_dupi, e_dupr, e_getfield, e_iadd, e_iaload, e_iastore, e_iload_n1, e_imul, e_ireturn, e_istore_n1i, e_istore_n1n, e_istore_n1r, e_putfield, ea_32, ea_33, ea_34, ea_35, ea_36, ea_37, ea_38, ea_43, es_32, es_33, es_34, es_35, es_36, es_37, es_38, es_43, gf_X9_108_30, gf_X9_111_30, gf_X9_13_30, gf_X9_16_30, gf_X9_19_30, gf_X9_22_30, gf_X9_25_30, gf_X9_28_30, gf_X9_31_30, gf_X9_46_30, gf_X9_69_30, gf_X9_88_30, gf_X9_91_30, j_bp_10, j_bp_7, j_bp_m3, j_bp_m9, j_goto_117_m56, j_goto_181_m59, j_goto_56_m16, j_ic_0, j_ic_1, j_ic_2, j_ic_3, j_icmp_eq_11_6, j_icmp_ge_127_57, j_icmp_ge_43_16, j_icmp_ge_66_54, j_ii_1_1, pf_X9_108_30, pf_X9_111_30, pf_X9_114_30, pf_X9_65_30, pf_X9_69_30, aw_4, aw_7, aw_10, aw_32, aw_36, aw_37, aw_s32, aw_s33, aw_s34, aw_s35, aw_s38, aw_s10, nar_0, nI_1, ab_rn, bi_0, bi_1, ite_not]
  exact key
set_option maxRecDepth 20000 in
set_option maxHeartbeats 4000000 in
theorem c_X9_army {l : Launch} : ab_ctr l yX9_army cX9_army 2 (some .int) 5 111 s_X9_army := by
  refine ab_met x_X9_army (by decide) rfl fo_X9 ko_X9 so_X9 rfl (ab_cs_cons (ab_kV c_X9_readArmy ml_X9_104 v_X9_readArmy ⟨rfl, rfl⟩ r_X9_readArmy) ab_cs_nil) ?_ ?_
  · intro as M Po h
    unfold s_X9_army at h
    split at h
    · simp [ab_e0]
    · exact h.elim
  · intro as M Po h G hG
    unfold s_X9_army at h
    split at h
    · simp only [ab_en, ab_e0, List.length_cons, List.length_nil, Nat.reduceAdd, Nat.reduceSub, List.replicate, List.cons_append, List.nil_append]
      obtain ⟨z, hz, hs, h⟩ := h
      refine ab_go hG [40] 80 _ _ _ _ ?_
      simp (decide := true) only [ew_s, ew_0, Option.toList_some, Option.toList_none, List.cons_append, List.nil_append, true_and, and_true, List.length_cons, List.length_nil, Nat.reduceAdd, Nat.reduceLeDiff, Int32.reduceAdd, Int32.reduceSub, Int32.reduceMul, Int32.reduceLT, Int32.reduceLE, Int32.reduceToNatClampNeg, ↓reduceIte, and_self, si_1, si_2, sl_1, sl_2, false_and, and_false, dX9_army_0, dX9_army_1, dX9_army_2, dX9_army_5, dX9_army_6, dX9_army_9, dX9_army_11, dX9_army_14, dX9_army_16, dX9_army_17, dX9_army_18, dX9_army_19, dX9_army_22, dX9_army_25, dX9_army_26, dX9_army_27, dX9_army_30, dX9_army_33, dX9_army_34, dX9_army_35, dX9_army_38, dX9_army_39, dX9_army_40, dX9_army_41, dX9_army_43, dX9_army_46, dX9_army_47, dX9_army_50, dX9_army_51, dX9_army_52, dX9_army_53, dX9_army_56, dX9_army_59, dX9_army_60, dX9_army_61, dX9_army_62, dX9_army_63, dX9_army_66, dX9_army_69, dX9_army_70, dX9_army_73, dX9_army_74, dX9_army_75, dX9_army_78, dX9_army_79, dX9_army_80, dX9_army_81, dX9_army_82, dX9_army_83, dX9_army_84, dX9_army_87, dX9_army_88, dX9_army_89, dX9_army_92, dX9_army_93, dX9_army_94, dX9_army_95, dX9_army_96, dX9_army_97, dX9_army_98, dX9_army_99, dX9_army_100, dX9_army_101, dX9_army_104, dX9_army_105, dX9_army_108, dX9_army_109, dX9_army_110, dX9_army_111, dX9_army_114, dX9_army_117, dX9_army_120, dX9_army_121, dX9_army_122, dX9_army_123, dX9_army_124, dX9_army_127, dX9_army_130, dX9_army_131, dX9_army_134, dX9_army_135, dX9_army_136, dX9_army_139, dX9_army_140, dX9_army_141, dX9_army_142, dX9_army_143, dX9_army_144, dX9_army_145, dX9_army_148, dX9_army_149, dX9_army_150, dX9_army_153, dX9_army_154, dX9_army_155, dX9_army_156, dX9_army_157, dX9_army_158, dX9_army_159, dX9_army_160, dX9_army_161, dX9_army_164, dX9_army_165, dX9_army_166, dX9_army_167, dX9_army_168, dX9_army_171, dX9_army_172, dX9_army_173, dX9_army_174, dX9_army_175, dX9_army_176, dX9_army_177, dX9_army_178, dX9_army_181, dX9_army_184, dX9_army_185, dX9_army_186, dX9_army_189, dX9_army_190, dX9_army_193, dX9_army_194, dX9_army_195, dX9_army_196, dX9_army_197, dX9_army_200, dX9_army_201, dX9_army_202, dX9_army_203, dX9_army_205, dX9_army_206, dX9_army_209, dX9_army_210, dX9_army_211, dX9_army_214, dX9_army_215, ca_X9_army_104, e_aload_n0, e_bastore, e_callv, e_dupi, e_dupr, e_getfield, e_iadd, e_iaload, e_iastore, e_iload_n1, e_imul, e_ireturn, e_istore_n1i, e_istore_n1n, e_istore_n1r, e_putfield, ea_32, ea_33, ea_34, ea_35, ea_36, ea_37, ea_38, ea_43, es_32, es_33, es_34, es_35, es_36, es_37, es_38, es_43, gf_X9_108_30, gf_X9_111_30, gf_X9_13_30, gf_X9_16_30, gf_X9_19_30, gf_X9_22_30, gf_X9_25_30, gf_X9_28_30, gf_X9_31_30, gf_X9_46_30, gf_X9_69_30, gf_X9_88_30, gf_X9_91_30, j_bp_10, j_bp_7, j_bp_m3, j_bp_m9, j_goto_117_m56, j_goto_181_m59, j_goto_56_m16, j_ic_0, j_ic_1, j_ic_2, j_ic_3, j_icmp_eq_11_6, j_icmp_ge_127_57, j_icmp_ge_43_16, j_icmp_ge_66_54, j_ii_1_1, pf_X9_108_30, pf_X9_111_30, pf_X9_114_30, pf_X9_65_30, pf_X9_69_30, q_X9_readArmy, t0_r, rd_11, rd_13, ab_rn, bi_0, bi_1, ite_not]
      refine ⟨z, hz, hs, ?_⟩
      refine ite_i (fun h1 => ?_) (fun h1 => ?_)
      · rw [if_pos (show z = 0 ∨ ¬ M.1 31 0 = 65 from h1)] at h
        exact h
      · rw [if_neg (show ¬ (z = 0 ∨ ¬ M.1 31 0 = 65) from h1)] at h
        refine ra_mono (fun r p s m R Q h8 h5 hh => ?_) _ _ _ _ _ _ (by omega) (by omega) h
        split
        · rename_i h2
          rw [if_pos h2] at hh
          have key := lA_X9_army hG rfl rfl h8 h5 hh
          rw [← aw_0] at key
          exact key
        · rename_i h2
          rw [if_neg h2] at hh
          exact hh
    · exact h.elim

theorem in_y {n i : Nat} (hn : n ≤ 8) (hi : i < n) : ¬ nI i < 0 ∧ ¬ nI n - 1 < nI i := by
  obtain ⟨k, rfl⟩ : ∃ k, n = k + 1 := ⟨n - 1, by omega⟩
  rw [xI_p1]
  exact ⟨nI_pos (by omega), nI_nlt (by omega) (by omega)⟩
theorem in_n {n : Nat} {x : Int32} (hn : n ≤ 8) (hx : ∀ i, i < n → ¬ x = nI i) : ¬ (¬ x < 0 ∧ ¬ nI n - 1 < x) := by
  intro h
  obtain ⟨k, hk, rfl⟩ := nI_of h.1
  by_cases h0 : n = 0
  · subst h0
    refine h.2 ?_
    rw [Int32.lt_iff_toInt_lt, nI_toInt hk]
    have e : (nI 0 - 1 : Int32).toInt = -1 := by decide
    omega
  · obtain ⟨j, rfl⟩ : ∃ j, n = j + 1 := ⟨n - 1, by omega⟩
    rw [xI_p1] at h
    by_cases h1 : k < j + 1
    · exact hx k h1 rfl
    · exact h.2 (nI_lt (by omega) hk)
theorem nm_y {M : ab_M} {n i : Nat} (hn : n ≤ 5) (hm : M.1 30 7 = nI n) (hi : i < n) : ∀ Po : ab_P, s_X9_noMan [.ref 30, .int (nI i)] M Po = Po (some (.int 0)) M := by
  intro Po
  rw [q_X9_noMan, hm, if_pos (in_y (by omega) hi)]
theorem nm_n {M : ab_M} {n : Nat} {x : Int32} (hn : n ≤ 5) (hm : M.1 30 7 = nI n) (hx : ∀ i, i < n → ¬ x = nI i) : ∀ Po : ab_P, s_X9_noMan [.ref 30, .int x] M Po = Po (some (.int 1)) M := by
  intro Po
  rw [q_X9_noMan, hm, if_neg (in_n (by omega) hx)]
def vl_1 (M : ab_M) : Option Nat → Int32
  | none => 0
  | some j => sm_M M (M.1 38) j
def vl_M (M : ab_M) (n : Nat) : Int32 := vl_1 M (lm_l M (M.1 38) 31 n none)
def s_X9_about : ab_Sem := fun as M Po => match as with
  | [.ref 30, .int x] => ∃ n s : Nat, ct_M M n s ∧ (if x = 0 then Po (some (.int (M.1 30 4))) (t0 M) else if x = 1 then Po (some (.int (M.1 30 7))) (t0 M) else if x = 2 then Po (some (.int (M.1 30 10))) (t0 M) else if x = 3 then Po (some (.int (M.1 38 0))) (t0 M) else if x = 4 then Po (some (.int (M.1 38 1))) (t0 M) else if x = 5 then Po (some (.int (fv_M (lm_l M (M.1 38) 31 n none)))) (t0 M) else if x = 6 then Po (some (.int (vl_M M n))) (t0 M) else if x = 7 then Po (some (.int (sa_l M (M.1 38 0) s 0 (-9)))) (t0 M) else if x = 8 then Po (some (.int (al_M (M.1 38)))) (t0 M) else if x = 9 then Po (some (.int (M.1 30 19))) (t0 M) else if x = 10 then Po (some (.int (M.1 30 22))) (t0 M) else if x = 11 then Po (some (.int (M.1 30 2))) (t0 M) else Po (some (.int (-2))) (t0 M))
  | _ => False
theorem q_X9_about {x : Int32} {M : ab_M} {Po : ab_P} : s_X9_about [.ref 30, .int x] M Po = (∃ n s : Nat, ct_M M n s ∧ (if x = 0 then Po (some (.int (M.1 30 4))) (t0 M) else if x = 1 then Po (some (.int (M.1 30 7))) (t0 M) else if x = 2 then Po (some (.int (M.1 30 10))) (t0 M) else if x = 3 then Po (some (.int (M.1 38 0))) (t0 M) else if x = 4 then Po (some (.int (M.1 38 1))) (t0 M) else if x = 5 then Po (some (.int (fv_M (lm_l M (M.1 38) 31 n none)))) (t0 M) else if x = 6 then Po (some (.int (vl_M M n))) (t0 M) else if x = 7 then Po (some (.int (sa_l M (M.1 38 0) s 0 (-9)))) (t0 M) else if x = 8 then Po (some (.int (al_M (M.1 38)))) (t0 M) else if x = 9 then Po (some (.int (M.1 30 19))) (t0 M) else if x = 10 then Po (some (.int (M.1 30 22))) (t0 M) else if x = 11 then Po (some (.int (M.1 30 2))) (t0 M) else Po (some (.int (-2))) (t0 M))) := rfl
abbrev x_X9_about : ab_X := (some .int, fl_X9, [(266, 3, s_X9_leader), (250, 3, s_X9_speed), (272, 2, s_X9_stretchAt), (295, 1, s_X9_allThorns)], kl_X9, gs_X9, ab_ros)
theorem ca_X9_about_133 {v0 v1 v2 : Value} {st : List Value} {M : ab_M} {k : List Value → ab_M → Prop} : ab_ca x_X9_about (2 * 133) (v2 :: v1 :: v0 :: st) M k = (st.length ≤ 4 ∧ s_X9_leader [v0, v1, v2] M (fun r M' => k (r.toList ++ st) M')) := rfl
theorem ca_X9_about_125 {v0 v1 v2 : Value} {st : List Value} {M : ab_M} {k : List Value → ab_M → Prop} : ab_ca x_X9_about (2 * 125) (v2 :: v1 :: v0 :: st) M k = (st.length ≤ 4 ∧ s_X9_speed [v0, v1, v2] M (fun r M' => k (r.toList ++ st) M')) := rfl
theorem ca_X9_about_136 {v0 v1 : Value} {st : List Value} {M : ab_M} {k : List Value → ab_M → Prop} : ab_ca x_X9_about (2 * 136) (v1 :: v0 :: st) M k = (st.length ≤ 4 ∧ s_X9_stretchAt [v0, v1] M (fun r M' => k (r.toList ++ st) M')) := rfl
theorem ca_X9_about_147 {v0 : Value} {st : List Value} {M : ab_M} {k : List Value → ab_M → Prop} : ab_ca x_X9_about (2 * 147 + 1) (v0 :: st) M k = (st.length ≤ 4 ∧ s_X9_allThorns [v0] M (fun r M' => k (r.toList ++ st) M')) := rfl
theorem r_X9_about : ∀ (as : List Value) (M : ab_M) (Po : ab_P), s_X9_about as M Po → ∃ (q : Nat) (as' : List Value) (ci : Nat) (T : u_T) (N : Nat) (fs : List ab_F), as = .ref q :: as' ∧ ab_sh[q]? = some (.inl (ci, fs)) ∧ vwCl[ci]? = some (yX9_about.cls, T, N) := by
  intro as M Po h
  unfold s_X9_about at h
  split at h
  · first | exact ⟨_, _, 9, _, _, _, rfl, rfl, rfl⟩ | (rcases h.1 with rfl | rfl | rfl <;> exact ⟨_, _, 9, _, _, _, rfl, rfl, rfl⟩)
  · exact h.elim
theorem ldq38 {M : ab_M} {n : Nat} {w : Int32} {Po : ab_P} (hn : n ≤ 5) (hm : M.1 30 7 = nI n) (h : Po (some (.int (fv_M (lm_l M (M.1 38) w n none)))) M) : s_X9_leader [.ref 30, .ref 38, .int w] M Po := ⟨by decide, n, hn, hm, h⟩
theorem spq38 {M : ab_M} {i : Nat} {Po : ab_P} (hi : i < 5) (h : Po (some (.int (sm_M M (M.1 38) i))) M) : s_X9_speed [.ref 30, .ref 38, .int (nI i)] M Po := ⟨by decide, i, hi, rfl, h⟩
theorem saq9 {M : ab_M} {s : Nat} {x : Int32} {Po : ab_P} (hs : s ≤ 8) (hm : M.1 30 4 = nI s) (h : Po (some (.int (sa_l M x s 0 (-9)))) M) : s_X9_stretchAt [.ref 30, .int x] M Po := ⟨s, hs, hm, h⟩
theorem alq38 {M : ab_M} {Po : ab_P} (h : Po (some (.int (al_M (M.1 38)))) M) : s_X9_allThorns [.ref 38] M Po := ⟨by decide, h⟩
set_option maxRecDepth 20000 in
set_option maxHeartbeats 4000000 in
theorem c_X9_about {l : Launch} : ab_ctr l yX9_about cX9_about 3 (some .int) 3 69 s_X9_about := by
  refine ab_met x_X9_about (by decide) rfl fo_X9 ko_X9 so_X9 rfl (ab_cs_cons (ab_kV c_X9_leader ml_X9_133 v_X9_leader ⟨rfl, rfl⟩ r_X9_leader) (ab_cs_cons (ab_kV c_X9_speed ml_X9_125 v_X9_speed ⟨rfl, rfl⟩ r_X9_speed) (ab_cs_cons (ab_kV c_X9_stretchAt ml_X9_136 v_X9_stretchAt ⟨rfl, rfl⟩ r_X9_stretchAt) (ab_cs_cons (ab_kS c_X9_allThorns ml_X9_147 v_X9_allThorns ⟨rfl, rfl⟩) ab_cs_nil)))) ?_ ?_
  · intro as M Po h
    unfold s_X9_about at h
    split at h
    · simp [ab_e0]
    · exact h.elim
  · intro as M Po h G hG
    unfold s_X9_about at h
    split at h
    · simp only [ab_en, ab_e0, List.length_cons, List.length_nil, Nat.reduceAdd, Nat.reduceSub, List.replicate, List.cons_append, List.nil_append]
      obtain ⟨n, s, hc, h⟩ := h
      obtain ⟨hn, hm, hs, hst⟩ := hc
      have hr := lm_range (M := M) (P := M.1 38) (w := 31) n none hn (fun j e => by cases e)
      refine ab_go hG [] 80 _ _ _ _ ?_
      simp (decide := true) only [ew_n, ew_0, Option.toList_some, Option.toList_none, List.cons_append, List.nil_append, true_and, and_true, List.length_cons, List.length_nil, Nat.reduceAdd, Nat.reduceLeDiff, Int32.reduceAdd, Int32.reduceSub, Int32.reduceMul, Int32.reduceLT, Int32.reduceLE, Int32.reduceToNatClampNeg, ↓reduceIte, and_self, si_1, si_2, sl_1, sl_2, false_and, and_false, dX9_about_0, dX9_about_1, dX9_about_2, dX9_about_5, dX9_about_6, dX9_about_7, dX9_about_10, dX9_about_12, dX9_about_15, dX9_about_16, dX9_about_17, dX9_about_80, dX9_about_81, dX9_about_84, dX9_about_85, dX9_about_86, dX9_about_89, dX9_about_90, dX9_about_91, dX9_about_94, dX9_about_95, dX9_about_96, dX9_about_99, dX9_about_100, dX9_about_101, dX9_about_102, dX9_about_103, dX9_about_106, dX9_about_107, dX9_about_108, dX9_about_109, dX9_about_110, dX9_about_111, dX9_about_112, dX9_about_114, dX9_about_117, dX9_about_118, dX9_about_121, dX9_about_122, dX9_about_123, dX9_about_126, dX9_about_127, dX9_about_130, dX9_about_131, dX9_about_132, dX9_about_133, dX9_about_136, dX9_about_137, dX9_about_138, dX9_about_141, dX9_about_142, dX9_about_143, dX9_about_146, dX9_about_149, dX9_about_150, dX9_about_151, dX9_about_154, dX9_about_155, dX9_about_156, dX9_about_159, dX9_about_160, dX9_about_161, dX9_about_164, dX9_about_165, dX9_about_167, ca_X9_about_125, ca_X9_about_133, ca_X9_about_136, ca_X9_about_147, e_aload_n0, e_calls, e_callv, e_getfield, e_iaload, e_iload_n1, e_iload_n2, e_ireturn, e_istore_n2i, e_istore_n2n, e_istore_n2r, e_putfield, ea_38, ea_39, ea_40, gf_X9_108_30, gf_X9_111_30, gf_X9_114_30, gf_X9_151_30, gf_X9_31_30, gf_X9_69_30, gf_X9_78_30, j_bp_31, j_bp_m2, j_bp_m9, j_goto_118_12, j_ic_0, j_ic_1, j_icmp_ne_114_7, j_sw_X9_about_17, pf_X9_65_30, t0_r, t0_l, t0_38f, t0_39f, t0_40f, t0_sm, t0_lm, t0_sa, t0_bg, t0_hk, t0_30_2, t0_30_3, t0_30_4, t0_30_7, t0_30_10, t0_30_11, t0_30_13, t0_30_19, t0_30_22, t0_30_26, t0_30_27, t0_30_28, t0_30_29, t0_30_30, t0_30_31, t0_30_32, t0_30_35, t0_31, t0_32, t0_33, t0_34, t0_35, t0_36, t0_37, t0_38, t0_39, t0_40, t0_41, t0_42, t0_43, t0_44, t0_45, t0_46, t0_47, t0_48, ab_rn, bi_0, bi_1, ite_not]
      refine ldq38 (n := n) hn hm ?_
      simp (decide := true) only [ew_n, ew_0, Option.toList_some, Option.toList_none, List.cons_append, List.nil_append, true_and, and_true, List.length_cons, List.length_nil, Nat.reduceAdd, Nat.reduceLeDiff, Int32.reduceAdd, Int32.reduceSub, Int32.reduceMul, Int32.reduceLT, Int32.reduceLE, Int32.reduceToNatClampNeg, ↓reduceIte, and_self, si_1, si_2, sl_1, sl_2, false_and, and_false, dX9_about_0, dX9_about_1, dX9_about_2, dX9_about_5, dX9_about_6, dX9_about_7, dX9_about_10, dX9_about_12, dX9_about_15, dX9_about_16, dX9_about_17, dX9_about_80, dX9_about_81, dX9_about_84, dX9_about_85, dX9_about_86, dX9_about_89, dX9_about_90, dX9_about_91, dX9_about_94, dX9_about_95, dX9_about_96, dX9_about_99, dX9_about_100, dX9_about_101, dX9_about_102, dX9_about_103, dX9_about_106, dX9_about_107, dX9_about_108, dX9_about_109, dX9_about_110, dX9_about_111, dX9_about_112, dX9_about_114, dX9_about_117, dX9_about_118, dX9_about_121, dX9_about_122, dX9_about_123, dX9_about_126, dX9_about_127, dX9_about_130, dX9_about_131, dX9_about_132, dX9_about_133, dX9_about_136, dX9_about_137, dX9_about_138, dX9_about_141, dX9_about_142, dX9_about_143, dX9_about_146, dX9_about_149, dX9_about_150, dX9_about_151, dX9_about_154, dX9_about_155, dX9_about_156, dX9_about_159, dX9_about_160, dX9_about_161, dX9_about_164, dX9_about_165, dX9_about_167, ca_X9_about_125, ca_X9_about_133, ca_X9_about_136, ca_X9_about_147, e_aload_n0, e_calls, e_callv, e_getfield, e_iaload, e_iload_n1, e_iload_n2, e_ireturn, e_istore_n2i, e_istore_n2n, e_istore_n2r, e_putfield, ea_38, ea_39, ea_40, gf_X9_108_30, gf_X9_111_30, gf_X9_114_30, gf_X9_151_30, gf_X9_31_30, gf_X9_69_30, gf_X9_78_30, j_bp_31, j_bp_m2, j_bp_m9, j_goto_118_12, j_ic_0, j_ic_1, j_icmp_ne_114_7, j_sw_X9_about_17, pf_X9_65_30, t0_r, t0_l, t0_38f, t0_39f, t0_40f, t0_sm, t0_lm, t0_sa, t0_bg, t0_hk, t0_30_2, t0_30_3, t0_30_4, t0_30_7, t0_30_10, t0_30_11, t0_30_13, t0_30_19, t0_30_22, t0_30_26, t0_30_27, t0_30_28, t0_30_29, t0_30_30, t0_30_31, t0_30_32, t0_30_35, t0_31, t0_32, t0_33, t0_34, t0_35, t0_36, t0_37, t0_38, t0_39, t0_40, t0_41, t0_42, t0_43, t0_44, t0_45, t0_46, t0_47, t0_48, ab_rn, bi_0, bi_1, ite_not]
      unfold vl_M at h
      generalize lm_l M (M.1 38) 31 n none = L at h hr ⊢
      refine ite_i (fun hh => ?_) (fun hh => ?_)
      · rw [if_pos hh] at h
        exact h
      · rw [if_neg hh] at h
        refine ite_i (fun hh => ?_) (fun hh => ?_)
        · rw [if_pos hh] at h
          exact h
        · rw [if_neg hh] at h
          refine ite_i (fun hh => ?_) (fun hh => ?_)
          · rw [if_pos hh] at h
            exact h
          · rw [if_neg hh] at h
            refine ite_i (fun hh => ?_) (fun hh => ?_)
            · rw [if_pos hh] at h
              exact h
            · rw [if_neg hh] at h
              refine ite_i (fun hh => ?_) (fun hh => ?_)
              · rw [if_pos hh] at h
                exact h
              · rw [if_neg hh] at h
                refine ite_i (fun hh => ?_) (fun hh => ?_)
                · rw [if_pos hh] at h
                  exact h
                · rw [if_neg hh] at h
                  refine ite_i (fun hh => ?_) (fun hh => ?_)
                  · rw [if_pos hh] at h
                    cases L with
                    | none =>
                      rw [if_pos (show fv_M none = -9 from rfl)]
                      exact h
                    | some j =>
                      rw [if_neg (show ¬ fv_M (some j) = -9 from fv_ne (hr j rfl))]
                      refine spq38 (hr j rfl) ?_
                      simp (decide := true) only [ew_n, ew_0, Option.toList_some, Option.toList_none, List.cons_append, List.nil_append, true_and, and_true, List.length_cons, List.length_nil, Nat.reduceAdd, Nat.reduceLeDiff, Int32.reduceAdd, Int32.reduceSub, Int32.reduceMul, Int32.reduceLT, Int32.reduceLE, Int32.reduceToNatClampNeg, ↓reduceIte, and_self, si_1, si_2, sl_1, sl_2, false_and, and_false, dX9_about_0, dX9_about_1, dX9_about_2, dX9_about_5, dX9_about_6, dX9_about_7, dX9_about_10, dX9_about_12, dX9_about_15, dX9_about_16, dX9_about_17, dX9_about_80, dX9_about_81, dX9_about_84, dX9_about_85, dX9_about_86, dX9_about_89, dX9_about_90, dX9_about_91, dX9_about_94, dX9_about_95, dX9_about_96, dX9_about_99, dX9_about_100, dX9_about_101, dX9_about_102, dX9_about_103, dX9_about_106, dX9_about_107, dX9_about_108, dX9_about_109, dX9_about_110, dX9_about_111, dX9_about_112, dX9_about_114, dX9_about_117, dX9_about_118, dX9_about_121, dX9_about_122, dX9_about_123, dX9_about_126, dX9_about_127, dX9_about_130, dX9_about_131, dX9_about_132, dX9_about_133, dX9_about_136, dX9_about_137, dX9_about_138, dX9_about_141, dX9_about_142, dX9_about_143, dX9_about_146, dX9_about_149, dX9_about_150, dX9_about_151, dX9_about_154, dX9_about_155, dX9_about_156, dX9_about_159, dX9_about_160, dX9_about_161, dX9_about_164, dX9_about_165, dX9_about_167, ca_X9_about_125, ca_X9_about_133, ca_X9_about_136, ca_X9_about_147, e_aload_n0, e_calls, e_callv, e_getfield, e_iaload, e_iload_n1, e_iload_n2, e_ireturn, e_istore_n2i, e_istore_n2n, e_istore_n2r, e_putfield, ea_38, ea_39, ea_40, gf_X9_108_30, gf_X9_111_30, gf_X9_114_30, gf_X9_151_30, gf_X9_31_30, gf_X9_69_30, gf_X9_78_30, j_bp_31, j_bp_m2, j_bp_m9, j_goto_118_12, j_ic_0, j_ic_1, j_icmp_ne_114_7, j_sw_X9_about_17, pf_X9_65_30, t0_r, t0_l, t0_38f, t0_39f, t0_40f, t0_sm, t0_lm, t0_sa, t0_bg, t0_hk, t0_30_2, t0_30_3, t0_30_4, t0_30_7, t0_30_10, t0_30_11, t0_30_13, t0_30_19, t0_30_22, t0_30_26, t0_30_27, t0_30_28, t0_30_29, t0_30_30, t0_30_31, t0_30_32, t0_30_35, t0_31, t0_32, t0_33, t0_34, t0_35, t0_36, t0_37, t0_38, t0_39, t0_40, t0_41, t0_42, t0_43, t0_44, t0_45, t0_46, t0_47, t0_48, ab_rn, bi_0, bi_1, ite_not]
                      exact h
                  · rw [if_neg hh] at h
                    refine ite_i (fun hh => ?_) (fun hh => ?_)
                    · rw [if_pos hh] at h
                      refine saq9 hs hst ?_
                      simp (decide := true) only [ew_n, ew_0, Option.toList_some, Option.toList_none, List.cons_append, List.nil_append, true_and, and_true, List.length_cons, List.length_nil, Nat.reduceAdd, Nat.reduceLeDiff, Int32.reduceAdd, Int32.reduceSub, Int32.reduceMul, Int32.reduceLT, Int32.reduceLE, Int32.reduceToNatClampNeg, ↓reduceIte, and_self, si_1, si_2, sl_1, sl_2, false_and, and_false, dX9_about_0, dX9_about_1, dX9_about_2, dX9_about_5, dX9_about_6, dX9_about_7, dX9_about_10, dX9_about_12, dX9_about_15, dX9_about_16, dX9_about_17, dX9_about_80, dX9_about_81, dX9_about_84, dX9_about_85, dX9_about_86, dX9_about_89, dX9_about_90, dX9_about_91, dX9_about_94, dX9_about_95, dX9_about_96, dX9_about_99, dX9_about_100, dX9_about_101, dX9_about_102, dX9_about_103, dX9_about_106, dX9_about_107, dX9_about_108, dX9_about_109, dX9_about_110, dX9_about_111, dX9_about_112, dX9_about_114, dX9_about_117, dX9_about_118, dX9_about_121, dX9_about_122, dX9_about_123, dX9_about_126, dX9_about_127, dX9_about_130, dX9_about_131, dX9_about_132, dX9_about_133, dX9_about_136, dX9_about_137, dX9_about_138, dX9_about_141, dX9_about_142, dX9_about_143, dX9_about_146, dX9_about_149, dX9_about_150, dX9_about_151, dX9_about_154, dX9_about_155, dX9_about_156, dX9_about_159, dX9_about_160, dX9_about_161, dX9_about_164, dX9_about_165, dX9_about_167, ca_X9_about_125, ca_X9_about_133, ca_X9_about_136, ca_X9_about_147, e_aload_n0, e_calls, e_callv, e_getfield, e_iaload, e_iload_n1, e_iload_n2, e_ireturn, e_istore_n2i, e_istore_n2n, e_istore_n2r, e_putfield, ea_38, ea_39, ea_40, gf_X9_108_30, gf_X9_111_30, gf_X9_114_30, gf_X9_151_30, gf_X9_31_30, gf_X9_69_30, gf_X9_78_30, j_bp_31, j_bp_m2, j_bp_m9, j_goto_118_12, j_ic_0, j_ic_1, j_icmp_ne_114_7, j_sw_X9_about_17, pf_X9_65_30, t0_r, t0_l, t0_38f, t0_39f, t0_40f, t0_sm, t0_lm, t0_sa, t0_bg, t0_hk, t0_30_2, t0_30_3, t0_30_4, t0_30_7, t0_30_10, t0_30_11, t0_30_13, t0_30_19, t0_30_22, t0_30_26, t0_30_27, t0_30_28, t0_30_29, t0_30_30, t0_30_31, t0_30_32, t0_30_35, t0_31, t0_32, t0_33, t0_34, t0_35, t0_36, t0_37, t0_38, t0_39, t0_40, t0_41, t0_42, t0_43, t0_44, t0_45, t0_46, t0_47, t0_48, ab_rn, bi_0, bi_1, ite_not]
                      exact h
                    · rw [if_neg hh] at h
                      refine ite_i (fun hh => ?_) (fun hh => ?_)
                      · rw [if_pos hh] at h
                        refine alq38 ?_
                        simp (decide := true) only [ew_n, ew_0, Option.toList_some, Option.toList_none, List.cons_append, List.nil_append, true_and, and_true, List.length_cons, List.length_nil, Nat.reduceAdd, Nat.reduceLeDiff, Int32.reduceAdd, Int32.reduceSub, Int32.reduceMul, Int32.reduceLT, Int32.reduceLE, Int32.reduceToNatClampNeg, ↓reduceIte, and_self, si_1, si_2, sl_1, sl_2, false_and, and_false, dX9_about_0, dX9_about_1, dX9_about_2, dX9_about_5, dX9_about_6, dX9_about_7, dX9_about_10, dX9_about_12, dX9_about_15, dX9_about_16, dX9_about_17, dX9_about_80, dX9_about_81, dX9_about_84, dX9_about_85, dX9_about_86, dX9_about_89, dX9_about_90, dX9_about_91, dX9_about_94, dX9_about_95, dX9_about_96, dX9_about_99, dX9_about_100, dX9_about_101, dX9_about_102, dX9_about_103, dX9_about_106, dX9_about_107, dX9_about_108, dX9_about_109, dX9_about_110, dX9_about_111, dX9_about_112, dX9_about_114, dX9_about_117, dX9_about_118, dX9_about_121, dX9_about_122, dX9_about_123, dX9_about_126, dX9_about_127, dX9_about_130, dX9_about_131, dX9_about_132, dX9_about_133, dX9_about_136, dX9_about_137, dX9_about_138, dX9_about_141, dX9_about_142, dX9_about_143, dX9_about_146, dX9_about_149, dX9_about_150, dX9_about_151, dX9_about_154, dX9_about_155, dX9_about_156, dX9_about_159, dX9_about_160, dX9_about_161, dX9_about_164, dX9_about_165, dX9_about_167, ca_X9_about_125, ca_X9_about_133, ca_X9_about_136, ca_X9_about_147, e_aload_n0, e_calls, e_callv, e_getfield, e_iaload, e_iload_n1, e_iload_n2, e_ireturn, e_istore_n2i, e_istore_n2n, e_istore_n2r, e_putfield, ea_38, ea_39, ea_40, gf_X9_108_30, gf_X9_111_30, gf_X9_114_30, gf_X9_151_30, gf_X9_31_30, gf_X9_69_30, gf_X9_78_30, j_bp_31, j_bp_m2, j_bp_m9, j_goto_118_12, j_ic_0, j_ic_1, j_icmp_ne_114_7, j_sw_X9_about_17, pf_X9_65_30, t0_r, t0_l, t0_38f, t0_39f, t0_40f, t0_sm, t0_lm, t0_sa, t0_bg, t0_hk, t0_30_2, t0_30_3, t0_30_4, t0_30_7, t0_30_10, t0_30_11, t0_30_13, t0_30_19, t0_30_22, t0_30_26, t0_30_27, t0_30_28, t0_30_29, t0_30_30, t0_30_31, t0_30_32, t0_30_35, t0_31, t0_32, t0_33, t0_34, t0_35, t0_36, t0_37, t0_38, t0_39, t0_40, t0_41, t0_42, t0_43, t0_44, t0_45, t0_46, t0_47, t0_48, ab_rn, bi_0, bi_1, ite_not]
                        exact h
                      · rw [if_neg hh] at h
                        refine ite_i (fun hh => ?_) (fun hh => ?_)
                        · rw [if_pos hh] at h
                          exact h
                        · rw [if_neg hh] at h
                          refine ite_i (fun hh => ?_) (fun hh => ?_)
                          · rw [if_pos hh] at h
                            exact h
                          · rw [if_neg hh] at h
                            refine ite_i (fun hh => ?_) (fun hh => ?_)
                            · rw [if_pos hh] at h
                              exact h
                            · rw [if_neg hh] at h
                              exact h

    · exact h.elim

def s_X9_man : ab_Sem := fun as M Po => match as with
  | [.ref 30, .int x, .int y] => ∃ n s : Nat, ct_M M n s ∧ (∀ i, i < n → x = nI i → if y = 0 then Po (some (.int (M.1 34 i))) (t0 M) else if y = 1 then Po (some (.int (M.1 35 i))) (t0 M) else if y = 2 then Po (some (.int (M.1 38 (2 + i)))) (t0 M) else if y = 3 then Po (some (.int (sm_M M (M.1 38) i))) (t0 M) else Po (some (.int (-2))) (t0 M)) ∧ ((∀ i, i < n → ¬ x = nI i) → Po (some (.int (-1))) (t0 M))
  | _ => False
theorem q_X9_man {x y : Int32} {M : ab_M} {Po : ab_P} : s_X9_man [.ref 30, .int x, .int y] M Po = (∃ n s : Nat, ct_M M n s ∧ (∀ i, i < n → x = nI i → if y = 0 then Po (some (.int (M.1 34 i))) (t0 M) else if y = 1 then Po (some (.int (M.1 35 i))) (t0 M) else if y = 2 then Po (some (.int (M.1 38 (2 + i)))) (t0 M) else if y = 3 then Po (some (.int (sm_M M (M.1 38) i))) (t0 M) else Po (some (.int (-2))) (t0 M)) ∧ ((∀ i, i < n → ¬ x = nI i) → Po (some (.int (-1))) (t0 M))) := rfl
abbrev x_X9_man : ab_X := (some .int, fl_X9, [(308, 2, s_X9_noMan), (250, 3, s_X9_speed)], kl_X9, gs_X9, ab_ros)
theorem ca_X9_man_154 {v0 v1 : Value} {st : List Value} {M : ab_M} {k : List Value → ab_M → Prop} : ab_ca x_X9_man (2 * 154) (v1 :: v0 :: st) M k = (st.length ≤ 4 ∧ s_X9_noMan [v0, v1] M (fun r M' => k (r.toList ++ st) M')) := rfl
theorem ca_X9_man_125 {v0 v1 v2 : Value} {st : List Value} {M : ab_M} {k : List Value → ab_M → Prop} : ab_ca x_X9_man (2 * 125) (v2 :: v1 :: v0 :: st) M k = (st.length ≤ 4 ∧ s_X9_speed [v0, v1, v2] M (fun r M' => k (r.toList ++ st) M')) := rfl
theorem r_X9_man : ∀ (as : List Value) (M : ab_M) (Po : ab_P), s_X9_man as M Po → ∃ (q : Nat) (as' : List Value) (ci : Nat) (T : u_T) (N : Nat) (fs : List ab_F), as = .ref q :: as' ∧ ab_sh[q]? = some (.inl (ci, fs)) ∧ vwCl[ci]? = some (yX9_man.cls, T, N) := by
  intro as M Po h
  unfold s_X9_man at h
  split at h
  · first | exact ⟨_, _, 9, _, _, _, rfl, rfl, rfl⟩ | (rcases h.1 with rfl | rfl | rfl <;> exact ⟨_, _, 9, _, _, _, rfl, rfl, rfl⟩)
  · exact h.elim
set_option maxRecDepth 20000 in
set_option maxHeartbeats 4000000 in
theorem c_X9_man {l : Launch} : ab_ctr l yX9_man cX9_man 3 (some .int) 2 46 s_X9_man := by
  refine ab_met x_X9_man (by decide) rfl fo_X9 ko_X9 so_X9 rfl (ab_cs_cons (ab_kV c_X9_noMan ml_X9_154 v_X9_noMan ⟨rfl, rfl⟩ r_X9_noMan) (ab_cs_cons (ab_kV c_X9_speed ml_X9_125 v_X9_speed ⟨rfl, rfl⟩ r_X9_speed) ab_cs_nil)) ?_ ?_
  · intro as M Po h
    unfold s_X9_man at h
    split at h
    · simp [ab_e0]
    · exact h.elim
  · intro as M Po h G hG
    unfold s_X9_man at h
    split at h
    · simp only [ab_en, ab_e0, List.length_cons, List.length_nil, Nat.reduceAdd, Nat.reduceSub, List.replicate, List.cons_append, List.nil_append]
      rename_i x y
      obtain ⟨n, s, hc, hy, hz⟩ := h
      obtain ⟨hn, hm, hs, hst⟩ := hc
      by_cases hx : ∃ i, i < n ∧ x = nI i
      · obtain ⟨i, hi, rfl⟩ := hx
        have h := hy i hi rfl
        have nm := nm_y (M := t0 M) hn hm hi
        obtain ⟨e1, e2, e3, e4⟩ := c_2i (i := i) (by omega)
        refine ab_go hG [] 80 _ _ _ _ ?_
        simp (decide := true) only [ew_n, ew_0, Option.toList_some, Option.toList_none, List.cons_append, List.nil_append, true_and, and_true, List.length_cons, List.length_nil, Nat.reduceAdd, Nat.reduceLeDiff, Int32.reduceAdd, Int32.reduceSub, Int32.reduceMul, Int32.reduceLT, Int32.reduceLE, Int32.reduceToNatClampNeg, ↓reduceIte, and_self, si_1, si_2, sl_1, sl_2, false_and, and_false, dX9_man_0, dX9_man_1, dX9_man_2, dX9_man_5, dX9_man_6, dX9_man_7, dX9_man_10, dX9_man_13, dX9_man_14, dX9_man_15, dX9_man_16, dX9_man_48, dX9_man_49, dX9_man_52, dX9_man_53, dX9_man_54, dX9_man_55, dX9_man_56, dX9_man_59, dX9_man_60, dX9_man_61, dX9_man_62, dX9_man_63, dX9_man_66, dX9_man_67, dX9_man_68, dX9_man_69, dX9_man_70, dX9_man_71, dX9_man_72, dX9_man_73, dX9_man_76, dX9_man_77, dX9_man_80, dX9_man_81, dX9_man_83, ca_X9_man_125, ca_X9_man_154, e_aload_n0, e_callv, e_getfield, e_iadd, e_iaload, e_iload_n1, e_iload_n2, e_ireturn, e_putfield, ea_34, ea_35, ea_38, gf_X9_19_30, gf_X9_22_30, gf_X9_31_30, j_bp_m2, j_ic_0, j_ic_2, j_ic_m1, j_if_eq_10_5, j_sw_X9_man_16, pf_X9_65_30, t0_r, t0_l, t0_38f, t0_39f, t0_40f, t0_sm, t0_lm, t0_sa, t0_bg, t0_hk, t0_30_2, t0_30_3, t0_30_4, t0_30_7, t0_30_10, t0_30_11, t0_30_13, t0_30_19, t0_30_22, t0_30_26, t0_30_27, t0_30_28, t0_30_29, t0_30_30, t0_30_31, t0_30_32, t0_30_35, t0_31, t0_32, t0_33, t0_34, t0_35, t0_36, t0_37, t0_38, t0_39, t0_40, t0_41, t0_42, t0_43, t0_44, t0_45, t0_46, t0_47, t0_48, nm, e1, e3, ab_rn, bi_0, bi_1, ite_not]
        split <;> (rename_i hh; first | rw [if_pos hh] at h | rw [if_neg hh] at h)
        · exact ⟨e4, h⟩
        · split <;> (rename_i hh; first | rw [if_pos hh] at h | rw [if_neg hh] at h)
          · exact ⟨e4, h⟩
          · split <;> (rename_i hh; first | rw [if_pos hh] at h | rw [if_neg hh] at h)
            · exact ⟨e2, h⟩
            · split <;> (rename_i hh; first | rw [if_pos hh] at h | rw [if_neg hh] at h)
              · refine spq38 (by omega) ?_
                simp (decide := true) only [ew_n, ew_0, Option.toList_some, Option.toList_none, List.cons_append, List.nil_append, true_and, and_true, List.length_cons, List.length_nil, Nat.reduceAdd, Nat.reduceLeDiff, Int32.reduceAdd, Int32.reduceSub, Int32.reduceMul, Int32.reduceLT, Int32.reduceLE, Int32.reduceToNatClampNeg, ↓reduceIte, and_self, si_1, si_2, sl_1, sl_2, false_and, and_false, dX9_man_0, dX9_man_1, dX9_man_2, dX9_man_5, dX9_man_6, dX9_man_7, dX9_man_10, dX9_man_13, dX9_man_14, dX9_man_15, dX9_man_16, dX9_man_48, dX9_man_49, dX9_man_52, dX9_man_53, dX9_man_54, dX9_man_55, dX9_man_56, dX9_man_59, dX9_man_60, dX9_man_61, dX9_man_62, dX9_man_63, dX9_man_66, dX9_man_67, dX9_man_68, dX9_man_69, dX9_man_70, dX9_man_71, dX9_man_72, dX9_man_73, dX9_man_76, dX9_man_77, dX9_man_80, dX9_man_81, dX9_man_83, ca_X9_man_125, ca_X9_man_154, e_aload_n0, e_callv, e_getfield, e_iadd, e_iaload, e_iload_n1, e_iload_n2, e_ireturn, e_putfield, ea_34, ea_35, ea_38, ea_39, ea_40, gf_X9_19_30, gf_X9_22_30, gf_X9_31_30, j_bp_m2, j_ic_0, j_ic_2, j_ic_m1, j_if_eq_10_5, j_sw_X9_man_16, pf_X9_65_30, t0_r, t0_l, t0_38f, t0_39f, t0_40f, t0_sm, t0_lm, t0_sa, t0_bg, t0_hk, t0_30_2, t0_30_3, t0_30_4, t0_30_7, t0_30_10, t0_30_11, t0_30_13, t0_30_19, t0_30_22, t0_30_26, t0_30_27, t0_30_28, t0_30_29, t0_30_30, t0_30_31, t0_30_32, t0_30_35, t0_31, t0_32, t0_33, t0_34, t0_35, t0_36, t0_37, t0_38, t0_39, t0_40, t0_41, t0_42, t0_43, t0_44, t0_45, t0_46, t0_47, t0_48, ab_rn, bi_0, bi_1, ite_not]
                exact h
              · exact h
      · have hx2 : ∀ i, i < n → ¬ x = nI i := fun i hi e => hx ⟨i, hi, e⟩
        have h := hz hx2
        have nm := nm_n (M := t0 M) hn hm hx2
        refine ab_go hG [] 80 _ _ _ _ ?_
        simp (decide := true) only [ew_n, ew_0, Option.toList_some, Option.toList_none, List.cons_append, List.nil_append, true_and, and_true, List.length_cons, List.length_nil, Nat.reduceAdd, Nat.reduceLeDiff, Int32.reduceAdd, Int32.reduceSub, Int32.reduceMul, Int32.reduceLT, Int32.reduceLE, Int32.reduceToNatClampNeg, ↓reduceIte, and_self, si_1, si_2, sl_1, sl_2, false_and, and_false, dX9_man_0, dX9_man_1, dX9_man_2, dX9_man_5, dX9_man_6, dX9_man_7, dX9_man_10, dX9_man_13, dX9_man_14, dX9_man_15, dX9_man_16, dX9_man_48, dX9_man_49, dX9_man_52, dX9_man_53, dX9_man_54, dX9_man_55, dX9_man_56, dX9_man_59, dX9_man_60, dX9_man_61, dX9_man_62, dX9_man_63, dX9_man_66, dX9_man_67, dX9_man_68, dX9_man_69, dX9_man_70, dX9_man_71, dX9_man_72, dX9_man_73, dX9_man_76, dX9_man_77, dX9_man_80, dX9_man_81, dX9_man_83, ca_X9_man_125, ca_X9_man_154, e_aload_n0, e_callv, e_getfield, e_iadd, e_iaload, e_iload_n1, e_iload_n2, e_ireturn, e_putfield, ea_34, ea_35, ea_38, gf_X9_19_30, gf_X9_22_30, gf_X9_31_30, j_bp_m2, j_ic_0, j_ic_2, j_ic_m1, j_if_eq_10_5, j_sw_X9_man_16, pf_X9_65_30, t0_r, t0_l, t0_38f, t0_39f, t0_40f, t0_sm, t0_lm, t0_sa, t0_bg, t0_hk, t0_30_2, t0_30_3, t0_30_4, t0_30_7, t0_30_10, t0_30_11, t0_30_13, t0_30_19, t0_30_22, t0_30_26, t0_30_27, t0_30_28, t0_30_29, t0_30_30, t0_30_31, t0_30_32, t0_30_35, t0_31, t0_32, t0_33, t0_34, t0_35, t0_36, t0_37, t0_38, t0_39, t0_40, t0_41, t0_42, t0_43, t0_44, t0_45, t0_46, t0_47, t0_48, nm, ab_rn, bi_0, bi_1, ite_not]
        exact h
    · exact h.elim

def s_X9_stretch : ab_Sem := fun as M Po => match as with
  | [.ref 30, .int x, .int y] => ∃ n s : Nat, ct_M M n s ∧ (∀ i, i < s → x = nI i → if y = 0 then Po (some (.int (M.1 32 i))) (t0 M) else if y = 1 then Po (some (.int (M.1 33 i))) (t0 M) else if y = 2 then Po (some (.int (bg_M M i))) (t0 M) else Po (some (.int (-2))) (t0 M)) ∧ ((∀ i, i < s → ¬ x = nI i) → Po (some (.int (-1))) (t0 M))
  | _ => False
theorem q_X9_stretch {x y : Int32} {M : ab_M} {Po : ab_P} : s_X9_stretch [.ref 30, .int x, .int y] M Po = (∃ n s : Nat, ct_M M n s ∧ (∀ i, i < s → x = nI i → if y = 0 then Po (some (.int (M.1 32 i))) (t0 M) else if y = 1 then Po (some (.int (M.1 33 i))) (t0 M) else if y = 2 then Po (some (.int (bg_M M i))) (t0 M) else Po (some (.int (-2))) (t0 M)) ∧ ((∀ i, i < s → ¬ x = nI i) → Po (some (.int (-1))) (t0 M))) := rfl
abbrev x_X9_stretch : ab_X := (some .int, fl_X9, [(145, 3, s_X9_in), (258, 2, s_X9_begins)], kl_X9, gs_X9, ab_ros)
theorem ca_X9_stretch_72 {v0 v1 v2 : Value} {st : List Value} {M : ab_M} {k : List Value → ab_M → Prop} : ab_ca x_X9_stretch (2 * 72 + 1) (v2 :: v1 :: v0 :: st) M k = (st.length ≤ 4 ∧ s_X9_in [v0, v1, v2] M (fun r M' => k (r.toList ++ st) M')) := rfl
theorem ca_X9_stretch_129 {v0 v1 : Value} {st : List Value} {M : ab_M} {k : List Value → ab_M → Prop} : ab_ca x_X9_stretch (2 * 129) (v1 :: v0 :: st) M k = (st.length ≤ 4 ∧ s_X9_begins [v0, v1] M (fun r M' => k (r.toList ++ st) M')) := rfl
theorem r_X9_stretch : ∀ (as : List Value) (M : ab_M) (Po : ab_P), s_X9_stretch as M Po → ∃ (q : Nat) (as' : List Value) (ci : Nat) (T : u_T) (N : Nat) (fs : List ab_F), as = .ref q :: as' ∧ ab_sh[q]? = some (.inl (ci, fs)) ∧ vwCl[ci]? = some (yX9_stretch.cls, T, N) := by
  intro as M Po h
  unfold s_X9_stretch at h
  split at h
  · first | exact ⟨_, _, 9, _, _, _, rfl, rfl, rfl⟩ | (rcases h.1 with rfl | rfl | rfl <;> exact ⟨_, _, 9, _, _, _, rfl, rfl, rfl⟩)
  · exact h.elim
theorem bgq9 {M : ab_M} {i : Nat} {Po : ab_P} (hi : i ≤ 8) (h : Po (some (.int (bg_M M i))) M) : s_X9_begins [.ref 30, .int (nI i)] M Po := ⟨i, hi, rfl, h⟩
set_option maxRecDepth 20000 in
set_option maxHeartbeats 4000000 in
theorem c_X9_stretch {l : Launch} : ab_ctr l yX9_stretch cX9_stretch 3 (some .int) 1 25 s_X9_stretch := by
  refine ab_met x_X9_stretch (by decide) rfl fo_X9 ko_X9 so_X9 rfl (ab_cs_cons (ab_kS c_X9_in ml_X9_72 v_X9_in ⟨rfl, rfl⟩) (ab_cs_cons (ab_kV c_X9_begins ml_X9_129 v_X9_begins ⟨rfl, rfl⟩ r_X9_begins) ab_cs_nil)) ?_ ?_
  · intro as M Po h
    unfold s_X9_stretch at h
    split at h
    · simp [ab_e0]
    · exact h.elim
  · intro as M Po h G hG
    unfold s_X9_stretch at h
    split at h
    · simp only [ab_en, ab_e0, List.length_cons, List.length_nil, Nat.reduceAdd, Nat.reduceSub, List.replicate, List.cons_append, List.nil_append]
      rename_i x y
      obtain ⟨n, s, hc, hy, hz⟩ := h
      obtain ⟨hn, hm, hs, hst⟩ := hc
      by_cases hx : ∃ i, i < s ∧ x = nI i
      · obtain ⟨i, hi, rfl⟩ := hx
        have h := hy i hi rfl
        have nm := in_y hs hi
        obtain ⟨e3, e4⟩ := c_8 (i := i) (by omega)
        refine ab_go hG [] 80 _ _ _ _ ?_
        simp (decide := true) only [ew_n, ew_0, Option.toList_some, Option.toList_none, List.cons_append, List.nil_append, true_and, and_true, List.length_cons, List.length_nil, Nat.reduceAdd, Nat.reduceLeDiff, Int32.reduceAdd, Int32.reduceSub, Int32.reduceMul, Int32.reduceLT, Int32.reduceLE, Int32.reduceToNatClampNeg, ↓reduceIte, and_self, si_1, si_2, sl_1, sl_2, false_and, and_false, dX9_stretch_0, dX9_stretch_1, dX9_stretch_2, dX9_stretch_5, dX9_stretch_6, dX9_stretch_7, dX9_stretch_8, dX9_stretch_9, dX9_stretch_12, dX9_stretch_13, dX9_stretch_14, dX9_stretch_15, dX9_stretch_18, dX9_stretch_21, dX9_stretch_22, dX9_stretch_23, dX9_stretch_24, dX9_stretch_52, dX9_stretch_53, dX9_stretch_56, dX9_stretch_57, dX9_stretch_58, dX9_stretch_59, dX9_stretch_60, dX9_stretch_63, dX9_stretch_64, dX9_stretch_65, dX9_stretch_66, dX9_stretch_67, dX9_stretch_68, dX9_stretch_71, dX9_stretch_72, dX9_stretch_74, ca_X9_stretch_129, ca_X9_stretch_72, e_aload_n0, e_calls, e_callv, e_getfield, e_i2l, e_iaload, e_iload_n1, e_iload_n2, e_ireturn, e_isub, e_lconst0, e_putfield, ea_32, ea_33, gf_X9_108_30, gf_X9_13_30, gf_X9_16_30, j_bp_m2, j_ic_0, j_ic_1, j_ic_m1, j_if_ne_18_5, j_sw_X9_stretch_24, pf_X9_65_30, q_X9_in, wi_0, wi_lt, wi_g255, wi_g40, wi_g20, wi_g4, wi_g3, wi_g9, wi_g10, wi_g30, wi_g1, wi_l255, wi_l40, wi_l20, wi_l4, wi_l3, wi_l9, wi_l10, wi_l30, wi_l1, t0_r, t0_l, t0_38f, t0_39f, t0_40f, t0_sm, t0_lm, t0_sa, t0_bg, t0_hk, t0_30_2, t0_30_3, t0_30_4, t0_30_7, t0_30_10, t0_30_11, t0_30_13, t0_30_19, t0_30_22, t0_30_26, t0_30_27, t0_30_28, t0_30_29, t0_30_30, t0_30_31, t0_30_32, t0_30_35, t0_31, t0_32, t0_33, t0_34, t0_35, t0_36, t0_37, t0_38, t0_39, t0_40, t0_41, t0_42, t0_43, t0_44, t0_45, t0_46, t0_47, t0_48, hst, e3, ab_rn, bi_0, bi_1, ite_not]
        rw [if_pos nm]
        split <;> (rename_i hh; first | rw [if_pos hh] at h | rw [if_neg hh] at h)
        · exact ⟨e4, h⟩
        · split <;> (rename_i hh; first | rw [if_pos hh] at h | rw [if_neg hh] at h)
          · exact ⟨e4, h⟩
          · split <;> (rename_i hh; first | rw [if_pos hh] at h | rw [if_neg hh] at h)
            · refine bgq9 (by omega) ?_
              simp (decide := true) only [ew_n, ew_0, Option.toList_some, Option.toList_none, List.cons_append, List.nil_append, true_and, and_true, List.length_cons, List.length_nil, Nat.reduceAdd, Nat.reduceLeDiff, Int32.reduceAdd, Int32.reduceSub, Int32.reduceMul, Int32.reduceLT, Int32.reduceLE, Int32.reduceToNatClampNeg, ↓reduceIte, and_self, si_1, si_2, sl_1, sl_2, false_and, and_false, dX9_stretch_0, dX9_stretch_1, dX9_stretch_2, dX9_stretch_5, dX9_stretch_6, dX9_stretch_7, dX9_stretch_8, dX9_stretch_9, dX9_stretch_12, dX9_stretch_13, dX9_stretch_14, dX9_stretch_15, dX9_stretch_18, dX9_stretch_21, dX9_stretch_22, dX9_stretch_23, dX9_stretch_24, dX9_stretch_52, dX9_stretch_53, dX9_stretch_56, dX9_stretch_57, dX9_stretch_58, dX9_stretch_59, dX9_stretch_60, dX9_stretch_63, dX9_stretch_64, dX9_stretch_65, dX9_stretch_66, dX9_stretch_67, dX9_stretch_68, dX9_stretch_71, dX9_stretch_72, dX9_stretch_74, ca_X9_stretch_129, ca_X9_stretch_72, e_aload_n0, e_calls, e_callv, e_getfield, e_i2l, e_iaload, e_iload_n1, e_iload_n2, e_ireturn, e_isub, e_lconst0, e_putfield, ea_32, ea_33, ea_38, ea_39, ea_40, gf_X9_108_30, gf_X9_13_30, gf_X9_16_30, j_bp_m2, j_ic_0, j_ic_1, j_ic_m1, j_if_ne_18_5, j_sw_X9_stretch_24, pf_X9_65_30, q_X9_in, t0_r, t0_l, t0_38f, t0_39f, t0_40f, t0_sm, t0_lm, t0_sa, t0_bg, t0_hk, t0_30_2, t0_30_3, t0_30_4, t0_30_7, t0_30_10, t0_30_11, t0_30_13, t0_30_19, t0_30_22, t0_30_26, t0_30_27, t0_30_28, t0_30_29, t0_30_30, t0_30_31, t0_30_32, t0_30_35, t0_31, t0_32, t0_33, t0_34, t0_35, t0_36, t0_37, t0_38, t0_39, t0_40, t0_41, t0_42, t0_43, t0_44, t0_45, t0_46, t0_47, t0_48, ab_rn, bi_0, bi_1, ite_not]
              exact h
            · exact h
      · have hx2 : ∀ i, i < s → ¬ x = nI i := fun i hi e => hx ⟨i, hi, e⟩
        have h := hz hx2
        have nm := in_n hs hx2
        refine ab_go hG [] 80 _ _ _ _ ?_
        simp (decide := true) only [ew_n, ew_0, Option.toList_some, Option.toList_none, List.cons_append, List.nil_append, true_and, and_true, List.length_cons, List.length_nil, Nat.reduceAdd, Nat.reduceLeDiff, Int32.reduceAdd, Int32.reduceSub, Int32.reduceMul, Int32.reduceLT, Int32.reduceLE, Int32.reduceToNatClampNeg, ↓reduceIte, and_self, si_1, si_2, sl_1, sl_2, false_and, and_false, dX9_stretch_0, dX9_stretch_1, dX9_stretch_2, dX9_stretch_5, dX9_stretch_6, dX9_stretch_7, dX9_stretch_8, dX9_stretch_9, dX9_stretch_12, dX9_stretch_13, dX9_stretch_14, dX9_stretch_15, dX9_stretch_18, dX9_stretch_21, dX9_stretch_22, dX9_stretch_23, dX9_stretch_24, dX9_stretch_52, dX9_stretch_53, dX9_stretch_56, dX9_stretch_57, dX9_stretch_58, dX9_stretch_59, dX9_stretch_60, dX9_stretch_63, dX9_stretch_64, dX9_stretch_65, dX9_stretch_66, dX9_stretch_67, dX9_stretch_68, dX9_stretch_71, dX9_stretch_72, dX9_stretch_74, ca_X9_stretch_129, ca_X9_stretch_72, e_aload_n0, e_calls, e_callv, e_getfield, e_i2l, e_iaload, e_iload_n1, e_iload_n2, e_ireturn, e_isub, e_lconst0, e_putfield, ea_32, ea_33, gf_X9_108_30, gf_X9_13_30, gf_X9_16_30, j_bp_m2, j_ic_0, j_ic_1, j_ic_m1, j_if_ne_18_5, j_sw_X9_stretch_24, pf_X9_65_30, q_X9_in, wi_0, wi_lt, wi_g255, wi_g40, wi_g20, wi_g4, wi_g3, wi_g9, wi_g10, wi_g30, wi_g1, wi_l255, wi_l40, wi_l20, wi_l4, wi_l3, wi_l9, wi_l10, wi_l30, wi_l1, t0_r, t0_l, t0_38f, t0_39f, t0_40f, t0_sm, t0_lm, t0_sa, t0_bg, t0_hk, t0_30_2, t0_30_3, t0_30_4, t0_30_7, t0_30_10, t0_30_11, t0_30_13, t0_30_19, t0_30_22, t0_30_26, t0_30_27, t0_30_28, t0_30_29, t0_30_30, t0_30_31, t0_30_32, t0_30_35, t0_31, t0_32, t0_33, t0_34, t0_35, t0_36, t0_37, t0_38, t0_39, t0_40, t0_41, t0_42, t0_43, t0_44, t0_45, t0_46, t0_47, t0_48, hst, ab_rn, bi_0, bi_1, ite_not]
        rw [if_neg nm]
        exact h
    · exact h.elim

