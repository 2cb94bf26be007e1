/-! METHODS: Text, faults, telling -/
/-- a figure of the text; the place of the first misfit of a stretch, of a man; -9: none -/
def fg_X (M : ab_M) (x : Int32) : Int32 := la_X M x - 48
def ms_S (M : ab_M) (x : Int32) : Int32 := if fg_X M (x + 0) < tb_103 0 then x + 0 else if tb_104 0 < fg_X M (x + 0) then x + 0 else if fg_X M (x + 1) < tb_103 1 then x + 1 else if tb_104 1 < fg_X M (x + 1) then x + 1 else -9
def ms_M (M : ab_M) (x : Int32) : Int32 := if fg_X M (x + 0) < tb_105 0 then x + 0 else if tb_106 0 < fg_X M (x + 0) then x + 0 else if fg_X M (x + 1) < tb_105 1 then x + 1 else if tb_106 1 < fg_X M (x + 1) then x + 1 else if fg_X M (x + 2) < tb_105 2 then x + 2 else if tb_106 2 < fg_X M (x + 2) then x + 2 else -9
theorem figq {x : Int32} {M : ab_M} {Po : ab_P} : s_X5_figureAt [.ref 1, .int x] M Po = Po (some (.int (fg_X M x))) M := rfl
def s_X5_misfitFrom : ab_Sem := fun as M Po => match as with
  | [.ref 1, .int x, .ref a, .ref b] => (a = 103 ∧ b = 104 ∧ Po (some (.int (ms_S M x))) M) ∨ (a = 105 ∧ b = 106 ∧ Po (some (.int (ms_M M x))) M)
  | _ => False
theorem q_X5_misfitFrom {x : Int32} {a b : Nat} {M : ab_M} {Po : ab_P} : s_X5_misfitFrom [.ref 1, .int x, .ref a, .ref b] M Po = ((a = 103 ∧ b = 104 ∧ Po (some (.int (ms_S M x))) M) ∨ (a = 105 ∧ b = 106 ∧ Po (some (.int (ms_M M x))) M)) := rfl
abbrev x_X5_misfitFrom : ab_X := (some .int, fl_X5, [(78, 2, s_X5_figureAt)], kl_X5, gs_X5, ab_ros)
theorem ca_X5_misfitFrom_39 {v0 v1 : Value} {st : List Value} {M : ab_M} {k : List Value → ab_M → Prop} : ab_ca x_X5_misfitFrom (2 * 39) (v1 :: v0 :: st) M k = (st.length ≤ 4 ∧ s_X5_figureAt [v0, v1] M (fun r M' => k (r.toList ++ st) M')) := rfl
theorem r_X5_misfitFrom : ∀ (as : List Value) (M : ab_M) (Po : ab_P), s_X5_misfitFrom as M Po → ∃ (q : Nat) (as' : List Value) (ci : Nat) (T : u_T) (N : Nat) (fs : List ab_F), as = .ref q :: as' ∧ ab_sh[q]? = some (.inl (ci, fs)) ∧ vwCl[ci]? = some (yX5_misfitFrom.cls, T, N) := by
  intro as M Po h
  unfold s_X5_misfitFrom at h
  split at h
  · first | exact ⟨_, _, 5, _, _, _, rfl, rfl, rfl⟩ | (rcases h.1 with rfl | rfl | rfl <;> exact ⟨_, _, 5, _, _, _, rfl, rfl, rfl⟩)
  · exact h.elim
set_option maxRecDepth 20000 in
set_option maxHeartbeats 4000000 in
theorem c_X5_misfitFrom {l : Launch} : ab_ctr l yX5_misfitFrom cX5_misfitFrom 6 (some .int) 2 42 s_X5_misfitFrom := by
  refine ab_met x_X5_misfitFrom (by decide) rfl fo_X5 ko_X5 so_X5 rfl (ab_cs_cons (ab_kV c_X5_figureAt ml_X5_39 v_X5_figureAt ⟨rfl, rfl⟩ r_X5_figureAt) ab_cs_nil) ?_ ?_
  · intro as M Po h
    unfold s_X5_misfitFrom at h
    split at h
    · simp [ab_e0]
    · exact h.elim
  · intro as M Po h G hG
    unfold s_X5_misfitFrom at h
    split at h
    · simp only [ab_en, ab_e0, List.length_cons, List.length_nil, Nat.reduceAdd, Nat.reduceSub, List.replicate, List.cons_append, List.nil_append]
      rcases h with ⟨rfl, rfl, h⟩ | ⟨rfl, rfl, h⟩
      · refine ab_go hG [] 120 _ _ _ _ ?_
        simp (decide := true) only [ew_n, ew_0, Option.toList_some, Option.toList_none, List.cons_append, List.nil_append, true_and, and_true, List.length_cons, List.length_nil, Nat.reduceAdd, Nat.reduceLeDiff, Int32.reduceAdd, Int32.reduceSub, Int32.reduceMul, Int32.reduceLT, Int32.reduceLE, Int32.reduceToNatClampNeg, ↓reduceIte, and_self, si_1, si_2, sl_1, sl_2, false_and, and_false, dX5_misfitFrom_0, dX5_misfitFrom_1, dX5_misfitFrom_3, dX5_misfitFrom_5, dX5_misfitFrom_6, dX5_misfitFrom_7, dX5_misfitFrom_10, dX5_misfitFrom_12, dX5_misfitFrom_13, dX5_misfitFrom_14, dX5_misfitFrom_17, dX5_misfitFrom_18, dX5_misfitFrom_19, dX5_misfitFrom_21, dX5_misfitFrom_22, dX5_misfitFrom_25, dX5_misfitFrom_27, dX5_misfitFrom_29, dX5_misfitFrom_30, dX5_misfitFrom_32, dX5_misfitFrom_33, dX5_misfitFrom_36, dX5_misfitFrom_38, dX5_misfitFrom_39, dX5_misfitFrom_41, dX5_misfitFrom_42, dX5_misfitFrom_45, dX5_misfitFrom_46, dX5_misfitFrom_48, dX5_misfitFrom_49, dX5_misfitFrom_50, dX5_misfitFrom_53, dX5_misfitFrom_56, dX5_misfitFrom_58, ca_X5_misfitFrom_39, e_alen, e_aload_n0, e_aload_n2, e_aload_n3, e_callv, e_iadd, e_iaload, e_iload4, e_iload5, e_iload_n1, e_ireturn, e_istore4i, e_istore4n, e_istore4r, e_istore5i, e_istore5n, e_istore5r, ea_103, ea_104, ea_105, ea_106, el_103, el_104, el_105, el_106, j_bp_m9, j_goto_53_m50, j_ic_0, j_icmp_ge_14_42, j_icmp_ge_7_49, j_icmp_le_42_8, j_icmp_lt_33_12, j_ii_4_1, figq, ab_rn, bi_0, bi_1, ite_not]
        unfold ms_S at h
        (repeat' split) <;> simp only [*, ↓reduceIte] at h <;> exact h
      · refine ab_go hG [] 120 _ _ _ _ ?_
        simp (decide := true) only [ew_n, ew_0, Option.toList_some, Option.toList_none, List.cons_append, List.nil_append, true_and, and_true, List.length_cons, List.length_nil, Nat.reduceAdd, Nat.reduceLeDiff, Int32.reduceAdd, Int32.reduceSub, Int32.reduceMul, Int32.reduceLT, Int32.reduceLE, Int32.reduceToNatClampNeg, ↓reduceIte, and_self, si_1, si_2, sl_1, sl_2, false_and, and_false, dX5_misfitFrom_0, dX5_misfitFrom_1, dX5_misfitFrom_3, dX5_misfitFrom_5, dX5_misfitFrom_6, dX5_misfitFrom_7, dX5_misfitFrom_10, dX5_misfitFrom_12, dX5_misfitFrom_13, dX5_misfitFrom_14, dX5_misfitFrom_17, dX5_misfitFrom_18, dX5_misfitFrom_19, dX5_misfitFrom_21, dX5_misfitFrom_22, dX5_misfitFrom_25, dX5_misfitFrom_27, dX5_misfitFrom_29, dX5_misfitFrom_30, dX5_misfitFrom_32, dX5_misfitFrom_33, dX5_misfitFrom_36, dX5_misfitFrom_38, dX5_misfitFrom_39, dX5_misfitFrom_41, dX5_misfitFrom_42, dX5_misfitFrom_45, dX5_misfitFrom_46, dX5_misfitFrom_48, dX5_misfitFrom_49, dX5_misfitFrom_50, dX5_misfitFrom_53, dX5_misfitFrom_56, dX5_misfitFrom_58, ca_X5_misfitFrom_39, e_alen, e_aload_n0, e_aload_n2, e_aload_n3, e_callv, e_iadd, e_iaload, e_iload4, e_iload5, e_iload_n1, e_ireturn, e_istore4i, e_istore4n, e_istore4r, e_istore5i, e_istore5n, e_istore5r, ea_103, ea_104, ea_105, ea_106, el_103, el_104, el_105, el_106, j_bp_m9, j_goto_53_m50, j_ic_0, j_icmp_ge_14_42, j_icmp_ge_7_49, j_icmp_le_42_8, j_icmp_lt_33_12, j_ii_4_1, figq, ab_rn, bi_0, bi_1, ite_not]
        unfold ms_M at h
        (repeat' split) <;> simp only [*, ↓reduceIte] at h <;> exact h

    · exact h.elim

/-- the first fault: so many things may come still, stretches, men so far, the place -/
def fp_T (M : ab_M) : Nat → Int32 → Int32 → Int32 → Int32
  | 0, _, _, _ => -9
  | n + 1, s, m, p => if p < M.1 1 1 then (if la_X M p = 83 ∧ s < 8 then (if ms_S M (p + 1) = -9 then fp_T M n (s + 1) m (p + 3) else ms_S M (p + 1)) else if la_X M p = 77 ∧ m < 5 then (if ms_M M (p + 1) = -9 then fp_T M n s (m + 1) (p + 4) else ms_M M (p + 1)) else p) else -9
def fa_X (M : ab_M) : Int32 := if la_X M 0 = 65 then fp_T M 48 0 0 1 else 0
def s_X5_faultPlace : ab_Sem := fun as M Po => match as with
  | [.ref 1] => Po (some (.int (fa_X M))) M
  | _ => False
theorem q_X5_faultPlace {M : ab_M} {Po : ab_P} : s_X5_faultPlace [.ref 1] M Po = (Po (some (.int (fa_X M))) M) := rfl
abbrev x_X5_faultPlace : ab_X := (some .int, fl_X5, [(38, 2, s_X5_letterAt), (58, 4, s_X5_misfitFrom)], kl_X5, gs_X5, ab_ros)
theorem ca_X5_faultPlace_19 {v0 v1 : Value} {st : List Value} {M : ab_M} {k : List Value → ab_M → Prop} : ab_ca x_X5_faultPlace (2 * 19) (v1 :: v0 :: st) M k = (st.length ≤ 4 ∧ s_X5_letterAt [v0, v1] M (fun r M' => k (r.toList ++ st) M')) := rfl
theorem ca_X5_faultPlace_29 {v0 v1 v2 v3 : Value} {st : List Value} {M : ab_M} {k : List Value → ab_M → Prop} : ab_ca x_X5_faultPlace (2 * 29) (v3 :: v2 :: v1 :: v0 :: st) M k = (st.length ≤ 4 ∧ s_X5_misfitFrom [v0, v1, v2, v3] M (fun r M' => k (r.toList ++ st) M')) := rfl
theorem r_X5_faultPlace : ∀ (as : List Value) (M : ab_M) (Po : ab_P), s_X5_faultPlace as M Po → ∃ (q : Nat) (as' : List Value) (ci : Nat) (T : u_T) (N : Nat) (fs : List ab_F), as = .ref q :: as' ∧ ab_sh[q]? = some (.inl (ci, fs)) ∧ vwCl[ci]? = some (yX5_faultPlace.cls, T, N) := by
  intro as M Po h
  unfold s_X5_faultPlace at h
  split at h
  · first | exact ⟨_, _, 5, _, _, _, rfl, rfl, rfl⟩ | (rcases h.1 with rfl | rfl | rfl <;> exact ⟨_, _, 5, _, _, _, rfl, rfl, rfl⟩)
  · exact h.elim
set_option maxRecDepth 20000 in
set_option maxHeartbeats 4000000 in
theorem lq_X5_faultPlace {G : ab_K} {Po : ab_P} (hG : ab_Clo cX5_faultPlace x_X5_faultPlace Po G) {M : ab_M} : ∀ (j i : Nat) (s m p : Int32) (c5 : Option Int32) (c6 : Option Value), i + j = 48 → Po (some (.int (fp_T M j s m p))) M → G 21 [some (.ref 1), some (.int s), some (.int m), some (.int p), some (.int (nI i)), c5.map Value.int, c6] [] M := by
  intro j
  induction j with
  | zero =>
    intro i s m p c5 c6 hi h
    have e : i = 48 := by omega
    subst e
    unfold fp_T at h
    rcases c5 with _ | v
    all_goals
      simp only [Option.map_none, Option.map_some]
      refine ab_go1 hG [21] 80 _ _ _ _ ?_
      simp (decide := true) only [ew_s, ew_0, Option.toList_some, Option.toList_none, List.cons_append, List.nil_append, true_and, and_true, List.length_cons, List.length_nil, Nat.reduceAdd, Nat.reduceLeDiff, Int32.reduceAdd, Int32.reduceSub, Int32.reduceMul, Int32.reduceLT, Int32.reduceLE, Int32.reduceToNatClampNeg, ↓reduceIte, and_self, si_1, si_2, sl_1, sl_2, false_and, and_false, dX5_faultPlace_0, dX5_faultPlace_1, dX5_faultPlace_2, dX5_faultPlace_5, dX5_faultPlace_7, dX5_faultPlace_10, dX5_faultPlace_11, dX5_faultPlace_12, dX5_faultPlace_13, dX5_faultPlace_14, dX5_faultPlace_15, dX5_faultPlace_16, dX5_faultPlace_17, dX5_faultPlace_18, dX5_faultPlace_19, dX5_faultPlace_21, dX5_faultPlace_23, dX5_faultPlace_25, dX5_faultPlace_28, dX5_faultPlace_29, dX5_faultPlace_30, dX5_faultPlace_33, dX5_faultPlace_36, dX5_faultPlace_37, dX5_faultPlace_38, dX5_faultPlace_41, dX5_faultPlace_43, dX5_faultPlace_46, dX5_faultPlace_47, dX5_faultPlace_49, dX5_faultPlace_52, dX5_faultPlace_55, dX5_faultPlace_56, dX5_faultPlace_57, dX5_faultPlace_58, dX5_faultPlace_60, dX5_faultPlace_61, dX5_faultPlace_62, dX5_faultPlace_63, dX5_faultPlace_64, dX5_faultPlace_67, dX5_faultPlace_70, dX5_faultPlace_73, dX5_faultPlace_75, dX5_faultPlace_78, dX5_faultPlace_79, dX5_faultPlace_80, dX5_faultPlace_83, dX5_faultPlace_85, dX5_faultPlace_88, dX5_faultPlace_89, dX5_faultPlace_90, dX5_faultPlace_93, dX5_faultPlace_96, dX5_faultPlace_97, dX5_faultPlace_98, dX5_faultPlace_99, dX5_faultPlace_101, dX5_faultPlace_102, dX5_faultPlace_103, dX5_faultPlace_104, dX5_faultPlace_105, dX5_faultPlace_108, dX5_faultPlace_111, dX5_faultPlace_114, dX5_faultPlace_116, dX5_faultPlace_119, dX5_faultPlace_120, dX5_faultPlace_121, dX5_faultPlace_123, dX5_faultPlace_125, dX5_faultPlace_128, dX5_faultPlace_130, dX5_faultPlace_131, dX5_faultPlace_133, dX5_faultPlace_134, dX5_faultPlace_137, dX5_faultPlace_140, dX5_faultPlace_142, ca_X5_faultPlace_19, ca_X5_faultPlace_29, e_aload_n0, e_callv, e_getfield, e_gs_X5_23, e_gs_X5_26, e_gs_X5_33, e_gs_X5_36, e_iadd, e_iload4, e_iload5, e_iload6, e_iload_n1, e_iload_n2, e_iload_n3, e_ireturn, e_istore4i, e_istore4n, e_istore4r, e_istore5i, e_istore5n, e_istore5r, e_istore6i, e_istore6n, e_istore6r, e_istore_n1i, e_istore_n1n, e_istore_n1r, e_istore_n2i, e_istore_n2n, e_istore_n2r, e_istore_n3i, e_istore_n3n, e_istore_n3r, gf_X5_15_1, j_bp_48, j_bp_65, j_bp_77, j_bp_8, j_bp_83, j_bp_m9, j_goto_116_5, j_goto_137_m116, j_goto_75_46, j_ic_0, j_ic_1, j_ic_3, j_ic_4, j_ic_5, j_icmp_eq_125_6, j_icmp_eq_7_5, j_icmp_ge_25_115, j_icmp_ge_33_107, j_icmp_ge_49_29, j_icmp_ge_90_29, j_icmp_ne_43_35, j_icmp_ne_85_34, j_ii_1_1, j_ii_2_1, j_ii_4_1, q_X5_letterAt, q_X5_misfitFrom, or_false, false_or, false_and, and_true, ab_rn, bi_0, bi_1, ite_not]
      exact h
  | succ j ih =>
    intro i s m p c5 c6 hi h
    unfold fp_T at h
    have ih1 := fun s m p (v : Int32) c6 => ih (i + 1) s m p (some v) c6 (by omega)
    simp only [Option.map_some] at ih1
    rcases c5 with _ | v
    all_goals
      simp only [Option.map_none, Option.map_some]
      refine ab_go1 hG [21] 80 _ _ _ _ ?_
      simp (decide := true) only [ew_s, ew_0, Option.toList_some, Option.toList_none, List.cons_append, List.nil_append, true_and, and_true, List.length_cons, List.length_nil, Nat.reduceAdd, Nat.reduceLeDiff, Int32.reduceAdd, Int32.reduceSub, Int32.reduceMul, Int32.reduceLT, Int32.reduceLE, Int32.reduceToNatClampNeg, ↓reduceIte, and_self, si_1, si_2, sl_1, sl_2, false_and, and_false, dX5_faultPlace_0, dX5_faultPlace_1, dX5_faultPlace_2, dX5_faultPlace_5, dX5_faultPlace_7, dX5_faultPlace_10, dX5_faultPlace_11, dX5_faultPlace_12, dX5_faultPlace_13, dX5_faultPlace_14, dX5_faultPlace_15, dX5_faultPlace_16, dX5_faultPlace_17, dX5_faultPlace_18, dX5_faultPlace_19, dX5_faultPlace_21, dX5_faultPlace_23, dX5_faultPlace_25, dX5_faultPlace_28, dX5_faultPlace_29, dX5_faultPlace_30, dX5_faultPlace_33, dX5_faultPlace_36, dX5_faultPlace_37, dX5_faultPlace_38, dX5_faultPlace_41, dX5_faultPlace_43, dX5_faultPlace_46, dX5_faultPlace_47, dX5_faultPlace_49, dX5_faultPlace_52, dX5_faultPlace_55, dX5_faultPlace_56, dX5_faultPlace_57, dX5_faultPlace_58, dX5_faultPlace_60, dX5_faultPlace_61, dX5_faultPlace_62, dX5_faultPlace_63, dX5_faultPlace_64, dX5_faultPlace_67, dX5_faultPlace_70, dX5_faultPlace_73, dX5_faultPlace_75, dX5_faultPlace_78, dX5_faultPlace_79, dX5_faultPlace_80, dX5_faultPlace_83, dX5_faultPlace_85, dX5_faultPlace_88, dX5_faultPlace_89, dX5_faultPlace_90, dX5_faultPlace_93, dX5_faultPlace_96, dX5_faultPlace_97, dX5_faultPlace_98, dX5_faultPlace_99, dX5_faultPlace_101, dX5_faultPlace_102, dX5_faultPlace_103, dX5_faultPlace_104, dX5_faultPlace_105, dX5_faultPlace_108, dX5_faultPlace_111, dX5_faultPlace_114, dX5_faultPlace_116, dX5_faultPlace_119, dX5_faultPlace_120, dX5_faultPlace_121, dX5_faultPlace_123, dX5_faultPlace_125, dX5_faultPlace_128, dX5_faultPlace_130, dX5_faultPlace_131, dX5_faultPlace_133, dX5_faultPlace_134, dX5_faultPlace_137, dX5_faultPlace_140, dX5_faultPlace_142, ca_X5_faultPlace_19, ca_X5_faultPlace_29, e_aload_n0, e_callv, e_getfield, e_gs_X5_23, e_gs_X5_26, e_gs_X5_33, e_gs_X5_36, e_iadd, e_iload4, e_iload5, e_iload6, e_iload_n1, e_iload_n2, e_iload_n3, e_ireturn, e_istore4i, e_istore4n, e_istore4r, e_istore5i, e_istore5n, e_istore5r, e_istore6i, e_istore6n, e_istore6r, e_istore_n1i, e_istore_n1n, e_istore_n1r, e_istore_n2i, e_istore_n2n, e_istore_n2r, e_istore_n3i, e_istore_n3n, e_istore_n3r, gf_X5_15_1, j_bp_48, j_bp_65, j_bp_77, j_bp_8, j_bp_83, j_bp_m9, j_goto_116_5, j_goto_137_m116, j_goto_75_46, j_ic_0, j_ic_1, j_ic_3, j_ic_4, j_ic_5, j_icmp_eq_125_6, j_icmp_eq_7_5, j_icmp_ge_25_115, j_icmp_ge_33_107, j_icmp_ge_49_29, j_icmp_ge_90_29, j_icmp_ne_43_35, j_icmp_ne_85_34, j_ii_1_1, j_ii_2_1, j_ii_4_1, q_X5_letterAt, q_X5_misfitFrom, or_false, false_or, false_and, and_true, ab_rn, bi_0, bi_1, ite_not]
      rw [if_pos (show nI i < 48 from nI_lt (b := 48) (by omega) (by omega))]
      simp only [nI_1]
      by_cases h1 : p < M.1 1 1
      · rw [if_pos h1] at h ⊢
        have hM : ∀ {P Q : Prop}, P → P := fun h => h
        have key : (if la_X M p = 77 then (if m < 5 then (if ms_M M (p + 1) = -9 then G 21 [some (.ref 1), some (.int s), some (.int (m + 1)), some (.int (p + 4)), some (.int (nI (i + 1))), some (.int (ms_M M (p + 1))), some (.int (p + 4))] [] M else Po (some (.int (ms_M M (p + 1)))) M) else Po (some (.int p)) M) else Po (some (.int p)) M) ∨ (la_X M p = 83 ∧ s < 8) := by
          by_cases h2 : la_X M p = 83 ∧ s < 8
          · exact Or.inr h2
          · left
            rw [if_neg h2] at h
            by_cases h3 : la_X M p = 77
            · rw [if_pos h3]
              by_cases h4 : m < 5
              · rw [if_pos h4]
                rw [if_pos ⟨h3, h4⟩] at h
                by_cases h5 : ms_M M (p + 1) = -9
                · rw [if_pos h5] at h ⊢
                  exact ih1 _ _ _ _ _ h
                · rw [if_neg h5] at h ⊢
                  exact h
              · rw [if_neg h4]
                rw [if_neg (fun hh => h4 hh.2)] at h
                exact h
            · rw [if_neg h3]
              rw [if_neg (fun hh => h3 hh.1)] at h
              exact h
        by_cases h2 : la_X M p = 83
        · rw [if_pos h2]
          by_cases h3 : s < 8
          · rw [if_pos h3]
            rw [if_pos ⟨h2, h3⟩] at h
            by_cases h5 : ms_S M (p + 1) = -9
            · rw [if_pos h5] at h ⊢
              exact ih1 _ _ _ _ _ h
            · rw [if_neg h5] at h ⊢
              exact h
          · rw [if_neg h3]
            exact key.resolve_right (fun hh => h3 hh.2)
        · rw [if_neg h2]
          exact key.resolve_right (fun hh => h2 hh.1)
      · rw [if_neg h1] at h ⊢
        exact h
set_option maxRecDepth 20000 in
set_option maxHeartbeats 4000000 in
theorem c_X5_faultPlace {l : Launch} : ab_ctr l yX5_faultPlace cX5_faultPlace 7 (some .int) 3 67 s_X5_faultPlace := by
  refine ab_met x_X5_faultPlace (by decide) rfl fo_X5 ko_X5 so_X5 rfl (ab_cs_cons (ab_kV c_X5_letterAt ml_X5_19 v_X5_letterAt ⟨rfl, rfl⟩ r_X5_letterAt) (ab_cs_cons (ab_kV c_X5_misfitFrom ml_X5_29 v_X5_misfitFrom ⟨rfl, rfl⟩ r_X5_misfitFrom) ab_cs_nil)) ?_ ?_
  · intro as M Po h
    unfold s_X5_faultPlace at h
    split at h
    · simp [ab_e0]
    · exact h.elim
  · intro as M Po h G hG
    unfold s_X5_faultPlace at h
    split at h
    · simp only [ab_en, ab_e0, List.length_cons, List.length_nil, Nat.reduceAdd, Nat.reduceSub, List.replicate, List.cons_append, List.nil_append]
      refine ab_go hG [21] 80 _ _ _ _ ?_
      simp (decide := true) only [ew_s, ew_0, Option.toList_some, Option.toList_none, List.cons_append, List.nil_append, true_and, and_true, List.length_cons, List.length_nil, Nat.reduceAdd, Nat.reduceLeDiff, Int32.reduceAdd, Int32.reduceSub, Int32.reduceMul, Int32.reduceLT, Int32.reduceLE, Int32.reduceToNatClampNeg, ↓reduceIte, and_self, si_1, si_2, sl_1, sl_2, false_and, and_false, dX5_faultPlace_0, dX5_faultPlace_1, dX5_faultPlace_2, dX5_faultPlace_5, dX5_faultPlace_7, dX5_faultPlace_10, dX5_faultPlace_11, dX5_faultPlace_12, dX5_faultPlace_13, dX5_faultPlace_14, dX5_faultPlace_15, dX5_faultPlace_16, dX5_faultPlace_17, dX5_faultPlace_18, dX5_faultPlace_19, dX5_faultPlace_21, dX5_faultPlace_23, dX5_faultPlace_25, dX5_faultPlace_28, dX5_faultPlace_29, dX5_faultPlace_30, dX5_faultPlace_33, dX5_faultPlace_36, dX5_faultPlace_37, dX5_faultPlace_38, dX5_faultPlace_41, dX5_faultPlace_43, dX5_faultPlace_46, dX5_faultPlace_47, dX5_faultPlace_49, dX5_faultPlace_52, dX5_faultPlace_55, dX5_faultPlace_56, dX5_faultPlace_57, dX5_faultPlace_58, dX5_faultPlace_60, dX5_faultPlace_61, dX5_faultPlace_62, dX5_faultPlace_63, dX5_faultPlace_64, dX5_faultPlace_67, dX5_faultPlace_70, dX5_faultPlace_73, dX5_faultPlace_75, dX5_faultPlace_78, dX5_faultPlace_79, dX5_faultPlace_80, dX5_faultPlace_83, dX5_faultPlace_85, dX5_faultPlace_88, dX5_faultPlace_89, dX5_faultPlace_90, dX5_faultPlace_93, dX5_faultPlace_96, dX5_faultPlace_97, dX5_faultPlace_98, dX5_faultPlace_99, dX5_faultPlace_101, dX5_faultPlace_102, dX5_faultPlace_103, dX5_faultPlace_104, dX5_faultPlace_105, dX5_faultPlace_108, dX5_faultPlace_111, dX5_faultPlace_114, dX5_faultPlace_116, dX5_faultPlace_119, dX5_faultPlace_120, dX5_faultPlace_121, dX5_faultPlace_123, dX5_faultPlace_125, dX5_faultPlace_128, dX5_faultPlace_130, dX5_faultPlace_131, dX5_faultPlace_133, dX5_faultPlace_134, dX5_faultPlace_137, dX5_faultPlace_140, dX5_faultPlace_142, ca_X5_faultPlace_19, ca_X5_faultPlace_29, e_aload_n0, e_callv, e_getfield, e_gs_X5_23, e_gs_X5_26, e_gs_X5_33, e_gs_X5_36, e_iadd, e_iload4, e_iload5, e_iload6, e_iload_n1, e_iload_n2, e_iload_n3, e_ireturn, e_istore4i, e_istore4n, e_istore4r, e_istore5i, e_istore5n, e_istore5r, e_istore6i, e_istore6n, e_istore6r, e_istore_n1i, e_istore_n1n, e_istore_n1r, e_istore_n2i, e_istore_n2n, e_istore_n2r, e_istore_n3i, e_istore_n3n, e_istore_n3r, gf_X5_15_1, j_bp_48, j_bp_65, j_bp_77, j_bp_8, j_bp_83, j_bp_m9, j_goto_116_5, j_goto_137_m116, j_goto_75_46, j_ic_0, j_ic_1, j_ic_3, j_ic_4, j_ic_5, j_icmp_eq_125_6, j_icmp_eq_7_5, j_icmp_ge_25_115, j_icmp_ge_33_107, j_icmp_ge_49_29, j_icmp_ge_90_29, j_icmp_ne_43_35, j_icmp_ne_85_34, j_ii_1_1, j_ii_2_1, j_ii_4_1, q_X5_letterAt, q_X5_misfitFrom, or_false, false_or, false_and, and_true, ab_rn, bi_0, bi_1, ite_not]
      unfold fa_X at h
      split
      · rename_i h1
        rw [if_pos h1] at h
        exact lq_X5_faultPlace hG 48 0 _ _ _ none _ (by omega) h
      · rename_i h1
        rw [if_neg h1] at h
        exact h
    · exact h.elim

abbrev tk_T : Type := Bool × Int32 × Int32 × Int32
/-- the things that the text tells, from a place on -/
def pr_T (M : ab_M) : Nat → Int32 → List tk_T
  | 0, _ => []
  | n + 1, p => if p < M.1 1 1 then (if la_X M p = 83 then (true, fg_X M (p + 1), fg_X M (p + 2), 0) :: pr_T M n (p + 3) else (false, fg_X M (p + 1), fg_X M (p + 2), fg_X M (p + 3)) :: pr_T M n (p + 4)) else []
def ta_X (M : ab_M) (p k t : Int32) : ab_M := if M.1 8 3 < 0 then M else if M.1 8 3 < 5 then ab_si (ab_si (ab_si (ab_si M 9 (M.1 8 3).toNatClampNeg p) 10 (M.1 8 3).toNatClampNeg k) 11 (M.1 8 3).toNatClampNeg t) 8 3 (M.1 8 3 + 1) else M
/-- the road and the men with these things more -/
def bl_X : List tk_T → Nat → Nat → ab_M → ab_M
  | [], _, _, M => M
  | (true, x, y, _) :: t, c, e, M => bl_X t (c + 1) (e + x.toNatClampNeg) (ra_X M c e x.toNatClampNeg x y)
  | (false, x, y, z) :: t, c, e, M => bl_X t c e (ta_X M x y z)
def tk_ok : List tk_T → Nat → Nat → Prop
  | [], _, _ => True
  | (true, x, _, _) :: t, c, e => ¬ x < 0 ∧ c < 8 ∧ e + x.toNatClampNeg ≤ 72 ∧ tk_ok t (c + 1) (e + x.toNatClampNeg)
  | (false, _, _, _) :: t, c, e => tk_ok t c e
theorem ra_la {M : ab_M} {c e n : Nat} {x y : Int32} : la_X (ra_X M c e n x y) = la_X M ∧ (ra_X M c e n x y).1 1 1 = M.1 1 1 ∧ (ra_X M c e n x y).1 3 4 = nI (c + 1) ∧ (ra_X M c e n x y).1 3 5 = nI (e + n) := ⟨rfl, rfl, rfl, rfl⟩
theorem ta_la {M : ab_M} {x y z : Int32} : la_X (ta_X M x y z) = la_X M ∧ (ta_X M x y z).1 1 1 = M.1 1 1 ∧ (ta_X M x y z).1 3 4 = M.1 3 4 ∧ (ta_X M x y z).1 3 5 = M.1 3 5 := by
  unfold ta_X
  split
  · exact ⟨rfl, rfl, rfl, rfl⟩
  · split
    · exact ⟨rfl, rfl, rfl, rfl⟩
    · exact ⟨rfl, rfl, rfl, rfl⟩
theorem taq {x y z : Int32} {M : ab_M} {Po : ab_P} : s_X7_add [.ref 8, .int x, .int y, .int z] M Po = Po none (ta_X M x y z) := rfl
def s_X5_tell : ab_Sem := fun as M Po => match as with
  | [.ref 1, .ref 3, .ref 8] => tk_ok (pr_T M 48 1) 0 0 ∧ Po none (bl_X (pr_T M 48 1) 0 0 (ab_si (ab_si (ab_si M 3 4 0) 3 5 0) 8 3 0))
  | _ => False
theorem q_X5_tell {M : ab_M} {Po : ab_P} : s_X5_tell [.ref 1, .ref 3, .ref 8] M Po = (tk_ok (pr_T M 48 1) 0 0 ∧ Po none (bl_X (pr_T M 48 1) 0 0 (ab_si (ab_si (ab_si M 3 4 0) 3 5 0) 8 3 0))) := rfl
abbrev x_X5_tell : ab_X := (none, fl_X5, [(84, 1, s_X4_empty), (94, 1, s_X7_empty), (38, 2, s_X5_letterAt), (78, 2, s_X5_figureAt), (100, 3, s_X4_add), (108, 4, s_X7_add)], kl_X5, gs_X5, ab_ros)
theorem ca_X5_tell_42 {v0 : Value} {st : List Value} {M : ab_M} {k : List Value → ab_M → Prop} : ab_ca x_X5_tell (2 * 42) (v0 :: st) M k = (st.length ≤ 4 ∧ s_X4_empty [v0] M (fun r M' => k (r.toList ++ st) M')) := rfl
theorem ca_X5_tell_47 {v0 : Value} {st : List Value} {M : ab_M} {k : List Value → ab_M → Prop} : ab_ca x_X5_tell (2 * 47) (v0 :: st) M k = (st.length ≤ 4 ∧ s_X7_empty [v0] M (fun r M' => k (r.toList ++ st) M')) := rfl
theorem ca_X5_tell_19 {v0 v1 : Value} {st : List Value} {M : ab_M} {k : List Value → ab_M → Prop} : ab_ca x_X5_tell (2 * 19) (v1 :: v0 :: st) M k = (st.length ≤ 4 ∧ s_X5_letterAt [v0, v1] M (fun r M' => k (r.toList ++ st) M')) := rfl
theorem ca_X5_tell_39 {v0 v1 : Value} {st : List Value} {M : ab_M} {k : List Value → ab_M → Prop} : ab_ca x_X5_tell (2 * 39) (v1 :: v0 :: st) M k = (st.length ≤ 4 ∧ s_X5_figureAt [v0, v1] M (fun r M' => k (r.toList ++ st) M')) := rfl
theorem ca_X5_tell_50 {v0 v1 v2 : Value} {st : List Value} {M : ab_M} {k : List Value → ab_M → Prop} : ab_ca x_X5_tell (2 * 50) (v2 :: v1 :: v0 :: st) M k = (st.length ≤ 4 ∧ s_X4_add [v0, v1, v2] M (fun r M' => k (r.toList ++ st) M')) := rfl
theorem ca_X5_tell_54 {v0 v1 v2 v3 : Value} {st : List Value} {M : ab_M} {k : List Value → ab_M → Prop} : ab_ca x_X5_tell (2 * 54) (v3 :: v2 :: v1 :: v0 :: st) M k = (st.length ≤ 4 ∧ s_X7_add [v0, v1, v2, v3] M (fun r M' => k (r.toList ++ st) M')) := rfl
theorem r_X5_tell : ∀ (as : List Value) (M : ab_M) (Po : ab_P), s_X5_tell as M Po → ∃ (q : Nat) (as' : List Value) (ci : Nat) (T : u_T) (N : Nat) (fs : List ab_F), as = .ref q :: as' ∧ ab_sh[q]? = some (.inl (ci, fs)) ∧ vwCl[ci]? = some (yX5_tell.cls, T, N) := by
  intro as M Po h
  unfold s_X5_tell at h
  split at h
  · first | exact ⟨_, _, 5, _, _, _, rfl, rfl, rfl⟩ | (rcases h.1 with rfl | rfl | rfl <;> exact ⟨_, _, 5, _, _, _, rfl, rfl, rfl⟩)
  · exact h.elim
theorem fg_of {M N : ab_M} (h : la_X N = la_X M) : fg_X N = fg_X M := by
  funext x
  simp only [fg_X, h]
set_option maxRecDepth 20000 in
set_option maxHeartbeats 4000000 in
theorem lq_X5_tell {G : ab_K} {Po : ab_P} (hG : ab_Clo cX5_tell x_X5_tell Po G) {M : ab_M} : ∀ (j i : Nat) (p : Int32) (c e : Nat) (N : ab_M), i + j = 48 → la_X N = la_X M → N.1 1 1 = M.1 1 1 → N.1 3 4 = nI c → N.1 3 5 = nI e → tk_ok (pr_T M j p) c e → Po none (bl_X (pr_T M j p) c e N) → G 13 [some (.ref 1), some (.ref 3), some (.ref 8), some (.int p), some (.int (nI i))] [] N := by
  intro j
  induction j with
  | zero =>
    intro i p c e N hi h1 h2 h3 h4 hk h
    have ei : i = 48 := by omega
    subst ei
    unfold pr_T bl_X at h
    refine ab_go1 hG [13] 80 _ _ _ _ ?_
    simp (decide := true) only [ew_s, ew_0, Option.toList_some, Option.toList_none, List.cons_append, List.nil_append, true_and, and_true, List.length_cons, List.length_nil, Nat.reduceAdd, Nat.reduceLeDiff, Int32.reduceAdd, Int32.reduceSub, Int32.reduceMul, Int32.reduceLT, Int32.reduceLE, Int32.reduceToNatClampNeg, ↓reduceIte, and_self, si_1, si_2, sl_1, sl_2, false_and, and_false, dX5_tell_0, dX5_tell_1, dX5_tell_4, dX5_tell_5, dX5_tell_8, dX5_tell_9, dX5_tell_10, dX5_tell_11, dX5_tell_13, dX5_tell_15, dX5_tell_17, dX5_tell_20, dX5_tell_21, dX5_tell_22, dX5_tell_25, dX5_tell_28, dX5_tell_29, dX5_tell_30, dX5_tell_33, dX5_tell_35, dX5_tell_38, dX5_tell_39, dX5_tell_40, dX5_tell_41, dX5_tell_42, dX5_tell_43, dX5_tell_46, dX5_tell_47, dX5_tell_48, dX5_tell_49, dX5_tell_50, dX5_tell_53, dX5_tell_56, dX5_tell_59, dX5_tell_62, dX5_tell_63, dX5_tell_64, dX5_tell_65, dX5_tell_66, dX5_tell_67, dX5_tell_70, dX5_tell_71, dX5_tell_72, dX5_tell_73, dX5_tell_74, dX5_tell_77, dX5_tell_78, dX5_tell_79, dX5_tell_80, dX5_tell_81, dX5_tell_84, dX5_tell_87, dX5_tell_90, dX5_tell_93, dX5_tell_96, ca_X5_tell_19, ca_X5_tell_39, ca_X5_tell_42, ca_X5_tell_47, ca_X5_tell_50, ca_X5_tell_54, e_aload_n0, e_aload_n1, e_aload_n2, e_callv, e_getfield, e_iadd, e_iload4, e_iload_n3, e_istore4i, e_istore4n, e_istore4r, e_istore_n3i, e_istore_n3n, e_istore_n3r, e_return, gf_X5_15_1, j_bp_48, j_bp_83, j_goto_59_31, j_goto_93_m80, j_ic_0, j_ic_1, j_ic_2, j_ic_3, j_icmp_ge_17_79, j_icmp_ge_25_71, j_icmp_ne_35_27, j_ii_3_3, j_ii_3_4, j_ii_4_1, q_X4_add, q_X4_empty, q_X5_letterAt, q_X7_empty, figq, taq, ab_rn, bi_0, bi_1, ite_not]
    exact h
  | succ j ih =>
    intro i p c e N hi h1 h2 h3 h4 hk h
    unfold pr_T at h hk
    have hf := fg_of h1
    refine ab_go1 hG [13] 80 _ _ _ _ ?_
    simp (decide := true) only [ew_s, ew_0, Option.toList_some, Option.toList_none, List.cons_append, List.nil_append, true_and, and_true, List.length_cons, List.length_nil, Nat.reduceAdd, Nat.reduceLeDiff, Int32.reduceAdd, Int32.reduceSub, Int32.reduceMul, Int32.reduceLT, Int32.reduceLE, Int32.reduceToNatClampNeg, ↓reduceIte, and_self, si_1, si_2, sl_1, sl_2, false_and, and_false, dX5_tell_0, dX5_tell_1, dX5_tell_4, dX5_tell_5, dX5_tell_8, dX5_tell_9, dX5_tell_10, dX5_tell_11, dX5_tell_13, dX5_tell_15, dX5_tell_17, dX5_tell_20, dX5_tell_21, dX5_tell_22, dX5_tell_25, dX5_tell_28, dX5_tell_29, dX5_tell_30, dX5_tell_33, dX5_tell_35, dX5_tell_38, dX5_tell_39, dX5_tell_40, dX5_tell_41, dX5_tell_42, dX5_tell_43, dX5_tell_46, dX5_tell_47, dX5_tell_48, dX5_tell_49, dX5_tell_50, dX5_tell_53, dX5_tell_56, dX5_tell_59, dX5_tell_62, dX5_tell_63, dX5_tell_64, dX5_tell_65, dX5_tell_66, dX5_tell_67, dX5_tell_70, dX5_tell_71, dX5_tell_72, dX5_tell_73, dX5_tell_74, dX5_tell_77, dX5_tell_78, dX5_tell_79, dX5_tell_80, dX5_tell_81, dX5_tell_84, dX5_tell_87, dX5_tell_90, dX5_tell_93, dX5_tell_96, ca_X5_tell_19, ca_X5_tell_39, ca_X5_tell_42, ca_X5_tell_47, ca_X5_tell_50, ca_X5_tell_54, e_aload_n0, e_aload_n1, e_aload_n2, e_callv, e_getfield, e_iadd, e_iload4, e_iload_n3, e_istore4i, e_istore4n, e_istore4r, e_istore_n3i, e_istore_n3n, e_istore_n3r, e_return, gf_X5_15_1, j_bp_48, j_bp_83, j_goto_59_31, j_goto_93_m80, j_ic_0, j_ic_1, j_ic_2, j_ic_3, j_icmp_ge_17_79, j_icmp_ge_25_71, j_icmp_ne_35_27, j_ii_3_3, j_ii_3_4, j_ii_4_1, q_X4_add, q_X4_empty, q_X5_letterAt, q_X7_empty, figq, taq, ab_rn, bi_0, bi_1, ite_not]
    rw [if_pos (show nI i < 48 from nI_lt (b := 48) (by omega) (by omega))]
    simp only [nI_1, h1, h2, hf]
    by_cases hp : p < M.1 1 1
    · rw [if_pos hp] at h hk ⊢
      by_cases hs : la_X M p = 83
      · rw [if_pos hs] at h hk ⊢
        obtain ⟨k1, k2, k3, k4⟩ := hk
        obtain ⟨n, hn, en⟩ := nI_of k1
        have ec : (fg_X M (p + 1)).toNatClampNeg = n := by rw [en, nI_clamp hn]
        unfold bl_X at h
        rw [ec] at h k3 k4
        refine ⟨c, e, n, h3, h4, en, k2, k3, ?_⟩
        obtain ⟨r1, r2, r3, r4⟩ := ra_la (M := N) (c := c) (e := e) (n := n) (x := fg_X M (p + 1)) (y := fg_X M (p + 2))
        exact ih (i + 1) _ (c + 1) (e + n) _ (by omega) (r1.trans h1) (r2.trans h2) r3 r4 k4 h
      · rw [if_neg hs] at h hk ⊢
        unfold bl_X at h
        obtain ⟨r1, r2, r3, r4⟩ := ta_la (M := N) (x := fg_X M (p + 1)) (y := fg_X M (p + 2)) (z := fg_X M (p + 3))
        exact ih (i + 1) _ c e _ (by omega) (r1.trans h1) (r2.trans h2) (r3.trans h3) (r4.trans h4) hk h
    · rw [if_neg hp] at h ⊢
      exact h
set_option maxRecDepth 20000 in
set_option maxHeartbeats 4000000 in
theorem c_X5_tell {l : Launch} : ab_ctr l yX5_tell cX5_tell 5 none 2 42 s_X5_tell := by
  refine ab_met x_X5_tell (by decide) rfl fo_X5 ko_X5 so_X5 rfl (ab_cs_cons (ab_kV c_X4_empty ml_X5_42 v_X4_empty ⟨rfl, rfl⟩ r_X4_empty) (ab_cs_cons (ab_kV c_X7_empty ml_X5_47 v_X7_empty ⟨rfl, rfl⟩ r_X7_empty) (ab_cs_cons (ab_kV c_X5_letterAt ml_X5_19 v_X5_letterAt ⟨rfl, rfl⟩ r_X5_letterAt) (ab_cs_cons (ab_kV c_X5_figureAt ml_X5_39 v_X5_figureAt ⟨rfl, rfl⟩ r_X5_figureAt) (ab_cs_cons (ab_kV c_X4_add ml_X5_50 v_X4_add ⟨rfl, rfl⟩ r_X4_add) (ab_cs_cons (ab_kV c_X7_add ml_X5_54 v_X7_add ⟨rfl, rfl⟩ r_X7_add) ab_cs_nil)))))) ?_ ?_
  · intro as M Po h
    unfold s_X5_tell at h
    split at h
    · simp [ab_e0]
    · exact h.elim
  · intro as M Po h G hG
    unfold s_X5_tell at h
    split at h
    · simp only [ab_en, ab_e0, List.length_cons, List.length_nil, Nat.reduceAdd, Nat.reduceSub, List.replicate, List.cons_append, List.nil_append]
      obtain ⟨hk, h⟩ := h
      refine ab_go hG [13] 80 _ _ _ _ ?_
      simp (decide := true) only [ew_s, ew_0, Option.toList_some, Option.toList_none, List.cons_append, List.nil_append, true_and, and_true, List.length_cons, List.length_nil, Nat.reduceAdd, Nat.reduceLeDiff, Int32.reduceAdd, Int32.reduceSub, Int32.reduceMul, Int32.reduceLT, Int32.reduceLE, Int32.reduceToNatClampNeg, ↓reduceIte, and_self, si_1, si_2, sl_1, sl_2, false_and, and_false, dX5_tell_0, dX5_tell_1, dX5_tell_4, dX5_tell_5, dX5_tell_8, dX5_tell_9, dX5_tell_10, dX5_tell_11, dX5_tell_13, dX5_tell_15, dX5_tell_17, dX5_tell_20, dX5_tell_21, dX5_tell_22, dX5_tell_25, dX5_tell_28, dX5_tell_29, dX5_tell_30, dX5_tell_33, dX5_tell_35, dX5_tell_38, dX5_tell_39, dX5_tell_40, dX5_tell_41, dX5_tell_42, dX5_tell_43, dX5_tell_46, dX5_tell_47, dX5_tell_48, dX5_tell_49, dX5_tell_50, dX5_tell_53, dX5_tell_56, dX5_tell_59, dX5_tell_62, dX5_tell_63, dX5_tell_64, dX5_tell_65, dX5_tell_66, dX5_tell_67, dX5_tell_70, dX5_tell_71, dX5_tell_72, dX5_tell_73, dX5_tell_74, dX5_tell_77, dX5_tell_78, dX5_tell_79, dX5_tell_80, dX5_tell_81, dX5_tell_84, dX5_tell_87, dX5_tell_90, dX5_tell_93, dX5_tell_96, ca_X5_tell_19, ca_X5_tell_39, ca_X5_tell_42, ca_X5_tell_47, ca_X5_tell_50, ca_X5_tell_54, e_aload_n0, e_aload_n1, e_aload_n2, e_callv, e_getfield, e_iadd, e_iload4, e_iload_n3, e_istore4i, e_istore4n, e_istore4r, e_istore_n3i, e_istore_n3n, e_istore_n3r, e_return, gf_X5_15_1, j_bp_48, j_bp_83, j_goto_59_31, j_goto_93_m80, j_ic_0, j_ic_1, j_ic_2, j_ic_3, j_icmp_ge_17_79, j_icmp_ge_25_71, j_icmp_ne_35_27, j_ii_3_3, j_ii_3_4, j_ii_4_1, q_X4_add, q_X4_empty, q_X5_letterAt, q_X7_empty, figq, taq, ab_rn, bi_0, bi_1, ite_not]
      exact lq_X5_tell hG (M := M) 48 0 1 0 0 _ (by omega) rfl rfl rfl rfl hk h
    · exact h.elim

