/-! METHODS: LameLead, army, judge, rests, thorny, campaigns -/
def bu_X (M : ab_M) : ab_M := bl_X (pr_T M 48 1) 0 0 (ab_si (ab_si (ab_si M 3 4 0) 3 5 0) 8 3 0)
def bg_X (B : ab_M) : ab_M := mw B 12 0 0 (B.1 12 5) (fi_5 (fun i => td_X B (nI i)) (B.1 13))
theorem tlq {M : ab_M} {Po : ab_P} : s_X5_tell [.ref 1, .ref 3, .ref 8] M Po = (tk_ok (pr_T M 48 1) 0 0 ∧ Po none (bu_X M)) := rfl
theorem bgq {M : ab_M} {Po : ab_P} : s_X2_begin [.ref 12] M Po = Po none (bg_X M) := propext ⟨fun h => h.2, fun h => ⟨rfl, h⟩⟩
theorem bg_34 {B : ab_M} : (bg_X B).1 3 4 = B.1 3 4 := rfl
theorem bg_83 {B : ab_M} : (bg_X B).1 8 3 = B.1 8 3 := rfl
def s_X8_army : ab_Sem := fun as M Po => match as with
  | [.ref 0] => if fa_X M = -9 then (tk_ok (pr_T M 48 1) 0 0 ∧ Po (some (.int (10 * (bu_X M).1 3 4 + (bu_X M).1 8 3))) (ab_sl (ab_sl (ab_si (bg_X (bu_X M)) 14 1 0) 29 0 (-1)) 29 1 (-1))) else Po (some (.int (-3))) M
  | _ => False
theorem q_X8_army {M : ab_M} {Po : ab_P} : s_X8_army [.ref 0] M Po = (if fa_X M = -9 then (tk_ok (pr_T M 48 1) 0 0 ∧ Po (some (.int (10 * (bu_X M).1 3 4 + (bu_X M).1 8 3))) (ab_sl (ab_sl (ab_si (bg_X (bu_X M)) 14 1 0) 29 0 (-1)) 29 1 (-1))) else Po (some (.int (-3))) M) := rfl
abbrev x_X8_army : ab_X := (some .int, fl_X8, [(180, 1, s_X5_faultPlace), (186, 3, s_X5_tell), (192, 1, s_X2_begin), (198, 1, s_X0_forgetAll), (204, 1, s_X4_count), (210, 1, s_X7_count)], kl_X8, gs_X8, ab_ros)
theorem ca_X8_army_90 {v0 : Value} {st : List Value} {M : ab_M} {k : List Value → ab_M → Prop} : ab_ca x_X8_army (2 * 90) (v0 :: st) M k = (st.length ≤ 4 ∧ s_X5_faultPlace [v0] M (fun r M' => k (r.toList ++ st) M')) := rfl
theorem ca_X8_army_93 {v0 v1 v2 : Value} {st : List Value} {M : ab_M} {k : List Value → ab_M → Prop} : ab_ca x_X8_army (2 * 93) (v2 :: v1 :: v0 :: st) M k = (st.length ≤ 4 ∧ s_X5_tell [v0, v1, v2] M (fun r M' => k (r.toList ++ st) M')) := rfl
theorem ca_X8_army_96 {v0 : Value} {st : List Value} {M : ab_M} {k : List Value → ab_M → Prop} : ab_ca x_X8_army (2 * 96) (v0 :: st) M k = (st.length ≤ 4 ∧ s_X2_begin [v0] M (fun r M' => k (r.toList ++ st) M')) := rfl
theorem ca_X8_army_99 {v0 : Value} {st : List Value} {M : ab_M} {k : List Value → ab_M → Prop} : ab_ca x_X8_army (2 * 99) (v0 :: st) M k = (st.length ≤ 4 ∧ s_X0_forgetAll [v0] M (fun r M' => k (r.toList ++ st) M')) := rfl
theorem ca_X8_army_102 {v0 : Value} {st : List Value} {M : ab_M} {k : List Value → ab_M → Prop} : ab_ca x_X8_army (2 * 102) (v0 :: st) M k = (st.length ≤ 4 ∧ s_X4_count [v0] M (fun r M' => k (r.toList ++ st) M')) := rfl
theorem ca_X8_army_105 {v0 : Value} {st : List Value} {M : ab_M} {k : List Value → ab_M → Prop} : ab_ca x_X8_army (2 * 105) (v0 :: st) M k = (st.length ≤ 4 ∧ s_X7_count [v0] M (fun r M' => k (r.toList ++ st) M')) := rfl
theorem r_X8_army : ∀ (as : List Value) (M : ab_M) (Po : ab_P), s_X8_army as M Po → ∃ (q : Nat) (as' : List Value) (ci : Nat) (T : u_T) (N : Nat) (fs : List ab_F), as = .ref q :: as' ∧ ab_sh[q]? = some (.inl (ci, fs)) ∧ vwCl[ci]? = some (yX8_army.cls, T, N) := by
  intro as M Po h
  unfold s_X8_army at h
  split at h
  · first | exact ⟨_, _, 8, _, _, _, rfl, rfl, rfl⟩ | (rcases h.1 with rfl | rfl | rfl <;> exact ⟨_, _, 8, _, _, _, rfl, rfl, rfl⟩)
  · exact h.elim
set_option maxRecDepth 20000 in
set_option maxHeartbeats 4000000 in
theorem c_X8_army {l : Launch} : ab_ctr l yX8_army cX8_army 2 (some .int) 4 93 s_X8_army := by
  refine ab_met x_X8_army (by decide) rfl fo_X8 ko_X8 so_X8 rfl (ab_cs_cons (ab_kV c_X5_faultPlace ml_X8_90 v_X5_faultPlace ⟨rfl, rfl⟩ r_X5_faultPlace) (ab_cs_cons (ab_kV c_X5_tell ml_X8_93 v_X5_tell ⟨rfl, rfl⟩ r_X5_tell) (ab_cs_cons (ab_kV c_X2_begin ml_X8_96 v_X2_begin ⟨rfl, rfl⟩ r_X2_begin) (ab_cs_cons (ab_kV c_X0_forgetAll ml_X8_99 v_X0_forgetAll ⟨rfl, rfl⟩ r_X0_forgetAll) (ab_cs_cons (ab_kV c_X4_count ml_X8_102 v_X4_count ⟨rfl, rfl⟩ r_X4_count) (ab_cs_cons (ab_kV c_X7_count ml_X8_105 v_X7_count ⟨rfl, rfl⟩ r_X7_count) ab_cs_nil)))))) ?_ ?_
  · intro as M Po h
    unfold s_X8_army at h
    split at h
    · simp [ab_e0]
    · exact h.elim
  · intro as M Po h G hG
    unfold s_X8_army at h
    split at h
    · simp only [ab_en, ab_e0, List.length_cons, List.length_nil, Nat.reduceAdd, Nat.reduceSub, List.replicate, List.cons_append, List.nil_append]
      refine ab_go hG [] 120 _ _ _ _ ?_
      simp (decide := true) only [ew_n, ew_0, Option.toList_some, Option.toList_none, List.cons_append, List.nil_append, true_and, and_true, List.length_cons, List.length_nil, Nat.reduceAdd, Nat.reduceLeDiff, Int32.reduceAdd, Int32.reduceSub, Int32.reduceMul, Int32.reduceLT, Int32.reduceLE, Int32.reduceToNatClampNeg, ↓reduceIte, and_self, si_1, si_2, sl_1, sl_2, false_and, and_false, dX8_army_0, dX8_army_1, dX8_army_4, dX8_army_7, dX8_army_9, dX8_army_12, dX8_army_14, dX8_army_15, dX8_army_16, dX8_army_19, dX8_army_20, dX8_army_23, dX8_army_24, dX8_army_27, dX8_army_30, dX8_army_31, dX8_army_34, dX8_army_37, dX8_army_38, dX8_army_41, dX8_army_44, dX8_army_45, dX8_army_46, dX8_army_47, dX8_army_48, dX8_army_51, dX8_army_52, dX8_army_55, dX8_army_56, dX8_army_59, dX8_army_60, dX8_army_63, dX8_army_64, dX8_army_67, dX8_army_70, dX8_army_72, dX8_army_73, dX8_army_76, dX8_army_79, dX8_army_80, dX8_army_81, dX8_army_84, dX8_army_87, dX8_army_88, ca_X8_army_102, ca_X8_army_105, ca_X8_army_90, ca_X8_army_93, ca_X8_army_96, ca_X8_army_99, e_alen, e_aload_n0, e_callv, e_getfield, e_iadd, e_iload_n1, e_imul, e_ireturn, e_istore_n1i, e_istore_n1n, e_istore_n1r, e_kl_X8_69, e_lastore, el_29, es_29, gf_X8_10_0, gf_X8_19_0, gf_X8_26_0, gf_X8_35_0, gf_X8_42_0, gf_X8_71_0, j_bp_10, j_bp_m3, j_bp_m9, j_goto_67_m21, j_ic_0, j_icmp_eq_9_6, j_icmp_ge_52_18, j_ii_1_1, q_X0_forgetAll, q_X4_count, q_X5_faultPlace, q_X7_count, tlq, bgq, bg_34, bg_83, ab_rn, bi_0, bi_1, ite_not]
      (first | exact h | (split <;> (rename_i hh; first | rw [if_pos hh] at h | rw [if_neg hh] at h) <;> (first | exact h | (split <;> (rename_i hh; first | rw [if_pos hh] at h | rw [if_neg hh] at h) <;> (first | exact h | (split <;> (rename_i hh; first | rw [if_pos hh] at h | rw [if_neg hh] at h) <;> (first | exact h | (split <;> (rename_i hh; first | rw [if_pos hh] at h | rw [if_neg hh] at h) <;> (first | exact h | (split <;> (rename_i hh; first | rw [if_pos hh] at h | rw [if_neg hh] at h) <;> (first | exact h | (split <;> (rename_i hh; first | rw [if_pos hh] at h | rw [if_neg hh] at h) <;> (first | exact h | (split <;> (rename_i hh; first | rw [if_pos hh] at h | rw [if_neg hh] at h) <;> (first | exact h | (split <;> (rename_i hh; first | rw [if_pos hh] at h | rw [if_neg hh] at h) <;> (first | exact h | (split <;> (rename_i hh; first | rw [if_pos hh] at h | rw [if_neg hh] at h) <;> exact h))))))))))))))))))
    · exact h.elim

def s_X8_rests : ab_Sem := fun as M Po => match as with
  | [.ref 0, .int x, .int y, .int z] => if ¬ x < 0 ∧ x < M.1 8 3 ∧ x < 5 then (if ¬ y < 0 ∧ y < M.1 8 3 ∧ y < 5 then (if x = y then Po (some (.int (-2))) M else if z = 0 ∨ z = 1 then (∀ (g h : Nat → Int32) (s : mr_T), (∀ j, j < 4 → g j = on_X M x y j) → (∀ j, j < 4 → h j = ot_X M x y j) → if z = 0 then Po (some (.int (rc_1 (mws (w2 M g h) 23 s) (rc_1 (mws (w2 M g h) 23 s) (rc_1 (mws (w2 M g h) 23 s) (rc_1 (mws (w2 M g h) 23 s) 0 0) 1) 2) 3))) (mws (w2 M g h) 23 s) else Po (some (.int (if ir_X (mws (w2 M g h) 23 s) 0 = 0 then (if ir_X (mws (w2 M g h) 23 s) 1 = 0 then (if ir_X (mws (w2 M g h) 23 s) 2 = 0 then (if ir_X (mws (w2 M g h) 23 s) 3 = 0 then -9 else fr_v 3) else fr_v 2) else fr_v 1) else fr_v 0))) (mws (w2 M g h) 23 s)) else Po (some (.int (-2))) M) else Po (some (.int (-1))) M) else Po (some (.int (-1))) M
  | _ => False
theorem q_X8_rests {x y z : Int32} {M : ab_M} {Po : ab_P} : s_X8_rests [.ref 0, .int x, .int y, .int z] M Po = (if ¬ x < 0 ∧ x < M.1 8 3 ∧ x < 5 then (if ¬ y < 0 ∧ y < M.1 8 3 ∧ y < 5 then (if x = y then Po (some (.int (-2))) M else if z = 0 ∨ z = 1 then (∀ (g h : Nat → Int32) (s : mr_T), (∀ j, j < 4 → g j = on_X M x y j) → (∀ j, j < 4 → h j = ot_X M x y j) → if z = 0 then Po (some (.int (rc_1 (mws (w2 M g h) 23 s) (rc_1 (mws (w2 M g h) 23 s) (rc_1 (mws (w2 M g h) 23 s) (rc_1 (mws (w2 M g h) 23 s) 0 0) 1) 2) 3))) (mws (w2 M g h) 23 s) else Po (some (.int (if ir_X (mws (w2 M g h) 23 s) 0 = 0 then (if ir_X (mws (w2 M g h) 23 s) 1 = 0 then (if ir_X (mws (w2 M g h) 23 s) 2 = 0 then (if ir_X (mws (w2 M g h) 23 s) 3 = 0 then -9 else fr_v 3) else fr_v 2) else fr_v 1) else fr_v 0))) (mws (w2 M g h) 23 s)) else Po (some (.int (-2))) M) else Po (some (.int (-1))) M) else Po (some (.int (-1))) M) := rfl
abbrev x_X8_rests : ab_X := (some .int, fl_X8, [(260, 2, s_X7_has), (377, 1, s_X8_isChoice), (488, 3, s_X1_weighPairs), (496, 1, s_X1_restCount), (502, 1, s_X1_firstRest)], kl_X8, gs_X8, ab_ros)
theorem ca_X8_rests_130 {v0 v1 : Value} {st : List Value} {M : ab_M} {k : List Value → ab_M → Prop} : ab_ca x_X8_rests (2 * 130) (v1 :: v0 :: st) M k = (st.length ≤ 4 ∧ s_X7_has [v0, v1] M (fun r M' => k (r.toList ++ st) M')) := rfl
theorem ca_X8_rests_188 {v0 : Value} {st : List Value} {M : ab_M} {k : List Value → ab_M → Prop} : ab_ca x_X8_rests (2 * 188 + 1) (v0 :: st) M k = (st.length ≤ 4 ∧ s_X8_isChoice [v0] M (fun r M' => k (r.toList ++ st) M')) := rfl
theorem ca_X8_rests_244 {v0 v1 v2 : Value} {st : List Value} {M : ab_M} {k : List Value → ab_M → Prop} : ab_ca x_X8_rests (2 * 244) (v2 :: v1 :: v0 :: st) M k = (st.length ≤ 4 ∧ s_X1_weighPairs [v0, v1, v2] M (fun r M' => k (r.toList ++ st) M')) := rfl
theorem ca_X8_rests_248 {v0 : Value} {st : List Value} {M : ab_M} {k : List Value → ab_M → Prop} : ab_ca x_X8_rests (2 * 248) (v0 :: st) M k = (st.length ≤ 4 ∧ s_X1_restCount [v0] M (fun r M' => k (r.toList ++ st) M')) := rfl
theorem ca_X8_rests_251 {v0 : Value} {st : List Value} {M : ab_M} {k : List Value → ab_M → Prop} : ab_ca x_X8_rests (2 * 251) (v0 :: st) M k = (st.length ≤ 4 ∧ s_X1_firstRest [v0] M (fun r M' => k (r.toList ++ st) M')) := rfl
theorem r_X8_rests : ∀ (as : List Value) (M : ab_M) (Po : ab_P), s_X8_rests as M Po → ∃ (q : Nat) (as' : List Value) (ci : Nat) (T : u_T) (N : Nat) (fs : List ab_F), as = .ref q :: as' ∧ ab_sh[q]? = some (.inl (ci, fs)) ∧ vwCl[ci]? = some (yX8_rests.cls, T, N) := by
  intro as M Po h
  unfold s_X8_rests at h
  split at h
  · first | exact ⟨_, _, 8, _, _, _, rfl, rfl, rfl⟩ | (rcases h.1 with rfl | rfl | rfl <;> exact ⟨_, _, 8, _, _, _, rfl, rfl, rfl⟩)
  · exact h.elim
set_option maxRecDepth 20000 in
set_option maxHeartbeats 4000000 in
theorem c_X8_rests {l : Launch} : ab_ctr l yX8_rests cX8_rests 4 (some .int) 5 121 s_X8_rests := by
  refine ab_met x_X8_rests (by decide) rfl fo_X8 ko_X8 so_X8 rfl (ab_cs_cons (ab_kV c_X7_has ml_X8_130 v_X7_has ⟨rfl, rfl⟩ r_X7_has) (ab_cs_cons (ab_kS c_X8_isChoice ml_X8_188 v_X8_isChoice ⟨rfl, rfl⟩) (ab_cs_cons (ab_kV c_X1_weighPairs ml_X8_244 v_X1_weighPairs ⟨rfl, rfl⟩ r_X1_weighPairs) (ab_cs_cons (ab_kV c_X1_restCount ml_X8_248 v_X1_restCount ⟨rfl, rfl⟩ r_X1_restCount) (ab_cs_cons (ab_kV c_X1_firstRest ml_X8_251 v_X1_firstRest ⟨rfl, rfl⟩ r_X1_firstRest) ab_cs_nil))))) ?_ ?_
  · intro as M Po h
    unfold s_X8_rests at h
    split at h
    · simp [ab_e0]
    · exact h.elim
  · intro as M Po h G hG
    unfold s_X8_rests at h
    split at h
    · simp only [ab_en, ab_e0, List.length_cons, List.length_nil, Nat.reduceAdd, Nat.reduceSub, List.replicate, List.cons_append, List.nil_append]
      refine ab_go hG [] 80 _ _ _ _ ?_
      simp (decide := true) only [ew_n, ew_0, Option.toList_some, Option.toList_none, List.cons_append, List.nil_append, true_and, and_true, List.length_cons, List.length_nil, Nat.reduceAdd, Nat.reduceLeDiff, Int32.reduceAdd, Int32.reduceSub, Int32.reduceMul, Int32.reduceLT, Int32.reduceLE, Int32.reduceToNatClampNeg, ↓reduceIte, and_self, si_1, si_2, sl_1, sl_2, false_and, and_false, dX8_rests_0, dX8_rests_1, dX8_rests_4, dX8_rests_5, dX8_rests_8, dX8_rests_11, dX8_rests_12, dX8_rests_15, dX8_rests_16, dX8_rests_19, dX8_rests_22, dX8_rests_23, dX8_rests_24, dX8_rests_25, dX8_rests_26, dX8_rests_29, dX8_rests_30, dX8_rests_33, dX8_rests_36, dX8_rests_38, dX8_rests_39, dX8_rests_40, dX8_rests_43, dX8_rests_44, dX8_rests_45, dX8_rests_48, dX8_rests_49, dX8_rests_52, dX8_rests_53, dX8_rests_56, dX8_rests_59, dX8_rests_62, dX8_rests_63, dX8_rests_66, dX8_rests_69, ca_X8_rests_130, ca_X8_rests_188, ca_X8_rests_244, ca_X8_rests_248, ca_X8_rests_251, e_aload_n0, e_calls, e_callv, e_getfield, e_iload_n1, e_iload_n2, e_iload_n3, e_ireturn, gf_X8_26_0, gf_X8_58_0, j_bp_m2, j_goto_59_10, j_ic_m1, j_icmp_eq_26_10, j_if_eq_8_14, j_if_ne_19_5, j_if_ne_33_6, j_if_ne_49_13, q_X1_firstRest, q_X1_restCount, q_X1_weighPairs, q_X7_has, q_X8_isChoice, ab_rn, bi_0, bi_1, ite_not]
      (first | exact h | (split <;> (rename_i hh; first | rw [if_pos hh] at h | rw [if_neg hh] at h) <;> (first | exact h | (split <;> (rename_i hh; first | rw [if_pos hh] at h | rw [if_neg hh] at h) <;> (first | exact h | (split <;> (rename_i hh; first | rw [if_pos hh] at h | rw [if_neg hh] at h) <;> (first | exact h | (split <;> (rename_i hh; first | rw [if_pos hh] at h | rw [if_neg hh] at h) <;> (first | exact h | (split <;> (rename_i hh; first | rw [if_pos hh] at h | rw [if_neg hh] at h) <;> (first | exact h | (split <;> (rename_i hh; first | rw [if_pos hh] at h | rw [if_neg hh] at h) <;> (first | exact h | (split <;> (rename_i hh; first | rw [if_pos hh] at h | rw [if_neg hh] at h) <;> (first | exact h | (split <;> (rename_i hh; first | rw [if_pos hh] at h | rw [if_neg hh] at h) <;> (first | exact h | (split <;> (rename_i hh; first | rw [if_pos hh] at h | rw [if_neg hh] at h) <;> exact h))))))))))))))))))
    · exact h.elim

def s_X8_thorny : ab_Sem := fun as M Po => match as with
  | [.ref 0, .int x, .int y, .int u] => if x < 0 then Po (some (.int (-2))) M else if 20 < x then Po (some (.int (-2))) M else if y < 0 then Po (some (.int (-2))) M else if 10 < y then Po (some (.int (-2))) M else (∀ s : mr_T, Po (some (.int (tm_X (wi_l M x.toNatClampNeg y (M.1 8 3) (n2_X (M.1 8 3)) 0 0) (pw_X 10 (nc_X M)) u))) (mws M 23 s))
  | _ => False
theorem q_X8_thorny {x y u : Int32} {M : ab_M} {Po : ab_P} : s_X8_thorny [.ref 0, .int x, .int y, .int u] M Po = (if x < 0 then Po (some (.int (-2))) M else if 20 < x then Po (some (.int (-2))) M else if y < 0 then Po (some (.int (-2))) M else if 10 < y then Po (some (.int (-2))) M else (∀ s : mr_T, Po (some (.int (tm_X (wi_l M x.toNatClampNeg y (M.1 8 3) (n2_X (M.1 8 3)) 0 0) (pw_X 10 (nc_X M)) u))) (mws M 23 s))) := rfl
abbrev x_X8_thorny : ab_X := (some .int, fl_X8, [(210, 1, s_X7_count), (509, 2, s_X8_power), (516, 3, s_X1_weightInTime), (459, 3, s_X8_termOf)], kl_X8, gs_X8, ab_ros)
theorem ca_X8_thorny_105 {v0 : Value} {st : List Value} {M : ab_M} {k : List Value → ab_M → Prop} : ab_ca x_X8_thorny (2 * 105) (v0 :: st) M k = (st.length ≤ 4 ∧ s_X7_count [v0] M (fun r M' => k (r.toList ++ st) M')) := rfl
theorem ca_X8_thorny_254 {v0 v1 : Value} {st : List Value} {M : ab_M} {k : List Value → ab_M → Prop} : ab_ca x_X8_thorny (2 * 254 + 1) (v1 :: v0 :: st) M k = (st.length ≤ 4 ∧ s_X8_power [v0, v1] M (fun r M' => k (r.toList ++ st) M')) := rfl
theorem ca_X8_thorny_258 {v0 v1 v2 : Value} {st : List Value} {M : ab_M} {k : List Value → ab_M → Prop} : ab_ca x_X8_thorny (2 * 258) (v2 :: v1 :: v0 :: st) M k = (st.length ≤ 4 ∧ s_X1_weightInTime [v0, v1, v2] M (fun r M' => k (r.toList ++ st) M')) := rfl
theorem ca_X8_thorny_229 {v0 v1 v2 : Value} {st : List Value} {M : ab_M} {k : List Value → ab_M → Prop} : ab_ca x_X8_thorny (2 * 229 + 1) (v2 :: v1 :: v0 :: st) M k = (st.length ≤ 4 ∧ s_X8_termOf [v0, v1, v2] M (fun r M' => k (r.toList ++ st) M')) := rfl
theorem r_X8_thorny : ∀ (as : List Value) (M : ab_M) (Po : ab_P), s_X8_thorny as M Po → ∃ (q : Nat) (as' : List Value) (ci : Nat) (T : u_T) (N : Nat) (fs : List ab_F), as = .ref q :: as' ∧ ab_sh[q]? = some (.inl (ci, fs)) ∧ vwCl[ci]? = some (yX8_thorny.cls, T, N) := by
  intro as M Po h
  unfold s_X8_thorny at h
  split at h
  · first | exact ⟨_, _, 8, _, _, _, rfl, rfl, rfl⟩ | (rcases h.1 with rfl | rfl | rfl <;> exact ⟨_, _, 8, _, _, _, rfl, rfl, rfl⟩)
  · exact h.elim
set_option maxRecDepth 20000 in
set_option maxHeartbeats 4000000 in
theorem c_X8_thorny {l : Launch} : ab_ctr l yX8_thorny cX8_thorny 5 (some .int) 6 144 s_X8_thorny := by
  refine ab_met x_X8_thorny (by decide) rfl fo_X8 ko_X8 so_X8 rfl (ab_cs_cons (ab_kV c_X7_count ml_X8_105 v_X7_count ⟨rfl, rfl⟩ r_X7_count) (ab_cs_cons (ab_kS c_X8_power ml_X8_254 v_X8_power ⟨rfl, rfl⟩) (ab_cs_cons (ab_kV c_X1_weightInTime ml_X8_258 v_X1_weightInTime ⟨rfl, rfl⟩ r_X1_weightInTime) (ab_cs_cons (ab_kS c_X8_termOf ml_X8_229 v_X8_termOf ⟨rfl, rfl⟩) ab_cs_nil)))) ?_ ?_
  · intro as M Po h
    unfold s_X8_thorny at h
    split at h
    · simp [ab_e0]
    · exact h.elim
  · intro as M Po h G hG
    unfold s_X8_thorny at h
    split at h
    · simp only [ab_en, ab_e0, List.length_cons, List.length_nil, Nat.reduceAdd, Nat.reduceSub, List.replicate, List.cons_append, List.nil_append]
      refine ab_go hG [] 80 _ _ _ _ ?_
      simp (decide := true) only [ew_n, ew_0, Option.toList_some, Option.toList_none, List.cons_append, List.nil_append, true_and, and_true, List.length_cons, List.length_nil, Nat.reduceAdd, Nat.reduceLeDiff, Int32.reduceAdd, Int32.reduceSub, Int32.reduceMul, Int32.reduceLT, Int32.reduceLE, Int32.reduceToNatClampNeg, ↓reduceIte, and_self, si_1, si_2, sl_1, sl_2, false_and, and_false, dX8_thorny_0, dX8_thorny_1, dX8_thorny_4, dX8_thorny_5, dX8_thorny_7, dX8_thorny_10, dX8_thorny_11, dX8_thorny_14, dX8_thorny_15, dX8_thorny_17, dX8_thorny_20, dX8_thorny_22, dX8_thorny_23, dX8_thorny_25, dX8_thorny_26, dX8_thorny_29, dX8_thorny_32, dX8_thorny_35, dX8_thorny_37, dX8_thorny_38, dX8_thorny_41, dX8_thorny_42, dX8_thorny_43, dX8_thorny_46, dX8_thorny_48, dX8_thorny_49, dX8_thorny_52, ca_X8_thorny_105, ca_X8_thorny_229, ca_X8_thorny_254, ca_X8_thorny_258, e_aload_n0, e_calls, e_callv, e_getfield, e_iload4, e_iload_n1, e_iload_n2, e_iload_n3, e_ireturn, e_istore4i, e_istore4n, e_istore4r, gf_X8_26_0, gf_X8_58_0, j_bp_10, j_bp_20, j_bp_m2, j_icmp_gt_7_13, j_icmp_le_17_6, j_if_lt_11_9, j_if_lt_1_19, q_X1_weightInTime, q_X7_count, q_X8_power, q_X8_termOf, ab_rn, bi_0, bi_1, ite_not]
      split
      · rename_i h1
        rw [if_pos h1] at h
        exact h
      · rename_i h1
        rw [if_neg h1] at h
        split
        · rename_i h2
          rw [if_pos h2] at h
          exact h
        · rename_i h2
          rw [if_neg h2] at h
          split
          · rename_i h3
            rw [if_pos h3] at h
            exact h
          · rename_i h3
            rw [if_neg h3] at h
            split
            · rename_i h4
              rw [if_pos h4] at h
              exact h
            · rename_i h4
              rw [if_neg h4] at h
              exact ⟨h1, h⟩
    · exact h.elim

def jl_X (n : Int32) : Int64 := tb_102 (n - 1).toNatClampNeg
def s_X8_judge : ab_Sem := fun as M Po => match as with
  | [.ref 0, .int x, .long u] => if x < 1 then Po (some (.int (-2))) M else if 4 < x then Po (some (.int (-2))) M else if u < 0 then Po (some (.int (-2))) M else if u < jl_X x then (∀ (g : Nat → Int32) (s : mr_T), Po (some (.int (fi_l M (dg_X u x.toNatClampNeg) x.toNatClampNeg 0 (nw_X M)))) (mws (wt M 17 g) 18 s)) else Po (some (.int (-2))) M
  | _ => False
theorem q_X8_judge {x : Int32} {u : Int64} {M : ab_M} {Po : ab_P} : s_X8_judge [.ref 0, .int x, .long u] M Po = (if x < 1 then Po (some (.int (-2))) M else if 4 < x then Po (some (.int (-2))) M else if u < 0 then Po (some (.int (-2))) M else if u < jl_X x then (∀ (g : Nat → Int32) (s : mr_T), Po (some (.int (fi_l M (dg_X u x.toNatClampNeg) x.toNatClampNeg 0 (nw_X M)))) (mws (wt M 17 g) 18 s)) else Po (some (.int (-2))) M) := rfl
abbrev x_X8_judge : ab_X := (some .int, fl_X8, [(438, 3, s_X3_firstImpossible)], kl_X8, gs_X8, ab_ros)
theorem ca_X8_judge_219 {v0 v1 v2 : Value} {st : List Value} {M : ab_M} {k : List Value → ab_M → Prop} : ab_ca x_X8_judge (2 * 219) (v2 :: v1 :: v0 :: st) M k = (st.length ≤ 4 ∧ s_X3_firstImpossible [v0, v1, v2] M (fun r M' => k (r.toList ++ st) M')) := rfl
theorem r_X8_judge : ∀ (as : List Value) (M : ab_M) (Po : ab_P), s_X8_judge as M Po → ∃ (q : Nat) (as' : List Value) (ci : Nat) (T : u_T) (N : Nat) (fs : List ab_F), as = .ref q :: as' ∧ ab_sh[q]? = some (.inl (ci, fs)) ∧ vwCl[ci]? = some (yX8_judge.cls, T, N) := by
  intro as M Po h
  unfold s_X8_judge at h
  split at h
  · first | exact ⟨_, _, 8, _, _, _, rfl, rfl, rfl⟩ | (rcases h.1 with rfl | rfl | rfl <;> exact ⟨_, _, 8, _, _, _, rfl, rfl, rfl⟩)
  · exact h.elim
theorem j4_aux {x : Int32} (h : ¬ x < 1) (h2 : ¬ 4 < x) : (x = 1 ∨ x = 2 ∨ x = 3 ∨ x = 4) ∧ (0 ≤ x - 1 ∧ x - 1 < 4) := by
  have key : ∀ j, j < 5 → ¬ nI j < 1 → (nI j = 1 ∨ nI j = 2 ∨ nI j = 3 ∨ nI j = 4) ∧ (0 ≤ nI j - 1 ∧ nI j - 1 < 4) := by decide
  obtain ⟨j, hj, rfl⟩ := nI_of2 (x := x) (M := 4) (n := 4) rfl (by
    intro h3
    have a1 : ¬ x.toInt < 1 := fun h4 => h (Int32.lt_iff_toInt_lt.mpr h4)
    have a2 : x.toInt < 0 := Int32.lt_iff_toInt_lt.mp h3
    omega) (Int32.not_lt.mp h2)
  exact key j (by omega) h
set_option maxRecDepth 20000 in
set_option maxHeartbeats 4000000 in
theorem c_X8_judge {l : Launch} : ab_ctr l yX8_judge cX8_judge 4 (some .int) 6 145 s_X8_judge := by
  refine ab_met x_X8_judge (by decide) rfl fo_X8 ko_X8 so_X8 rfl (ab_cs_cons (ab_kV c_X3_firstImpossible ml_X8_219 v_X3_firstImpossible ⟨rfl, rfl⟩ r_X3_firstImpossible) ab_cs_nil) ?_ ?_
  · intro as M Po h
    unfold s_X8_judge at h
    split at h
    · simp [ab_e0]
    · exact h.elim
  · intro as M Po h G hG
    unfold s_X8_judge at h
    split at h
    · simp only [ab_en, ab_e0, List.length_cons, List.length_nil, Nat.reduceAdd, Nat.reduceSub, List.replicate, List.cons_append, List.nil_append]
      refine ab_go hG [] 80 _ _ _ _ ?_
      simp (decide := true) only [ew_n, ew_0, Option.toList_some, Option.toList_none, List.cons_append, List.nil_append, true_and, and_true, List.length_cons, List.length_nil, Nat.reduceAdd, Nat.reduceLeDiff, Int32.reduceAdd, Int32.reduceSub, Int32.reduceMul, Int32.reduceLT, Int32.reduceLE, ↓reduceIte, and_self, si_1, si_2, sl_1, sl_2, false_and, and_false, dX8_judge_0, dX8_judge_1, dX8_judge_2, dX8_judge_5, dX8_judge_6, dX8_judge_9, dX8_judge_10, dX8_judge_13, dX8_judge_14, dX8_judge_15, dX8_judge_16, dX8_judge_19, dX8_judge_20, dX8_judge_23, dX8_judge_24, dX8_judge_25, dX8_judge_26, dX8_judge_27, dX8_judge_28, dX8_judge_31, dX8_judge_33, dX8_judge_34, dX8_judge_35, dX8_judge_38, dX8_judge_39, dX8_judge_40, dX8_judge_43, ca_X8_judge_219, e_alen, e_aload_n0, e_callv, e_getfield, e_gs_X8_216, e_iload_n1, e_ireturn, e_isub, e_laload, e_lcmp, e_lconst0, e_lload_n2, ea_102, el_102, gf_X8_51_0, j_bp_m2, j_ic_1, j_icmp_gt_10_21, j_icmp_lt_2_29, j_if_lt_16_15, j_if_lt_28_6, q_X3_firstImpossible, lg_lt, ab_rn, bi_0, bi_1, ite_not]
      split
      · rename_i h1
        rw [if_pos h1] at h
        exact h
      · rename_i h1
        rw [if_neg h1] at h
        split
        · rename_i h2
          rw [if_pos h2] at h
          exact h
        · rename_i h2
          rw [if_neg h2] at h
          obtain ⟨hx, hb⟩ := j4_aux h1 h2
          split
          · rename_i h3
            rw [if_pos h3] at h
            exact h
          · rename_i h3
            rw [if_neg h3] at h
            refine ⟨hb, ?_⟩
            split
            · rename_i h4
              rw [if_pos (show _ < jl_X _ from h4)] at h
              exact ⟨hx, h⟩
            · rename_i h4
              rw [if_neg (show ¬ _ < jl_X _ from h4)] at h
              exact h
    · exact h.elim

def sd_X (u : Int64) : Int64 := u * 6364136223846793005 + 1442695040888963407
def lt_X (u : Int64) : Int32 := ((u.toUInt64 >>> ((33 : Int32).toInt64.toUInt64 &&& Int64.toUInt64 63)).toInt64 - (u.toUInt64 >>> ((33 : Int32).toInt64.toUInt64 &&& Int64.toUInt64 63)).toInt64 / 20 * 20).toInt32
/-- so many campaigns are left: the miles together, the seed behind them -/
def cm_l (M : ab_M) (sd : Int64 → Int64) (lt : Int64 → Int32) : Nat → Int64 → mr_T → Int32 → Int32 × Int64
  | 0, u, _, a => (a, u)
  | n + 1, u, s, a => cm_l M sd lt n (sd u) (mb_X M s (lt (sd u))) (a + (mb_X M s (lt (sd u))).1)
theorem mb_m5 {M : ab_M} {s t : mr_T} {x : Int32} (h : m5 s t) : m5 (mb_X M s x) (mb_X M t x) := by
  unfold mb_X
  split
  · exact ⟨h.1, h.2.1, h.2.2.1, pr_e5 h.2.2.2 x⟩
  split
  · exact ⟨h.1, h.2.1, h.2.2.1, ea_e5 h.2.2.2 _⟩
  split
  · exact ⟨h.1, by simp only [st_X, h.2.1], h.2.2.1, he_e5 h.2.2.2⟩
  · exact dy_m5 h
theorem cm_m5 {M : ab_M} (sd : Int64 → Int64) (lt : Int64 → Int32) (n : Nat) : ∀ (u : Int64) {s t : mr_T} (a : Int32), m5 s t → cm_l M sd lt n u s a = cm_l M sd lt n u t a := by
  induction n with
  | zero =>
    intro u s t a h
    rfl
  | succ n ih =>
    intro u s t a h
    have hm := mb_m5 (M := M) (x := lt (sd u)) h
    show cm_l M sd lt n (sd u) (mb_X M s (lt (sd u))) (a + (mb_X M s (lt (sd u))).1) = cm_l M sd lt n (sd u) (mb_X M t (lt (sd u))) (a + (mb_X M t (lt (sd u))).1)
    rw [hm.1]
    exact ih _ _ hm
/-- the world with another march at 23 and another seed -/
def cw_X (M : ab_M) (s : mr_T) (u : Int64) : ab_M := ab_sl (mws M 23 s) 0 9 u
theorem mb_cw {M : ab_M} {m d p : Int32} {f : Nat → Int32} : mb_X (mw M 23 m d p f) = mb_X M := by
  funext s x
  unfold mb_X
  rw [dy_w23, st_w23, w_pr23, w_ea23]
theorem cw_sl {M : ab_M} {s : mr_T} {u v : Int64} : ab_sl (cw_X M s u) 0 9 v = cw_X M s v := by
  refine Prod.ext rfl (funext fun a => funext fun b => ?_)
  simp only [cw_X, ab_sl]
  by_cases h : a = 0 ∧ b = 9 <;> simp [h]
theorem cw_sd {M : ab_M} {s : mr_T} {u : Int64} : (cw_X M s u).2 0 9 = u := rfl
theorem cw_id {M : ab_M} : cw_X M (mrs M 23) (M.2 0 9) = M := by
  unfold cw_X
  rw [mws_id]
  refine Prod.ext rfl (funext fun a => funext fun b => ?_)
  simp only [ab_sl]
  split
  · rename_i h
    rw [h.1, h.2]
  · rfl
theorem mb_sl {M : ab_M} {u : Int64} : mb_X (ab_sl M 0 9 u) = mb_X M := by
  have h1 : dy_X (ab_sl M 0 9 u) = dy_X M := by
    funext s
    have hld : ∀ p f, ld_X (ab_sl M 0 9 u) p f = ld_X M p f := fun p f => ld_l_env (M := M) (M' := ab_sl M 0 9 u) rfl rfl _ _ _ _ _ _
    simp only [dy_X, gone_X, thd_X, by_X, gr_X, hld]
    rfl
  funext s x
  unfold mb_X
  rw [h1]
  rfl
theorem mw_slc {M : ab_M} {m d p : Int32} {f : Nat → Int32} {u : Int64} : mw (ab_sl M 0 9 u) 23 m d p f = ab_sl (mw M 23 m d p f) 0 9 u := rfl
theorem lbq {M : ab_M} {s : mr_T} {u : Int64} {x : Int32} {Po : ab_P} : s_X1_mileBehindLot [.ref 20, .int x] (cw_X M s u) Po = Po (some (.int (mb_X M s x).1)) (cw_X M (mb_X M s x) u) := by
  rw [q_X1_mileBehindLot]
  have e1 : mrs (cw_X M s u) 23 = s := mrs_mws (M := M) (q := 23) (s := s)
  have e2 : mb_X (cw_X M s u) = mb_X M := by
    unfold cw_X mws
    rw [← mw_slc, mb_cw, mb_sl]
  have e3 : ∀ t : mr_T, mws (cw_X M s u) 23 t = cw_X M t u := by
    intro t
    show mw (ab_sl (mws M 23 s) 0 9 u) 23 t.1 t.2.1 t.2.2.1 t.2.2.2 = ab_sl (mws M 23 t) 0 9 u
    rw [mw_slc]
    exact congrArg (fun Z => ab_sl Z 0 9 u) (mws_mws (M := M) (q := 23) (s := s) (t := t))
  rw [e1, e2, e3]
def s_X8_campaigns : ab_Sem := fun as M Po => match as with
  | [.ref 0, .int x] => if x < 1 then Po (some (.int (-2))) M else if 30 < x then Po (some (.int (-2))) M else (∀ s : mr_T, Po (some (.int (cm_l M sd_X lt_X x.toNatClampNeg (M.2 0 9) (nw_X M) 0).1)) (cw_X M s (cm_l M sd_X lt_X x.toNatClampNeg (M.2 0 9) (nw_X M) 0).2))
  | _ => False
theorem q_X8_campaigns {x : Int32} {M : ab_M} {Po : ab_P} : s_X8_campaigns [.ref 0, .int x] M Po = (if x < 1 then Po (some (.int (-2))) M else if 30 < x then Po (some (.int (-2))) M else (∀ s : mr_T, Po (some (.int (cm_l M sd_X lt_X x.toNatClampNeg (M.2 0 9) (nw_X M) 0).1)) (cw_X M s (cm_l M sd_X lt_X x.toNatClampNeg (M.2 0 9) (nw_X M) 0).2))) := rfl
abbrev x_X8_campaigns : ab_X := (some .int, fl_X8, [(522, 1, s_X1_setOut), (540, 2, s_X1_mileBehindLot)], kl_X8, gs_X8, ab_ros)
theorem ca_X8_campaigns_261 {v0 : Value} {st : List Value} {M : ab_M} {k : List Value → ab_M → Prop} : ab_ca x_X8_campaigns (2 * 261) (v0 :: st) M k = (st.length ≤ 4 ∧ s_X1_setOut [v0] M (fun r M' => k (r.toList ++ st) M')) := rfl
theorem ca_X8_campaigns_270 {v0 v1 : Value} {st : List Value} {M : ab_M} {k : List Value → ab_M → Prop} : ab_ca x_X8_campaigns (2 * 270) (v1 :: v0 :: st) M k = (st.length ≤ 4 ∧ s_X1_mileBehindLot [v0, v1] M (fun r M' => k (r.toList ++ st) M')) := rfl
theorem r_X8_campaigns : ∀ (as : List Value) (M : ab_M) (Po : ab_P), s_X8_campaigns as M Po → ∃ (q : Nat) (as' : List Value) (ci : Nat) (T : u_T) (N : Nat) (fs : List ab_F), as = .ref q :: as' ∧ ab_sh[q]? = some (.inl (ci, fs)) ∧ vwCl[ci]? = some (yX8_campaigns.cls, T, N) := by
  intro as M Po h
  unfold s_X8_campaigns at h
  split at h
  · first | exact ⟨_, _, 8, _, _, _, rfl, rfl, rfl⟩ | (rcases h.1 with rfl | rfl | rfl <;> exact ⟨_, _, 8, _, _, _, rfl, rfl, rfl⟩)
  · exact h.elim
set_option maxRecDepth 20000 in
set_option maxHeartbeats 4000000 in
theorem lq_X8_campaigns {G : ab_K} {Po : ab_P} (hG : ab_Clo cX8_campaigns x_X8_campaigns Po G) {M : ab_M} {n : Nat} (hn : n < 2 ^ 31) {sd : Int64 → Int64} {lt : Int64 → Int32} (hsd : ∀ u, u * 6364136223846793005 + 1442695040888963407 = sd u) (hlt : ∀ u : Int64, ((u.toUInt64 >>> ((33 : Int32).toInt64.toUInt64 &&& Int64.toUInt64 63)).toInt64 - (u.toUInt64 >>> ((33 : Int32).toInt64.toUInt64 &&& Int64.toUInt64 63)).toInt64 / 20 * 20).toInt32 = lt u) : ∀ (j i : Nat) (a : Int32) (u : Int64) (s : mr_T), i + j = n → (∀ t : mr_T, Po (some (.int (cm_l M sd lt j u s a).1)) (cw_X M t (cm_l M sd lt j u s a).2)) → G 25 [some (.ref 0), some (.int (nI n)), some (.int a), some (.int (nI i))] [] (cw_X M s u) := by
  intro j
  induction j with
  | zero =>
    intro i a u s hi h
    have e : i = n := by omega
    subst e
    unfold cm_l at h
    refine ab_go1 hG [25] 80 _ _ _ _ ?_
    simp (decide := true) only [ew_s, ew_0, Option.toList_some, Option.toList_none, List.cons_append, List.nil_append, true_and, and_true, List.length_cons, List.length_nil, Nat.reduceAdd, Nat.reduceLeDiff, Int32.reduceAdd, Int32.reduceSub, Int32.reduceMul, Int32.reduceLT, Int32.reduceLE, ↓reduceIte, and_self, si_1, si_2, sl_1, sl_2, false_and, and_false, dX8_campaigns_0, dX8_campaigns_1, dX8_campaigns_2, dX8_campaigns_5, dX8_campaigns_6, dX8_campaigns_8, dX8_campaigns_11, dX8_campaigns_13, dX8_campaigns_14, dX8_campaigns_15, dX8_campaigns_16, dX8_campaigns_17, dX8_campaigns_20, dX8_campaigns_23, dX8_campaigns_24, dX8_campaigns_25, dX8_campaigns_26, dX8_campaigns_27, dX8_campaigns_30, dX8_campaigns_31, dX8_campaigns_32, dX8_campaigns_35, dX8_campaigns_38, dX8_campaigns_39, dX8_campaigns_42, dX8_campaigns_43, dX8_campaigns_46, dX8_campaigns_47, dX8_campaigns_48, dX8_campaigns_51, dX8_campaigns_52, dX8_campaigns_55, dX8_campaigns_57, dX8_campaigns_58, dX8_campaigns_61, dX8_campaigns_62, dX8_campaigns_63, dX8_campaigns_66, dX8_campaigns_67, dX8_campaigns_68, dX8_campaigns_71, dX8_campaigns_74, dX8_campaigns_75, ca_X8_campaigns_261, ca_X8_campaigns_270, e_aload_n0, e_callv, e_getfield, e_iadd, e_iload_n1, e_iload_n2, e_iload_n3, e_ireturn, e_istore_n2i, e_istore_n2n, e_istore_n2r, e_istore_n3i, e_istore_n3n, e_istore_n3r, e_kl_X8_264, e_kl_X8_266, e_kl_X8_268, e_l2i, e_ladd, e_lmul, e_lrem, e_lushr, e_putfield, gf_X8_58_0, gf_X8_75_0, j_bp_30, j_bp_33, j_bp_m2, j_goto_71_m46, j_ic_0, j_ic_1, j_icmp_ge_27_47, j_icmp_le_8_6, j_icmp_lt_2_9, j_ii_3_1, pf_X8_75_0, q_X1_setOut, hsd, hlt, lbq, cw_sl, cw_sd, show ¬ (20 : Int64) = 0 from by decide, not_false_eq_true, ab_rn, bi_0, bi_1, ite_not]
    rw [if_neg (nI_nlt (Nat.le_refl i) hn)]
    exact h s
  | succ j ih =>
    intro i a u s hi h
    unfold cm_l at h
    refine ab_go1 hG [25] 80 _ _ _ _ ?_
    simp (decide := true) only [ew_s, ew_0, Option.toList_some, Option.toList_none, List.cons_append, List.nil_append, true_and, and_true, List.length_cons, List.length_nil, Nat.reduceAdd, Nat.reduceLeDiff, Int32.reduceAdd, Int32.reduceSub, Int32.reduceMul, Int32.reduceLT, Int32.reduceLE, ↓reduceIte, and_self, si_1, si_2, sl_1, sl_2, false_and, and_false, dX8_campaigns_0, dX8_campaigns_1, dX8_campaigns_2, dX8_campaigns_5, dX8_campaigns_6, dX8_campaigns_8, dX8_campaigns_11, dX8_campaigns_13, dX8_campaigns_14, dX8_campaigns_15, dX8_campaigns_16, dX8_campaigns_17, dX8_campaigns_20, dX8_campaigns_23, dX8_campaigns_24, dX8_campaigns_25, dX8_campaigns_26, dX8_campaigns_27, dX8_campaigns_30, dX8_campaigns_31, dX8_campaigns_32, dX8_campaigns_35, dX8_campaigns_38, dX8_campaigns_39, dX8_campaigns_42, dX8_campaigns_43, dX8_campaigns_46, dX8_campaigns_47, dX8_campaigns_48, dX8_campaigns_51, dX8_campaigns_52, dX8_campaigns_55, dX8_campaigns_57, dX8_campaigns_58, dX8_campaigns_61, dX8_campaigns_62, dX8_campaigns_63, dX8_campaigns_66, dX8_campaigns_67, dX8_campaigns_68, dX8_campaigns_71, dX8_campaigns_74, dX8_campaigns_75, ca_X8_campaigns_261, ca_X8_campaigns_270, e_aload_n0, e_callv, e_getfield, e_iadd, e_iload_n1, e_iload_n2, e_iload_n3, e_ireturn, e_istore_n2i, e_istore_n2n, e_istore_n2r, e_istore_n3i, e_istore_n3n, e_istore_n3r, e_kl_X8_264, e_kl_X8_266, e_kl_X8_268, e_l2i, e_ladd, e_lmul, e_lrem, e_lushr, e_putfield, gf_X8_58_0, gf_X8_75_0, j_bp_30, j_bp_33, j_bp_m2, j_goto_71_m46, j_ic_0, j_ic_1, j_icmp_ge_27_47, j_icmp_le_8_6, j_icmp_lt_2_9, j_ii_3_1, pf_X8_75_0, q_X1_setOut, hsd, hlt, lbq, cw_sl, cw_sd, show ¬ (20 : Int64) = 0 from by decide, not_false_eq_true, ab_rn, bi_0, bi_1, ite_not]
    rw [if_pos (nI_lt (by omega) hn), nI_1]
    exact ih (i + 1) _ _ _ (by omega) h
set_option maxRecDepth 20000 in
set_option maxHeartbeats 4000000 in
theorem c_X8_campaigns {l : Launch} : ab_ctr l yX8_campaigns cX8_campaigns 4 (some .int) 4 93 s_X8_campaigns := by
  refine ab_met x_X8_campaigns (by decide) rfl fo_X8 ko_X8 so_X8 rfl (ab_cs_cons (ab_kV c_X1_setOut ml_X8_261 v_X1_setOut ⟨rfl, rfl⟩ r_X1_setOut) (ab_cs_cons (ab_kV c_X1_mileBehindLot ml_X8_270 v_X1_mileBehindLot ⟨rfl, rfl⟩ r_X1_mileBehindLot) ab_cs_nil)) ?_ ?_
  · intro as M Po h
    unfold s_X8_campaigns at h
    split at h
    · simp [ab_e0]
    · exact h.elim
  · intro as M Po h G hG
    unfold s_X8_campaigns at h
    split at h
    · simp only [ab_en, ab_e0, List.length_cons, List.length_nil, Nat.reduceAdd, Nat.reduceSub, List.replicate, List.cons_append, List.nil_append]
      refine ab_go hG [25] 80 _ _ _ _ ?_
      simp (decide := true) only [ew_s, ew_0, Option.toList_some, Option.toList_none, List.cons_append, List.nil_append, true_and, and_true, List.length_cons, List.length_nil, Nat.reduceAdd, Nat.reduceLeDiff, Int32.reduceAdd, Int32.reduceSub, Int32.reduceMul, Int32.reduceLT, Int32.reduceLE, ↓reduceIte, and_self, si_1, si_2, sl_1, sl_2, false_and, and_false, dX8_campaigns_0, dX8_campaigns_1, dX8_campaigns_2, dX8_campaigns_5, dX8_campaigns_6, dX8_campaigns_8, dX8_campaigns_11, dX8_campaigns_13, dX8_campaigns_14, dX8_campaigns_15, dX8_campaigns_16, dX8_campaigns_17, dX8_campaigns_20, dX8_campaigns_23, dX8_campaigns_24, dX8_campaigns_25, dX8_campaigns_26, dX8_campaigns_27, dX8_campaigns_30, dX8_campaigns_31, dX8_campaigns_32, dX8_campaigns_35, dX8_campaigns_38, dX8_campaigns_39, dX8_campaigns_42, dX8_campaigns_43, dX8_campaigns_46, dX8_campaigns_47, dX8_campaigns_48, dX8_campaigns_51, dX8_campaigns_52, dX8_campaigns_55, dX8_campaigns_57, dX8_campaigns_58, dX8_campaigns_61, dX8_campaigns_62, dX8_campaigns_63, dX8_campaigns_66, dX8_campaigns_67, dX8_campaigns_68, dX8_campaigns_71, dX8_campaigns_74, dX8_campaigns_75, ca_X8_campaigns_261, ca_X8_campaigns_270, e_aload_n0, e_callv, e_getfield, e_iadd, e_iload_n1, e_iload_n2, e_iload_n3, e_ireturn, e_istore_n2i, e_istore_n2n, e_istore_n2r, e_istore_n3i, e_istore_n3n, e_istore_n3r, e_kl_X8_264, e_kl_X8_266, e_kl_X8_268, e_l2i, e_ladd, e_lmul, e_lrem, e_lushr, e_putfield, gf_X8_58_0, gf_X8_75_0, j_bp_30, j_bp_33, j_bp_m2, j_goto_71_m46, j_ic_0, j_ic_1, j_icmp_ge_27_47, j_icmp_le_8_6, j_icmp_lt_2_9, j_ii_3_1, pf_X8_75_0, q_X1_setOut, ab_rn, bi_0, bi_1, ite_not]
      rename_i x
      split
      · rename_i h1
        rw [if_pos h1] at h
        exact h
      · rename_i h1
        rw [if_neg h1] at h
        split
        · rename_i h2
          rw [if_pos h2] at h
          exact h
        · rename_i h2
          rw [if_neg h2] at h
          obtain ⟨n, hn, rfl⟩ := nI_of (x := x) (fun h3 => h1 (by
            have h4 : x.toInt < 0 := Int32.lt_iff_toInt_lt.mp h3
            exact Int32.lt_iff_toInt_lt.mpr (show x.toInt < 1 by omega)))
          rw [nI_clamp hn] at h
          have key := lq_X8_campaigns hG (M := M) hn (sd := sd_X) (lt := lt_X) (fun _ => rfl) (fun _ => rfl) n 0 0 (M.2 0 9) (M.1 12 3, M.1 12 4, -1, fi_5 (M.1 13) (M.1 24)) (by omega) (by
            rw [cm_m5 sd_X lt_X n _ _ (nw_m5 M _)]
            exact h)
          have e : cw_X M (M.1 12 3, M.1 12 4, -1, fi_5 (M.1 13) (M.1 24)) (M.2 0 9) = mw M 23 (M.1 12 3) (M.1 12 4) (-1) (fi_5 (M.1 13) (M.1 24)) := by
            unfold cw_X mws
            refine Prod.ext rfl (funext fun a => funext fun b => ?_)
            simp only [ab_sl, mw]
            split
            · rename_i hh
              rw [hh.1, hh.2]
            · rfl
          rw [e] at key
          exact key
    · exact h.elim

