/-! METHODS: the model, tried out -/
def cp7 (g f : Nat → Int32) : Nat → Int32 := fun i => if i < 7 then g i else f i
theorem up7 {f g : Nat → Int32} : cp7 g f = up_f (up_f (up_f (up_f (up_f (up_f (up_f f 0 (g 0)) 1 (g 1)) 2 (g 2)) 3 (g 3)) 4 (g 4)) 5 (g 5)) 6 (g 6) := by
  funext i
  match i with
  | 0 => rfl
  | 1 => rfl
  | 2 => rfl
  | 3 => rfl
  | 4 => rfl
  | 5 => rfl
  | 6 => rfl
  | n + 7 =>
    have h5 : ¬ n + 7 < 7 := by omega
    simp [up_f, cp7, h5]
theorem o38_39 {M : ab_M} {g : Nat → Int32} {b : Nat} : (wt M 39 g).1 38 b = M.1 38 b := rfl
theorem o39_40 {M : ab_M} {g : Nat → Int32} {b : Nat} : (wt M 40 g).1 39 b = M.1 39 b := rfl
/-- the counts of men and stretches are within bounds -/
def ct_M (M : ab_M) (n s : Nat) : Prop := n ≤ 5 ∧ M.1 30 7 = nI n ∧ s ≤ 8 ∧ M.1 30 4 = nI s
def s_X9_begin : ab_Sem := fun as M Po => match as with
  | [.ref 30] => Po none (wt M 39 (cp7 (M.1 38) (M.1 39)))
  | _ => False
theorem q_X9_begin {M : ab_M} {Po : ab_P} : s_X9_begin [.ref 30] M Po = (Po none (wt M 39 (cp7 (M.1 38) (M.1 39)))) := rfl
abbrev x_X9_begin : ab_X := (none, fl_X9, [], kl_X9, gs_X9, ab_ros)
theorem r_X9_begin : ∀ (as : List Value) (M : ab_M) (Po : ab_P), s_X9_begin as M Po → ∃ (q : Nat) (as' : List Value) (ci : Nat) (T : u_T) (N : Nat) (fs : List ab_F), as = .ref q :: as' ∧ ab_sh[q]? = some (.inl (ci, fs)) ∧ vwCl[ci]? = some (yX9_begin.cls, T, N) := by
  intro as M Po h
  unfold s_X9_begin at h
  split at h
  · first | exact ⟨_, _, 9, _, _, _, rfl, rfl, rfl⟩ | (rcases h.1 with rfl | rfl | rfl <;> exact ⟨_, _, 9, _, _, _, rfl, rfl, rfl⟩)
  · exact h.elim
set_option maxRecDepth 20000 in
set_option maxHeartbeats 4000000 in
theorem lp_X9_begin {G : ab_K} {Po : ab_P} (hG : ab_Clo cX9_begin x_X9_begin Po G) {M : ab_M} {f : Nat → Int32} (h : Po none (wt M 39 (cp7 (M.1 38) f))) : G 0 [some (.ref 30), none] [] (wt M 39 f) := by
  rw [up7] at h
  refine ab_go hG [] 140 _ _ _ _ ?_
  simp (decide := true) only [ew_n, ew_0, Option.toList_some, Option.toList_none, List.cons_append, List.nil_append, true_and, and_true, List.length_cons, List.length_nil, Nat.reduceAdd, Nat.reduceLeDiff, Int32.reduceAdd, Int32.reduceSub, Int32.reduceMul, Int32.reduceLT, Int32.reduceLE, Int32.reduceToNatClampNeg, ↓reduceIte, and_self, si_1, si_2, sl_1, sl_2, false_and, and_false, dX9_begin_0, dX9_begin_1, dX9_begin_2, dX9_begin_3, dX9_begin_5, dX9_begin_8, dX9_begin_9, dX9_begin_12, dX9_begin_13, dX9_begin_14, dX9_begin_17, dX9_begin_18, dX9_begin_19, dX9_begin_20, dX9_begin_23, dX9_begin_26, e_aload_n0, e_getfield, e_iaload, e_iastore, e_iload_n1, e_istore_n1i, e_istore_n1n, e_istore_n1r, e_return, ea_38, ea_39, ea_40, es_38, es_39, es_40, gf_X9_31_30, gf_X9_34_30, j_bp_7, j_goto_23_m21, j_ic_0, j_icmp_ge_5_21, j_ii_1_1, wt_s, o38_39, ab_rn, bi_0, bi_1, ite_not]
  exact h
set_option maxRecDepth 20000 in
set_option maxHeartbeats 4000000 in
theorem c_X9_begin {l : Launch} : ab_ctr l yX9_begin cX9_begin 2 none 0 0 s_X9_begin := by
  refine ab_met x_X9_begin (by decide) rfl fo_X9 ko_X9 so_X9 rfl ab_cs_nil ?_ ?_
  · intro as M Po h
    unfold s_X9_begin at h
    split at h
    · simp [ab_e0]
    · exact h.elim
  · intro as M Po h G hG
    unfold s_X9_begin at h
    split at h
    · simp only [ab_en, ab_e0, List.length_cons, List.length_nil, Nat.reduceAdd, Nat.reduceSub, List.replicate, List.cons_append, List.nil_append]
      have key := lp_X9_begin hG h
      rw [wt_id] at key
      exact key
    · exact h.elim

theorem dd_env39 {M : ab_M} {g : Nat → Int32} {n s : Nat} : dd_M (wt M 39 g) n s = dd_M M n s := by
  funext P w
  unfold dd_M q2_M q1_M b1_M
  simp only [hlm_39, hsa_39, hhk_39, hsm_39, h33_39, h30_39]
theorem dd_env40 {M : ab_M} {g : Nat → Int32} {n s : Nat} : dd_M (wt M 40 g) n s = dd_M M n s := by
  funext P w
  unfold dd_M q2_M q1_M b1_M
  simp only [hlm_40, hsa_40, hhk_40, hsm_40, h33_40, h30_40]
theorem gdq39 {M : ab_M} {P : Nat → Int32} {n s : Nat} {w : Int32} {Po : ab_P} (hc : ct_M M n s) (h : Po (some (.int (dd_M M n s P w).1)) (wt M 39 (dd_M M n s P w).2)) : s_X9_goDay [.ref 30, .ref 39, .int w] (wt M 39 P) Po := by
  refine ⟨by decide, n, s, hc.1, hc.2.1, hc.2.2.1, hc.2.2.2, ?_⟩
  rw [dd_env39, wt_wt]
  exact h
theorem gdq40 {M : ab_M} {P : Nat → Int32} {n s : Nat} {w : Int32} {Po : ab_P} (hc : ct_M M n s) (h : Po (some (.int (dd_M M n s P w).1)) (wt M 40 (dd_M M n s P w).2)) : s_X9_goDay [.ref 30, .ref 40, .int w] (wt M 40 P) Po := by
  refine ⟨by decide, n, s, hc.1, hc.2.1, hc.2.2.1, hc.2.2.2, ?_⟩
  rw [dd_env40, wt_wt]
  exact h
def it_M (M : ab_M) (n s : Nat) (w : Int32) : Nat → (Nat → Int32) → (Nat → Int32)
  | 0, P => P
  | k + 1, P => (dd_M M n s (it_M M n s w k P) w).2
def s_X9_goDays : ab_Sem := fun as M Po => match as with
  | [.ref 30, .int x, .int w] => ¬ x < 0 ∧ ∃ n s : Nat, ct_M M n s ∧ Po none (wt M 39 (it_M M n s w x.toNatClampNeg (M.1 39)))
  | _ => False
theorem q_X9_goDays {x w : Int32} {M : ab_M} {Po : ab_P} : s_X9_goDays [.ref 30, .int x, .int w] M Po = (¬ x < 0 ∧ ∃ n s : Nat, ct_M M n s ∧ Po none (wt M 39 (it_M M n s w x.toNatClampNeg (M.1 39)))) := rfl
abbrev x_X9_goDays : ab_X := (none, fl_X9, [(322, 3, s_X9_goDay)], kl_X9, gs_X9, ab_ros)
theorem ca_X9_goDays_161 {v0 v1 v2 : Value} {st : List Value} {M : ab_M} {k : List Value → ab_M → Prop} : ab_ca x_X9_goDays (2 * 161) (v2 :: v1 :: v0 :: st) M k = (st.length ≤ 4 ∧ s_X9_goDay [v0, v1, v2] M (fun r M' => k (r.toList ++ st) M')) := rfl
theorem r_X9_goDays : ∀ (as : List Value) (M : ab_M) (Po : ab_P), s_X9_goDays as M Po → ∃ (q : Nat) (as' : List Value) (ci : Nat) (T : u_T) (N : Nat) (fs : List ab_F), as = .ref q :: as' ∧ ab_sh[q]? = some (.inl (ci, fs)) ∧ vwCl[ci]? = some (yX9_goDays.cls, T, N) := by
  intro as M Po h
  unfold s_X9_goDays at h
  split at h
  · first | exact ⟨_, _, 9, _, _, _, rfl, rfl, rfl⟩ | (rcases h.1 with rfl | rfl | rfl <;> exact ⟨_, _, 9, _, _, _, rfl, rfl, rfl⟩)
  · exact h.elim
set_option maxRecDepth 20000 in
set_option maxHeartbeats 4000000 in
theorem lq_X9_goDays {G : ab_K} {Po : ab_P} (hG : ab_Clo cX9_goDays x_X9_goDays Po G) {M : ab_M} {P : Nat → Int32} {n s d : Nat} {w : Int32} (hd : d < 2 ^ 31) (hc : ct_M M n s) (h : Po none (wt M 39 (it_M M n s w d P))) : ∀ (j i : Nat), i + j = d → G 2 [some (.ref 30), some (.int (nI d)), some (.int w), some (.int (nI i))] [] (wt M 39 (it_M M n s w i P)) := by
  intro j
  induction j with
  | zero =>
    intro i hi
    have e : i = d := by omega
    subst e
    refine ab_go1 hG [2] 80 _ _ _ _ ?_
    simp (decide := true) only [ew_s, ew_0, Option.toList_some, Option.toList_none, List.cons_append, List.nil_append, true_and, and_true, List.length_cons, List.length_nil, Nat.reduceAdd, Nat.reduceLeDiff, Int32.reduceAdd, Int32.reduceSub, Int32.reduceMul, Int32.reduceLT, Int32.reduceLE, Int32.reduceToNatClampNeg, ↓reduceIte, and_self, si_1, si_2, sl_1, sl_2, false_and, and_false, dX9_goDays_0, dX9_goDays_1, dX9_goDays_2, dX9_goDays_3, dX9_goDays_4, dX9_goDays_7, dX9_goDays_8, dX9_goDays_9, dX9_goDays_12, dX9_goDays_13, dX9_goDays_16, dX9_goDays_17, dX9_goDays_20, dX9_goDays_23, ca_X9_goDays_161, e_aload_n0, e_callv, e_getfield, e_iload_n1, e_iload_n2, e_iload_n3, e_istore_n3i, e_istore_n3n, e_istore_n3r, e_pop, e_return, gf_X9_34_30, j_goto_20_m18, j_ic_0, j_icmp_ge_4_19, j_ii_3_1, ab_rn, bi_0, bi_1, ite_not]
    rw [if_neg (nI_nlt (Nat.le_refl i) hd)]
    exact h
  | succ j ih =>
    intro i hi
    have ih1 := ih (i + 1) (by omega)
    refine ab_go1 hG [2] 80 _ _ _ _ ?_
    simp (decide := true) only [ew_s, ew_0, Option.toList_some, Option.toList_none, List.cons_append, List.nil_append, true_and, and_true, List.length_cons, List.length_nil, Nat.reduceAdd, Nat.reduceLeDiff, Int32.reduceAdd, Int32.reduceSub, Int32.reduceMul, Int32.reduceLT, Int32.reduceLE, Int32.reduceToNatClampNeg, ↓reduceIte, and_self, si_1, si_2, sl_1, sl_2, false_and, and_false, dX9_goDays_0, dX9_goDays_1, dX9_goDays_2, dX9_goDays_3, dX9_goDays_4, dX9_goDays_7, dX9_goDays_8, dX9_goDays_9, dX9_goDays_12, dX9_goDays_13, dX9_goDays_16, dX9_goDays_17, dX9_goDays_20, dX9_goDays_23, ca_X9_goDays_161, e_aload_n0, e_callv, e_getfield, e_iload_n1, e_iload_n2, e_iload_n3, e_istore_n3i, e_istore_n3n, e_istore_n3r, e_pop, e_return, gf_X9_34_30, j_goto_20_m18, j_ic_0, j_icmp_ge_4_19, j_ii_3_1, ab_rn, bi_0, bi_1, ite_not]
    rw [if_pos (nI_lt (by omega) hd)]
    refine gdq39 hc ?_
    simp (decide := true) only [ew_s, ew_0, Option.toList_some, Option.toList_none, List.cons_append, List.nil_append, true_and, and_true, List.length_cons, List.length_nil, Nat.reduceAdd, Nat.reduceLeDiff, Int32.reduceAdd, Int32.reduceSub, Int32.reduceMul, Int32.reduceLT, Int32.reduceLE, Int32.reduceToNatClampNeg, ↓reduceIte, and_self, si_1, si_2, sl_1, sl_2, false_and, and_false, dX9_goDays_0, dX9_goDays_1, dX9_goDays_2, dX9_goDays_3, dX9_goDays_4, dX9_goDays_7, dX9_goDays_8, dX9_goDays_9, dX9_goDays_12, dX9_goDays_13, dX9_goDays_16, dX9_goDays_17, dX9_goDays_20, dX9_goDays_23, ca_X9_goDays_161, e_aload_n0, e_callv, e_getfield, e_iload_n1, e_iload_n2, e_iload_n3, e_istore_n3i, e_istore_n3n, e_istore_n3r, e_pop, e_return, gf_X9_34_30, j_goto_20_m18, j_ic_0, j_icmp_ge_4_19, j_ii_3_1, ab_rn]
    rw [nI_1]
    exact ih1
set_option maxRecDepth 20000 in
set_option maxHeartbeats 4000000 in
theorem c_X9_goDays {l : Launch} : ab_ctr l yX9_goDays cX9_goDays 4 none 4 96 s_X9_goDays := by
  refine ab_met x_X9_goDays (by decide) rfl fo_X9 ko_X9 so_X9 rfl (ab_cs_cons (ab_kV c_X9_goDay ml_X9_161 v_X9_goDay ⟨rfl, rfl⟩ r_X9_goDay) ab_cs_nil) ?_ ?_
  · intro as M Po h
    unfold s_X9_goDays at h
    split at h
    · simp [ab_e0]
    · exact h.elim
  · intro as M Po h G hG
    unfold s_X9_goDays at h
    split at h
    · simp only [ab_en, ab_e0, List.length_cons, List.length_nil, Nat.reduceAdd, Nat.reduceSub, List.replicate, List.cons_append, List.nil_append]
      obtain ⟨hx, n, s, hc, h⟩ := h
      obtain ⟨d, hd, rfl⟩ := nI_of hx
      rw [nI_clamp hd] at h
      have key := lq_X9_goDays hG hd hc h d 0 (by omega)
      rw [it_M, wt_id] at key
      refine ab_go hG [2] 80 _ _ _ _ ?_
      simp (decide := true) only [ew_s, ew_0, Option.toList_some, Option.toList_none, List.cons_append, List.nil_append, true_and, and_true, List.length_cons, List.length_nil, Nat.reduceAdd, Nat.reduceLeDiff, Int32.reduceAdd, Int32.reduceSub, Int32.reduceMul, Int32.reduceLT, Int32.reduceLE, Int32.reduceToNatClampNeg, ↓reduceIte, and_self, si_1, si_2, sl_1, sl_2, false_and, and_false, dX9_goDays_0, dX9_goDays_1, dX9_goDays_2, dX9_goDays_3, dX9_goDays_4, dX9_goDays_7, dX9_goDays_8, dX9_goDays_9, dX9_goDays_12, dX9_goDays_13, dX9_goDays_16, dX9_goDays_17, dX9_goDays_20, dX9_goDays_23, ca_X9_goDays_161, e_aload_n0, e_callv, e_getfield, e_iload_n1, e_iload_n2, e_iload_n3, e_istore_n3i, e_istore_n3n, e_istore_n3r, e_pop, e_return, gf_X9_34_30, j_goto_20_m18, j_ic_0, j_icmp_ge_4_19, j_ii_3_1, ab_rn, bi_0, bi_1, ite_not]
      exact key
    · exact h.elim

/-- in how many days they are there: so many are left, so many are gone -/
def co_l (M : ab_M) (n s : Nat) : Nat → Nat → (Nat → Int32) → Int32
  | 0, _, _ => -9
  | j + 1, i, P => if P 0 = M.1 30 10 then nI i else co_l M n s j (i + 1) (dd_M M n s P 31).2
def s_X9_comesOf : ab_Sem := fun as M Po => match as with
  | [.ref 30] => ∃ n s : Nat, ct_M M n s ∧ ∀ g : Nat → Int32, Po (some (.int (co_l M n s 61 0 (cp7 (M.1 39) (M.1 40))))) (wt M 40 g)
  | _ => False
theorem q_X9_comesOf {M : ab_M} {Po : ab_P} : s_X9_comesOf [.ref 30] M Po = (∃ n s : Nat, ct_M M n s ∧ ∀ g : Nat → Int32, Po (some (.int (co_l M n s 61 0 (cp7 (M.1 39) (M.1 40))))) (wt M 40 g)) := rfl
abbrev x_X9_comesOf : ab_X := (some .int, fl_X9, [(322, 3, s_X9_goDay)], kl_X9, gs_X9, ab_ros)
theorem ca_X9_comesOf_161 {v0 v1 v2 : Value} {st : List Value} {M : ab_M} {k : List Value → ab_M → Prop} : ab_ca x_X9_comesOf (2 * 161) (v2 :: v1 :: v0 :: st) M k = (st.length ≤ 4 ∧ s_X9_goDay [v0, v1, v2] M (fun r M' => k (r.toList ++ st) M')) := rfl
theorem r_X9_comesOf : ∀ (as : List Value) (M : ab_M) (Po : ab_P), s_X9_comesOf as M Po → ∃ (q : Nat) (as' : List Value) (ci : Nat) (T : u_T) (N : Nat) (fs : List ab_F), as = .ref q :: as' ∧ ab_sh[q]? = some (.inl (ci, fs)) ∧ vwCl[ci]? = some (yX9_comesOf.cls, T, N) := by
  intro as M Po h
  unfold s_X9_comesOf at h
  split at h
  · first | exact ⟨_, _, 9, _, _, _, rfl, rfl, rfl⟩ | (rcases h.1 with rfl | rfl | rfl <;> exact ⟨_, _, 9, _, _, _, rfl, rfl, rfl⟩)
  · exact h.elim
set_option maxRecDepth 20000 in
set_option maxHeartbeats 4000000 in
theorem lq_X9_comesOf {G : ab_K} {Po : ab_P} (hG : ab_Clo cX9_comesOf x_X9_comesOf Po G) {M : ab_M} {n s : Nat} (hc : ct_M M n s) : ∀ (j i : Nat) (P : Nat → Int32), i + j = 61 → (∀ g : Nat → Int32, Po (some (.int (co_l M n s j i P))) (wt M 40 g)) → G 28 [some (.ref 30), some (.int (nI i))] [] (wt M 40 P) := by
  intro j
  induction j with
  | zero =>
    intro i P hi h
    have e : i = 61 := by omega
    subst e
    unfold co_l at h
    refine ab_go1 hG [28] 80 _ _ _ _ ?_
    simp (decide := true) only [ew_s, ew_0, Option.toList_some, Option.toList_none, List.cons_append, List.nil_append, true_and, and_true, List.length_cons, List.length_nil, Nat.reduceAdd, Nat.reduceLeDiff, Int32.reduceAdd, Int32.reduceSub, Int32.reduceMul, Int32.reduceLT, Int32.reduceLE, Int32.reduceToNatClampNeg, ↓reduceIte, and_self, si_1, si_2, sl_1, sl_2, false_and, and_false, dX9_comesOf_0, dX9_comesOf_1, dX9_comesOf_2, dX9_comesOf_3, dX9_comesOf_5, dX9_comesOf_8, dX9_comesOf_9, dX9_comesOf_12, dX9_comesOf_13, dX9_comesOf_14, dX9_comesOf_17, dX9_comesOf_18, dX9_comesOf_19, dX9_comesOf_20, dX9_comesOf_23, dX9_comesOf_26, dX9_comesOf_27, dX9_comesOf_28, dX9_comesOf_29, dX9_comesOf_31, dX9_comesOf_34, dX9_comesOf_35, dX9_comesOf_38, dX9_comesOf_39, dX9_comesOf_40, dX9_comesOf_41, dX9_comesOf_44, dX9_comesOf_47, dX9_comesOf_48, dX9_comesOf_49, dX9_comesOf_50, dX9_comesOf_51, dX9_comesOf_54, dX9_comesOf_56, dX9_comesOf_59, dX9_comesOf_60, dX9_comesOf_63, dX9_comesOf_66, dX9_comesOf_68, ca_X9_comesOf_161, e_aload_n0, e_callv, e_getfield, e_iaload, e_iastore, e_iload_n1, e_ireturn, e_istore_n1i, e_istore_n1n, e_istore_n1r, e_pop, ea_38, ea_39, ea_40, es_38, es_39, es_40, gf_X9_111_30, gf_X9_34_30, gf_X9_37_30, j_bp_31, j_bp_60, j_bp_7, j_bp_m9, j_goto_23_m21, j_goto_63_m35, j_ic_0, j_icmp_ge_5_21, j_icmp_gt_31_35, j_icmp_ne_44_5, j_ii_1_1, h35_38, h30_38, hpp_38, h35_39, h30_39, hpp_39, h35_40, h30_40, hpp_40, hpf_38, hlm_38, hsa_38, hhk_38, hsm_38, h33_38, hpf_39, hlm_39, hsa_39, hhk_39, hsm_39, h33_39, hpf_40, hlm_40, hsa_40, hhk_40, hsm_40, h33_40, wt_wt, wt_s, ab_rn, bi_0, bi_1, ite_not]
    exact h P
  | succ j ih =>
    intro i P hi h
    unfold co_l at h
    refine ab_go1 hG [28] 80 _ _ _ _ ?_
    simp (decide := true) only [ew_s, ew_0, Option.toList_some, Option.toList_none, List.cons_append, List.nil_append, true_and, and_true, List.length_cons, List.length_nil, Nat.reduceAdd, Nat.reduceLeDiff, Int32.reduceAdd, Int32.reduceSub, Int32.reduceMul, Int32.reduceLT, Int32.reduceLE, Int32.reduceToNatClampNeg, ↓reduceIte, and_self, si_1, si_2, sl_1, sl_2, false_and, and_false, dX9_comesOf_0, dX9_comesOf_1, dX9_comesOf_2, dX9_comesOf_3, dX9_comesOf_5, dX9_comesOf_8, dX9_comesOf_9, dX9_comesOf_12, dX9_comesOf_13, dX9_comesOf_14, dX9_comesOf_17, dX9_comesOf_18, dX9_comesOf_19, dX9_comesOf_20, dX9_comesOf_23, dX9_comesOf_26, dX9_comesOf_27, dX9_comesOf_28, dX9_comesOf_29, dX9_comesOf_31, dX9_comesOf_34, dX9_comesOf_35, dX9_comesOf_38, dX9_comesOf_39, dX9_comesOf_40, dX9_comesOf_41, dX9_comesOf_44, dX9_comesOf_47, dX9_comesOf_48, dX9_comesOf_49, dX9_comesOf_50, dX9_comesOf_51, dX9_comesOf_54, dX9_comesOf_56, dX9_comesOf_59, dX9_comesOf_60, dX9_comesOf_63, dX9_comesOf_66, dX9_comesOf_68, ca_X9_comesOf_161, e_aload_n0, e_callv, e_getfield, e_iaload, e_iastore, e_iload_n1, e_ireturn, e_istore_n1i, e_istore_n1n, e_istore_n1r, e_pop, ea_38, ea_39, ea_40, es_38, es_39, es_40, gf_X9_111_30, gf_X9_34_30, gf_X9_37_30, j_bp_31, j_bp_60, j_bp_7, j_bp_m9, j_goto_23_m21, j_goto_63_m35, j_ic_0, j_icmp_ge_5_21, j_icmp_gt_31_35, j_icmp_ne_44_5, j_ii_1_1, h35_38, h30_38, hpp_38, h35_39, h30_39, hpp_39, h35_40, h30_40, hpp_40, hpf_38, hlm_38, hsa_38, hhk_38, hsm_38, h33_38, hpf_39, hlm_39, hsa_39, hhk_39, hsm_39, h33_39, hpf_40, hlm_40, hsa_40, hhk_40, hsm_40, h33_40, wt_wt, wt_s, ab_rn, bi_0, bi_1, ite_not]
    rw [if_neg (show ¬ (60 : Int32) < nI i from nI_nlt (a := 60) (by omega) (by omega))]
    split
    · rename_i h2
      rw [if_pos h2] at h
      exact h P
    · rename_i h2
      rw [if_neg h2] at h
      refine gdq40 hc ?_
      simp (decide := true) only [ew_s, ew_0, Option.toList_some, Option.toList_none, List.cons_append, List.nil_append, true_and, and_true, List.length_cons, List.length_nil, Nat.reduceAdd, Nat.reduceLeDiff, Int32.reduceAdd, Int32.reduceSub, Int32.reduceMul, Int32.reduceLT, Int32.reduceLE, Int32.reduceToNatClampNeg, ↓reduceIte, and_self, si_1, si_2, sl_1, sl_2, false_and, and_false, dX9_comesOf_0, dX9_comesOf_1, dX9_comesOf_2, dX9_comesOf_3, dX9_comesOf_5, dX9_comesOf_8, dX9_comesOf_9, dX9_comesOf_12, dX9_comesOf_13, dX9_comesOf_14, dX9_comesOf_17, dX9_comesOf_18, dX9_comesOf_19, dX9_comesOf_20, dX9_comesOf_23, dX9_comesOf_26, dX9_comesOf_27, dX9_comesOf_28, dX9_comesOf_29, dX9_comesOf_31, dX9_comesOf_34, dX9_comesOf_35, dX9_comesOf_38, dX9_comesOf_39, dX9_comesOf_40, dX9_comesOf_41, dX9_comesOf_44, dX9_comesOf_47, dX9_comesOf_48, dX9_comesOf_49, dX9_comesOf_50, dX9_comesOf_51, dX9_comesOf_54, dX9_comesOf_56, dX9_comesOf_59, dX9_comesOf_60, dX9_comesOf_63, dX9_comesOf_66, dX9_comesOf_68, ca_X9_comesOf_161, e_aload_n0, e_callv, e_getfield, e_iaload, e_iastore, e_iload_n1, e_ireturn, e_istore_n1i, e_istore_n1n, e_istore_n1r, e_pop, ea_38, ea_39, ea_40, es_38, es_39, es_40, gf_X9_111_30, gf_X9_34_30, gf_X9_37_30, j_bp_31, j_bp_60, j_bp_7, j_bp_m9, j_goto_23_m21, j_goto_63_m35, j_ic_0, j_icmp_ge_5_21, j_icmp_gt_31_35, j_icmp_ne_44_5, j_ii_1_1, ab_rn]
      rw [nI_1]
      exact ih (i + 1) _ (by omega) h
set_option maxRecDepth 20000 in
set_option maxHeartbeats 4000000 in
theorem lp_X9_comesOf {G : ab_K} {Po : ab_P} (hG : ab_Clo cX9_comesOf x_X9_comesOf Po G) {M : ab_M} {n s : Nat} {f : Nat → Int32} (hc : ct_M M n s) (h : ∀ g : Nat → Int32, Po (some (.int (co_l M n s 61 0 (cp7 (M.1 39) f)))) (wt M 40 g)) : G 0 [some (.ref 30), none] [] (wt M 40 f) := by
  have key := lq_X9_comesOf hG hc 61 0 _ (by omega) h
  rw [up7] at key
  refine ab_go hG [28] 140 _ _ _ _ ?_
  simp (decide := true) only [ew_s, ew_0, Option.toList_some, Option.toList_none, List.cons_append, List.nil_append, true_and, and_true, List.length_cons, List.length_nil, Nat.reduceAdd, Nat.reduceLeDiff, Int32.reduceAdd, Int32.reduceSub, Int32.reduceMul, Int32.reduceLT, Int32.reduceLE, Int32.reduceToNatClampNeg, ↓reduceIte, and_self, si_1, si_2, sl_1, sl_2, false_and, and_false, dX9_comesOf_0, dX9_comesOf_1, dX9_comesOf_2, dX9_comesOf_3, dX9_comesOf_5, dX9_comesOf_8, dX9_comesOf_9, dX9_comesOf_12, dX9_comesOf_13, dX9_comesOf_14, dX9_comesOf_17, dX9_comesOf_18, dX9_comesOf_19, dX9_comesOf_20, dX9_comesOf_23, dX9_comesOf_26, dX9_comesOf_27, dX9_comesOf_28, dX9_comesOf_29, dX9_comesOf_31, dX9_comesOf_34, dX9_comesOf_35, dX9_comesOf_38, dX9_comesOf_39, dX9_comesOf_40, dX9_comesOf_41, dX9_comesOf_44, dX9_comesOf_47, dX9_comesOf_48, dX9_comesOf_49, dX9_comesOf_50, dX9_comesOf_51, dX9_comesOf_54, dX9_comesOf_56, dX9_comesOf_59, dX9_comesOf_60, dX9_comesOf_63, dX9_comesOf_66, dX9_comesOf_68, ca_X9_comesOf_161, e_aload_n0, e_callv, e_getfield, e_iaload, e_iastore, e_iload_n1, e_ireturn, e_istore_n1i, e_istore_n1n, e_istore_n1r, e_pop, ea_38, ea_39, ea_40, es_38, es_39, es_40, gf_X9_111_30, gf_X9_34_30, gf_X9_37_30, j_bp_31, j_bp_60, j_bp_7, j_bp_m9, j_goto_23_m21, j_goto_63_m35, j_ic_0, j_icmp_ge_5_21, j_icmp_gt_31_35, j_icmp_ne_44_5, j_ii_1_1, wt_s, o39_40, ab_rn, bi_0, bi_1, ite_not]
  exact key
set_option maxRecDepth 20000 in
set_option maxHeartbeats 4000000 in
theorem c_X9_comesOf {l : Launch} : ab_ctr l yX9_comesOf cX9_comesOf 2 (some .int) 4 96 s_X9_comesOf := by
  refine ab_met x_X9_comesOf (by decide) rfl fo_X9 ko_X9 so_X9 rfl (ab_cs_cons (ab_kV c_X9_goDay ml_X9_161 v_X9_goDay ⟨rfl, rfl⟩ r_X9_goDay) ab_cs_nil) ?_ ?_
  · intro as M Po h
    unfold s_X9_comesOf at h
    split at h
    · simp [ab_e0]
    · exact h.elim
  · intro as M Po h G hG
    unfold s_X9_comesOf at h
    split at h
    · simp only [ab_en, ab_e0, List.length_cons, List.length_nil, Nat.reduceAdd, Nat.reduceSub, List.replicate, List.cons_append, List.nil_append]
      obtain ⟨n, s, hc, h⟩ := h
      have key := lp_X9_comesOf hG hc h
      rw [wt_id] at key
      exact key
    · exact h.elim

