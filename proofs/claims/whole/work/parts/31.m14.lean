/-! METHODS: Outlook, a row judged, losses -/
theorem ds_w18 {M : ab_M} {m d p : Int32} {f : Nat → Int32} : ds_X (mw M 18 m d p f) = ds_X M := by
  funext s a c b
  unfold ds_X
  rw [dp_w18]
  rfl
theorem dsq_w18 {M : ab_M} {m d p a c b : Int32} {f : Nat → Int32} {Po : ab_P} : s_X3_does [.ref 16, .int a, .int c, .int b] (mw M 18 m d p f) Po = Po (some (.int (ds_X M (m, d, p, f) a c b).1)) (mws M 18 (ds_X M (m, d, p, f) a c b).2) := by
  rw [q_X3_does, ds_w18, mrs_w18, mws_w18]
theorem dp_m5 {M : ab_M} {s t : mr_T} {a b : Int32} (h : m5 s t) : (dp_X M s a b).1 = (dp_X M t a b).1 ∧ m5 (dp_X M s a b).2 (dp_X M t a b).2 := by
  unfold dp_X
  split
  · exact ⟨rfl, dy_m5 h⟩
  split
  · exact ⟨rfl, h.1, by simp only [st_X, h.2.1], h.2.2.1, he_e5 h.2.2.2⟩
  split
  · exact ⟨by simp only [tf_e5 h.2.2.2], h.1, h.2.1, h.2.2.1, pr_e5 h.2.2.2 b⟩
  split
  · exact ⟨by simp only [tf_e5 h.2.2.2], h.1, h.2.1, h.2.2.1, ea_e5 h.2.2.2 b⟩
  split
  · exact ⟨by simp only [h.2.2.1, ld_e5 h.2.2.2], h⟩
  · exact ⟨rfl, h⟩
theorem ds_m5 {M : ab_M} {s t : mr_T} {a c b : Int32} (h : m5 s t) : (ds_X M s a c b).1 = (ds_X M t a c b).1 ∧ m5 (ds_X M s a c b).2 (ds_X M t a c b).2 := by
  unfold ds_X
  split
  · exact ⟨by simp only [tf_e5 h.2.2.2], h⟩
  split
  · exact ⟨by simp only [h.1], h⟩
  split
  · exact ⟨by simp only [(dp_m5 h).1], (dp_m5 h).2⟩
  · exact ⟨rfl, h⟩
/-- the first of the doings from the i-th on that can not be -/
def fi_l (M : ab_M) (g : Nat → Int32) : Nat → Nat → mr_T → Int32
  | 0, _, _ => -9
  | n + 1, i, s => if (ds_X M s (g i / 100) (g i / 10 - g i / 10 / 10 * 10) (g i - g i / 10 * 10)).1 = 0 then nI i else fi_l M g n (i + 1) (ds_X M s (g i / 100) (g i / 10 - g i / 10 / 10 * 10) (g i - g i / 10 * 10)).2
theorem fi_m5 {M : ab_M} {g : Nat → Int32} : ∀ (n i : Nat) {s t : mr_T}, m5 s t → fi_l M g n i s = fi_l M g n i t
  | 0, _, _, _, _ => rfl
  | n + 1, i, s, t, h => by
    simp only [fi_l, (ds_m5 h).1, fi_m5 n (i + 1) (ds_m5 h).2]
def lf_X (r : Int64) : Nat → Int64
  | 0 => r
  | k + 1 => lf_X r k / 1000
def dg_X (r : Int64) (n : Nat) (i : Nat) : Int32 := (lf_X r (n - 1 - i) - lf_X r (n - 1 - i) / 1000 * 1000).toInt32
theorem fi_g {M : ab_M} {g g' : Nat → Int32} : ∀ (n i : Nat) {s : mr_T}, (∀ k, i ≤ k → k < i + n → g k = g' k) → fi_l M g n i s = fi_l M g' n i s
  | 0, _, _, _ => rfl
  | n + 1, i, s, h => by
    simp only [fi_l, h i (Nat.le_refl i) (by omega)]
    rw [fi_g n (i + 1) (fun k h1 h2 => h k (by omega) (by omega))]
theorem t17_pc {M : ab_M} {g : Nat → Int32} : pc_X (wt M 17 g) = pc_X M := rfl
theorem t17_kd {M : ab_M} {g : Nat → Int32} : kd_X (wt M 17 g) = kd_X M := rfl
theorem t17_sa {M : ab_M} {g : Nat → Int32} : sa_X (wt M 17 g) = sa_X M := rfl
theorem t17_go {M : ab_M} {g : Nat → Int32} : go_X (wt M 17 g) = go_X M := rfl
theorem t17_pr {M : ab_M} {g : Nat → Int32} : pr_X (wt M 17 g) = pr_X M := rfl
theorem t17_ea {M : ab_M} {g : Nat → Int32} : ea_X (wt M 17 g) = ea_X M := rfl
theorem t17_he {M : ab_M} {g : Nat → Int32} : he_X (wt M 17 g) = he_X M := rfl
theorem t17_35 {M : ab_M} {g : Nat → Int32} : (wt M 17 g).1 3 5 = M.1 3 5 := rfl
theorem t17_ld {M : ab_M} {g : Nat → Int32} {p1 : Int32} {f1 : Nat → Int32} : ld_X (wt M 17 g) p1 f1 = ld_X M p1 f1 := ld_l_env t17_pc t17_kd _ _ _ _ _ _
theorem t17_dy {M : ab_M} {g : Nat → Int32} : dy_X (wt M 17 g) = dy_X M := by
  funext s
  simp only [dy_X, gone_X, thd_X, by_X, gr_X, t17_pc, t17_kd, t17_sa, t17_go, t17_pr, t17_ld, t17_he, t17_35]
  rfl
theorem t17_st {M : ab_M} {g : Nat → Int32} : st_X (wt M 17 g) = st_X M := by
  funext s
  simp only [st_X, t17_he]
theorem t17_dp {M : ab_M} {g : Nat → Int32} : dp_X (wt M 17 g) = dp_X M := by
  funext s a b
  unfold dp_X
  rw [t17_dy, t17_st, t17_pr, t17_ea, t17_ld]
  rfl
theorem ds_wt {M : ab_M} {g : Nat → Int32} : ds_X (wt M 17 g) = ds_X M := by
  funext s a c b
  unfold ds_X
  rw [t17_dp]
  rfl
theorem fi_wt {M : ab_M} {h g : Nat → Int32} : ∀ (n i : Nat) (s : mr_T), fi_l (wt M 17 h) g n i s = fi_l M g n i s
  | 0, _, _ => rfl
  | n + 1, i, s => by
    simp only [fi_l, ds_wt, fi_wt n]
theorem fq_17 {M : ab_M} {g : Nat → Int32} {Po : ab_P} : s_X2_follow [.ref 18, .ref 12] (wt M 17 g) Po = Po none (mw (wt M 17 g) 18 (M.1 12 3) (M.1 12 4) (-1) (fi_5 (M.1 13) (M.1 19))) := propext ⟨fun h => h.2.2, fun h => ⟨Or.inl rfl, rfl, h⟩⟩
theorem w17_r {M : ab_M} {m d p : Int32} {f g : Nat → Int32} {b : Nat} : (mw (wt M 17 g) 18 m d p f).1 17 b = g b := rfl
def s_X3_firstImpossible : ab_Sem := fun as M Po => match as with
  | [.ref 16, .int x, .long r] => (x = 1 ∨ x = 2 ∨ x = 3 ∨ x = 4) ∧ ∀ (g : Nat → Int32) (s : mr_T), Po (some (.int (fi_l M (dg_X r x.toNatClampNeg) x.toNatClampNeg 0 (nw_X M)))) (mws (wt M 17 g) 18 s)
  | _ => False
theorem q_X3_firstImpossible {x : Int32} {r : Int64} {M : ab_M} {Po : ab_P} : s_X3_firstImpossible [.ref 16, .int x, .long r] M Po = ((x = 1 ∨ x = 2 ∨ x = 3 ∨ x = 4) ∧ ∀ (g : Nat → Int32) (s : mr_T), Po (some (.int (fi_l M (dg_X r x.toNatClampNeg) x.toNatClampNeg 0 (nw_X M)))) (mws (wt M 17 g) 18 s)) := rfl
abbrev x_X3_firstImpossible : ab_X := (some .int, fl_X3, [(167, 2, s_J9_min_7cf53), (44, 2, s_X2_follow), (180, 4, s_X3_does)], kl_X3, gs_X3, ab_ros)
theorem ca_X3_firstImpossible_83 {v0 v1 : Value} {st : List Value} {M : ab_M} {k : List Value → ab_M → Prop} : ab_ca x_X3_firstImpossible (2 * 83 + 1) (v1 :: v0 :: st) M k = (st.length ≤ 4 ∧ s_J9_min_7cf53 [v0, v1] M (fun r M' => k (r.toList ++ st) M')) := rfl
theorem ca_X3_firstImpossible_22 {v0 v1 : Value} {st : List Value} {M : ab_M} {k : List Value → ab_M → Prop} : ab_ca x_X3_firstImpossible (2 * 22) (v1 :: v0 :: st) M k = (st.length ≤ 4 ∧ s_X2_follow [v0, v1] M (fun r M' => k (r.toList ++ st) M')) := rfl
theorem ca_X3_firstImpossible_90 {v0 v1 v2 v3 : Value} {st : List Value} {M : ab_M} {k : List Value → ab_M → Prop} : ab_ca x_X3_firstImpossible (2 * 90) (v3 :: v2 :: v1 :: v0 :: st) M k = (st.length ≤ 4 ∧ s_X3_does [v0, v1, v2, v3] M (fun r M' => k (r.toList ++ st) M')) := rfl
theorem r_X3_firstImpossible : ∀ (as : List Value) (M : ab_M) (Po : ab_P), s_X3_firstImpossible as M Po → ∃ (q : Nat) (as' : List Value) (ci : Nat) (T : u_T) (N : Nat) (fs : List ab_F), as = .ref q :: as' ∧ ab_sh[q]? = some (.inl (ci, fs)) ∧ vwCl[ci]? = some (yX3_firstImpossible.cls, T, N) := by
  intro as M Po h
  unfold s_X3_firstImpossible at h
  split at h
  · first | exact ⟨_, _, 3, _, _, _, rfl, rfl, rfl⟩ | (rcases h.1 with rfl | rfl | rfl <;> exact ⟨_, _, 3, _, _, _, rfl, rfl, rfl⟩)
  · exact h.elim
set_option maxRecDepth 20000 in
set_option maxHeartbeats 4000000 in
theorem lq_X3_firstImpossible {G : ab_K} {Po : ab_P} (hG : ab_Clo cX3_firstImpossible x_X3_firstImpossible Po G) {M : ab_M} {r u : Int64} {g : Nat → Int32} {n : Nat} (hn : n ≤ 4) : ∀ (j i : Nat) (m d p : Int32) (f : Nat → Int32) (c : Option Value), i + j = n → (∀ s : mr_T, Po (some (.int (fi_l (wt M 17 g) g j i (m, d, p, f)))) (mws (wt M 17 g) 18 s)) → G 63 [some (.ref 16), some (.int (nI n)), some (.long r), none, some (.long u), none, some (.int (nI i)), c] [] (mw (wt M 17 g) 18 m d p f) := by
  intro j
  induction j with
  | zero =>
    intro i m d p f c hi h
    have e : i = n := by omega
    subst e
    unfold fi_l at h
    refine ab_go1 hG [63] 80 _ _ _ _ ?_
    simp (decide := true) only [ew_s, ew_0, Option.toList_some, Option.toList_none, List.cons_append, List.nil_append, true_and, and_true, List.length_cons, List.length_nil, Nat.reduceAdd, Nat.reduceLeDiff, Int32.reduceAdd, Int32.reduceSub, Int32.reduceMul, Int32.reduceLT, Int32.reduceLE, ↓reduceIte, and_self, si_1, si_2, sl_1, sl_2, false_and, and_false, dX3_firstImpossible_0, dX3_firstImpossible_1, dX3_firstImpossible_3, dX3_firstImpossible_4, dX3_firstImpossible_5, dX3_firstImpossible_8, dX3_firstImpossible_9, dX3_firstImpossible_12, dX3_firstImpossible_13, dX3_firstImpossible_14, dX3_firstImpossible_16, dX3_firstImpossible_18, dX3_firstImpossible_21, dX3_firstImpossible_22, dX3_firstImpossible_25, dX3_firstImpossible_27, dX3_firstImpossible_29, dX3_firstImpossible_32, dX3_firstImpossible_33, dX3_firstImpossible_34, dX3_firstImpossible_35, dX3_firstImpossible_37, dX3_firstImpossible_40, dX3_firstImpossible_41, dX3_firstImpossible_43, dX3_firstImpossible_46, dX3_firstImpossible_49, dX3_firstImpossible_50, dX3_firstImpossible_53, dX3_firstImpossible_54, dX3_firstImpossible_57, dX3_firstImpossible_60, dX3_firstImpossible_61, dX3_firstImpossible_63, dX3_firstImpossible_65, dX3_firstImpossible_66, dX3_firstImpossible_69, dX3_firstImpossible_71, dX3_firstImpossible_72, dX3_firstImpossible_75, dX3_firstImpossible_76, dX3_firstImpossible_79, dX3_firstImpossible_80, dX3_firstImpossible_83, dX3_firstImpossible_85, dX3_firstImpossible_86, dX3_firstImpossible_88, dX3_firstImpossible_89, dX3_firstImpossible_91, dX3_firstImpossible_93, dX3_firstImpossible_94, dX3_firstImpossible_96, dX3_firstImpossible_98, dX3_firstImpossible_99, dX3_firstImpossible_101, dX3_firstImpossible_102, dX3_firstImpossible_104, dX3_firstImpossible_106, dX3_firstImpossible_107, dX3_firstImpossible_110, dX3_firstImpossible_113, dX3_firstImpossible_115, dX3_firstImpossible_116, dX3_firstImpossible_119, dX3_firstImpossible_122, dX3_firstImpossible_124, ca_X3_firstImpossible_22, ca_X3_firstImpossible_83, ca_X3_firstImpossible_90, e_alen, e_aload_n0, e_calls, e_callv, e_getfield, e_iaload, e_iastore, e_idiv, e_iload6, e_iload7, e_iload_n1, e_irem, e_ireturn, e_istore6i, e_istore6n, e_istore6r, e_istore7i, e_istore7n, e_istore7r, e_isub, e_kl_X3_88, e_l2i, e_ldiv, e_lload4, e_lload_n2, e_lrem, e_lstore4ii, e_lstore4il, e_lstore4in, e_lstore4ir, e_lstore4ni, e_lstore4nl, e_lstore4nn, e_lstore4nr, e_lstore4ri, e_lstore4rl, e_lstore4rn, e_lstore4rr, ea_17, el_17, es_17, gf_X3_15_16, gf_X3_19_16, gf_X3_9_16, j_bp_10, j_bp_100, j_bp_m9, j_goto_119_m56, j_goto_46_m30, j_ic_0, j_ic_1, j_icmp_ge_66_56, j_icmp_ge_76_46, j_if_lt_18_31, j_if_ne_110_6, j_ii_6_1, j_ii_6_m1, q_J9_min_7cf53, dsq_w18, w17_r, ab_rn, bi_0, bi_1, ite_not]
    rw [if_neg (nI_nlt (Nat.le_refl i) (by omega))]
    exact h (m, d, p, f)
  | succ j ih =>
    intro i m d p f c hi h
    unfold fi_l at h
    have h2 : nI i < nI n := nI_lt (by omega) (by omega)
    have h4 : nI i < 4 := nI_lt (b := 4) (by omega) (by omega)
    have hc : (nI i).toNatClampNeg = i := nI_clamp (by omega)
    have hb : 0 ≤ nI i ∧ nI i < 4 := ⟨nI_pos' (by omega), h4⟩
    refine ab_go1 hG [63] 80 _ _ _ _ ?_
    simp (decide := true) only [ew_s, ew_0, Option.toList_some, Option.toList_none, List.cons_append, List.nil_append, true_and, and_true, List.length_cons, List.length_nil, Nat.reduceAdd, Nat.reduceLeDiff, Int32.reduceAdd, Int32.reduceSub, Int32.reduceMul, Int32.reduceLT, Int32.reduceLE, ↓reduceIte, and_self, si_1, si_2, sl_1, sl_2, false_and, and_false, dX3_firstImpossible_0, dX3_firstImpossible_1, dX3_firstImpossible_3, dX3_firstImpossible_4, dX3_firstImpossible_5, dX3_firstImpossible_8, dX3_firstImpossible_9, dX3_firstImpossible_12, dX3_firstImpossible_13, dX3_firstImpossible_14, dX3_firstImpossible_16, dX3_firstImpossible_18, dX3_firstImpossible_21, dX3_firstImpossible_22, dX3_firstImpossible_25, dX3_firstImpossible_27, dX3_firstImpossible_29, dX3_firstImpossible_32, dX3_firstImpossible_33, dX3_firstImpossible_34, dX3_firstImpossible_35, dX3_firstImpossible_37, dX3_firstImpossible_40, dX3_firstImpossible_41, dX3_firstImpossible_43, dX3_firstImpossible_46, dX3_firstImpossible_49, dX3_firstImpossible_50, dX3_firstImpossible_53, dX3_firstImpossible_54, dX3_firstImpossible_57, dX3_firstImpossible_60, dX3_firstImpossible_61, dX3_firstImpossible_63, dX3_firstImpossible_65, dX3_firstImpossible_66, dX3_firstImpossible_69, dX3_firstImpossible_71, dX3_firstImpossible_72, dX3_firstImpossible_75, dX3_firstImpossible_76, dX3_firstImpossible_79, dX3_firstImpossible_80, dX3_firstImpossible_83, dX3_firstImpossible_85, dX3_firstImpossible_86, dX3_firstImpossible_88, dX3_firstImpossible_89, dX3_firstImpossible_91, dX3_firstImpossible_93, dX3_firstImpossible_94, dX3_firstImpossible_96, dX3_firstImpossible_98, dX3_firstImpossible_99, dX3_firstImpossible_101, dX3_firstImpossible_102, dX3_firstImpossible_104, dX3_firstImpossible_106, dX3_firstImpossible_107, dX3_firstImpossible_110, dX3_firstImpossible_113, dX3_firstImpossible_115, dX3_firstImpossible_116, dX3_firstImpossible_119, dX3_firstImpossible_122, dX3_firstImpossible_124, ca_X3_firstImpossible_22, ca_X3_firstImpossible_83, ca_X3_firstImpossible_90, e_alen, e_aload_n0, e_calls, e_callv, e_getfield, e_iaload, e_iastore, e_idiv, e_iload6, e_iload7, e_iload_n1, e_irem, e_ireturn, e_istore6i, e_istore6n, e_istore6r, e_istore7i, e_istore7n, e_istore7r, e_isub, e_kl_X3_88, e_l2i, e_ldiv, e_lload4, e_lload_n2, e_lrem, e_lstore4ii, e_lstore4il, e_lstore4in, e_lstore4ir, e_lstore4ni, e_lstore4nl, e_lstore4nn, e_lstore4nr, e_lstore4ri, e_lstore4rl, e_lstore4rn, e_lstore4rr, ea_17, el_17, es_17, gf_X3_15_16, gf_X3_19_16, gf_X3_9_16, j_bp_10, j_bp_100, j_bp_m9, j_goto_119_m56, j_goto_46_m30, j_ic_0, j_ic_1, j_icmp_ge_66_56, j_icmp_ge_76_46, j_if_lt_18_31, j_if_ne_110_6, j_ii_6_1, j_ii_6_m1, q_J9_min_7cf53, dsq_w18, w17_r, ab_rn, bi_0, bi_1, ite_not]
    rw [if_pos h2, if_pos h4]
    simp only [hc, nI_1]
    refine ⟨hb, ?_⟩
    split
    · rename_i h3
      rw [if_pos h3] at h
      exact h _
    · rename_i h3
      rw [if_neg h3] at h
      exact ih (i + 1) _ _ _ _ _ (by omega) h
set_option maxRecDepth 20000 in
set_option maxHeartbeats 4000000 in
theorem lr_X3_firstImpossible {G : ab_K} {Po : ab_P} (hG : ab_Clo cX3_firstImpossible x_X3_firstImpossible Po G) {M : ab_M} {r u : Int64} {g : Nat → Int32} {n : Nat} {x : Int32} {c : Option Value} (hn : n ≤ 4) (hg : ∀ k, k < n → g k = dg_X r n k) (h : ∀ (g : Nat → Int32) (s : mr_T), Po (some (.int (fi_l M (dg_X r n) n 0 (nw_X M)))) (mws (wt M 17 g) 18 s)) : G 49 [some (.ref 16), some (.int (nI n)), some (.long r), none, some (.long u), none, some (.int x), c] [] (wt M 17 g) := by
  refine ab_go1 hG [63] 80 _ _ _ _ ?_
  simp (decide := true) only [ew_s, ew_0, Option.toList_some, Option.toList_none, List.cons_append, List.nil_append, true_and, and_true, List.length_cons, List.length_nil, Nat.reduceAdd, Nat.reduceLeDiff, Int32.reduceAdd, Int32.reduceSub, Int32.reduceMul, Int32.reduceLT, Int32.reduceLE, ↓reduceIte, and_self, si_1, si_2, sl_1, sl_2, false_and, and_false, dX3_firstImpossible_0, dX3_firstImpossible_1, dX3_firstImpossible_3, dX3_firstImpossible_4, dX3_firstImpossible_5, dX3_firstImpossible_8, dX3_firstImpossible_9, dX3_firstImpossible_12, dX3_firstImpossible_13, dX3_firstImpossible_14, dX3_firstImpossible_16, dX3_firstImpossible_18, dX3_firstImpossible_21, dX3_firstImpossible_22, dX3_firstImpossible_25, dX3_firstImpossible_27, dX3_firstImpossible_29, dX3_firstImpossible_32, dX3_firstImpossible_33, dX3_firstImpossible_34, dX3_firstImpossible_35, dX3_firstImpossible_37, dX3_firstImpossible_40, dX3_firstImpossible_41, dX3_firstImpossible_43, dX3_firstImpossible_46, dX3_firstImpossible_49, dX3_firstImpossible_50, dX3_firstImpossible_53, dX3_firstImpossible_54, dX3_firstImpossible_57, dX3_firstImpossible_60, dX3_firstImpossible_61, dX3_firstImpossible_63, dX3_firstImpossible_65, dX3_firstImpossible_66, dX3_firstImpossible_69, dX3_firstImpossible_71, dX3_firstImpossible_72, dX3_firstImpossible_75, dX3_firstImpossible_76, dX3_firstImpossible_79, dX3_firstImpossible_80, dX3_firstImpossible_83, dX3_firstImpossible_85, dX3_firstImpossible_86, dX3_firstImpossible_88, dX3_firstImpossible_89, dX3_firstImpossible_91, dX3_firstImpossible_93, dX3_firstImpossible_94, dX3_firstImpossible_96, dX3_firstImpossible_98, dX3_firstImpossible_99, dX3_firstImpossible_101, dX3_firstImpossible_102, dX3_firstImpossible_104, dX3_firstImpossible_106, dX3_firstImpossible_107, dX3_firstImpossible_110, dX3_firstImpossible_113, dX3_firstImpossible_115, dX3_firstImpossible_116, dX3_firstImpossible_119, dX3_firstImpossible_122, dX3_firstImpossible_124, ca_X3_firstImpossible_22, ca_X3_firstImpossible_83, ca_X3_firstImpossible_90, e_alen, e_aload_n0, e_calls, e_callv, e_getfield, e_iaload, e_iastore, e_idiv, e_iload6, e_iload7, e_iload_n1, e_irem, e_ireturn, e_istore6i, e_istore6n, e_istore6r, e_istore7i, e_istore7n, e_istore7r, e_isub, e_kl_X3_88, e_l2i, e_ldiv, e_lload4, e_lload_n2, e_lrem, e_lstore4ii, e_lstore4il, e_lstore4in, e_lstore4ir, e_lstore4ni, e_lstore4nl, e_lstore4nn, e_lstore4nr, e_lstore4ri, e_lstore4rl, e_lstore4rn, e_lstore4rr, ea_17, el_17, es_17, gf_X3_15_16, gf_X3_19_16, gf_X3_9_16, j_bp_10, j_bp_100, j_bp_m9, j_goto_119_m56, j_goto_46_m30, j_ic_0, j_ic_1, j_icmp_ge_66_56, j_icmp_ge_76_46, j_if_lt_18_31, j_if_ne_110_6, j_ii_6_1, j_ii_6_m1, q_J9_min_7cf53, fq_17, ab_rn, bi_0, bi_1, ite_not]
  refine lq_X3_firstImpossible hG hn n 0 _ _ _ _ _ (by omega) (fun s => ?_)
  rw [fi_wt, fi_g n 0 (fun k _ hk => hg k (by omega)), fi_m5 n 0 (nw_m5 M _)]
  exact h g s
set_option maxRecDepth 20000 in
set_option maxHeartbeats 4000000 in
theorem c_X3_firstImpossible {l : Launch} : ab_ctr l yX3_firstImpossible cX3_firstImpossible 8 (some .int) 5 118 s_X3_firstImpossible := by
  refine ab_met x_X3_firstImpossible (by decide) rfl fo_X3 ko_X3 so_X3 rfl (ab_cs_cons (ab_kmin ml_X3_83 (by decide) (by decide)) (ab_cs_cons (ab_kV c_X2_follow ml_X3_22 v_X2_follow ⟨rfl, rfl⟩ r_X2_follow) (ab_cs_cons (ab_kV c_X3_does ml_X3_90 v_X3_does ⟨rfl, rfl⟩ r_X3_does) ab_cs_nil))) ?_ ?_
  · intro as M Po h
    unfold s_X3_firstImpossible at h
    split at h
    · simp [ab_e0]
    · exact h.elim
  · intro as M Po h G hG
    unfold s_X3_firstImpossible at h
    split at h
    · simp only [ab_en, ab_e0, List.length_cons, List.length_nil, Nat.reduceAdd, Nat.reduceSub, List.replicate, List.cons_append, List.nil_append]
      obtain ⟨hx, h⟩ := h
      rcases hx with rfl | rfl | rfl | rfl
      · have e : ∀ {P : Prop}, P → P := id
        rw [show (1 : Int32).toNatClampNeg = 1 by decide] at h
        rw [← wt_id (M := M) (p := 17)]
        refine ab_go hG [49] 120 _ _ _ _ ?_
        simp (decide := true) only [ew_s, ew_0, Option.toList_some, Option.toList_none, List.cons_append, List.nil_append, true_and, and_true, List.length_cons, List.length_nil, Nat.reduceAdd, Nat.reduceLeDiff, Int32.reduceAdd, Int32.reduceSub, Int32.reduceMul, Int32.reduceLT, Int32.reduceLE, ↓reduceIte, and_self, si_1, si_2, sl_1, sl_2, false_and, and_false, dX3_firstImpossible_0, dX3_firstImpossible_1, dX3_firstImpossible_3, dX3_firstImpossible_4, dX3_firstImpossible_5, dX3_firstImpossible_8, dX3_firstImpossible_9, dX3_firstImpossible_12, dX3_firstImpossible_13, dX3_firstImpossible_14, dX3_firstImpossible_16, dX3_firstImpossible_18, dX3_firstImpossible_21, dX3_firstImpossible_22, dX3_firstImpossible_25, dX3_firstImpossible_27, dX3_firstImpossible_29, dX3_firstImpossible_32, dX3_firstImpossible_33, dX3_firstImpossible_34, dX3_firstImpossible_35, dX3_firstImpossible_37, dX3_firstImpossible_40, dX3_firstImpossible_41, dX3_firstImpossible_43, dX3_firstImpossible_46, dX3_firstImpossible_49, dX3_firstImpossible_50, dX3_firstImpossible_53, dX3_firstImpossible_54, dX3_firstImpossible_57, dX3_firstImpossible_60, dX3_firstImpossible_61, dX3_firstImpossible_63, dX3_firstImpossible_65, dX3_firstImpossible_66, dX3_firstImpossible_69, dX3_firstImpossible_71, dX3_firstImpossible_72, dX3_firstImpossible_75, dX3_firstImpossible_76, dX3_firstImpossible_79, dX3_firstImpossible_80, dX3_firstImpossible_83, dX3_firstImpossible_85, dX3_firstImpossible_86, dX3_firstImpossible_88, dX3_firstImpossible_89, dX3_firstImpossible_91, dX3_firstImpossible_93, dX3_firstImpossible_94, dX3_firstImpossible_96, dX3_firstImpossible_98, dX3_firstImpossible_99, dX3_firstImpossible_101, dX3_firstImpossible_102, dX3_firstImpossible_104, dX3_firstImpossible_106, dX3_firstImpossible_107, dX3_firstImpossible_110, dX3_firstImpossible_113, dX3_firstImpossible_115, dX3_firstImpossible_116, dX3_firstImpossible_119, dX3_firstImpossible_122, dX3_firstImpossible_124, ca_X3_firstImpossible_22, ca_X3_firstImpossible_83, ca_X3_firstImpossible_90, e_alen, e_aload_n0, e_calls, e_callv, e_getfield, e_iaload, e_iastore, e_idiv, e_iload6, e_iload7, e_iload_n1, e_irem, e_ireturn, e_istore6i, e_istore6n, e_istore6r, e_istore7i, e_istore7n, e_istore7r, e_isub, e_kl_X3_88, e_l2i, e_ldiv, e_lload4, e_lload_n2, e_lrem, e_lstore4ii, e_lstore4il, e_lstore4in, e_lstore4ir, e_lstore4ni, e_lstore4nl, e_lstore4nn, e_lstore4nr, e_lstore4ri, e_lstore4rl, e_lstore4rn, e_lstore4rr, ea_17, el_17, es_17, gf_X3_15_16, gf_X3_19_16, gf_X3_9_16, j_bp_10, j_bp_100, j_bp_m9, j_goto_119_m56, j_goto_46_m30, j_ic_0, j_ic_1, j_icmp_ge_66_56, j_icmp_ge_76_46, j_if_lt_18_31, j_if_ne_110_6, j_ii_6_1, j_ii_6_m1, q_J9_min_7cf53, wt_s, ab_rn, bi_0, bi_1, ite_not]
        refine lr_X3_firstImpossible hG (n := 1) (by omega) (fun k hk => ?_) h
        match k, hk with
        | 0, _ => rfl
        | k + 1, hk => exact absurd hk (by omega)
      · have e : ∀ {P : Prop}, P → P := id
        rw [show (2 : Int32).toNatClampNeg = 2 by decide] at h
        rw [← wt_id (M := M) (p := 17)]
        refine ab_go hG [49] 120 _ _ _ _ ?_
        simp (decide := true) only [ew_s, ew_0, Option.toList_some, Option.toList_none, List.cons_append, List.nil_append, true_and, and_true, List.length_cons, List.length_nil, Nat.reduceAdd, Nat.reduceLeDiff, Int32.reduceAdd, Int32.reduceSub, Int32.reduceMul, Int32.reduceLT, Int32.reduceLE, ↓reduceIte, and_self, si_1, si_2, sl_1, sl_2, false_and, and_false, dX3_firstImpossible_0, dX3_firstImpossible_1, dX3_firstImpossible_3, dX3_firstImpossible_4, dX3_firstImpossible_5, dX3_firstImpossible_8, dX3_firstImpossible_9, dX3_firstImpossible_12, dX3_firstImpossible_13, dX3_firstImpossible_14, dX3_firstImpossible_16, dX3_firstImpossible_18, dX3_firstImpossible_21, dX3_firstImpossible_22, dX3_firstImpossible_25, dX3_firstImpossible_27, dX3_firstImpossible_29, dX3_firstImpossible_32, dX3_firstImpossible_33, dX3_firstImpossible_34, dX3_firstImpossible_35, dX3_firstImpossible_37, dX3_firstImpossible_40, dX3_firstImpossible_41, dX3_firstImpossible_43, dX3_firstImpossible_46, dX3_firstImpossible_49, dX3_firstImpossible_50, dX3_firstImpossible_53, dX3_firstImpossible_54, dX3_firstImpossible_57, dX3_firstImpossible_60, dX3_firstImpossible_61, dX3_firstImpossible_63, dX3_firstImpossible_65, dX3_firstImpossible_66, dX3_firstImpossible_69, dX3_firstImpossible_71, dX3_firstImpossible_72, dX3_firstImpossible_75, dX3_firstImpossible_76, dX3_firstImpossible_79, dX3_firstImpossible_80, dX3_firstImpossible_83, dX3_firstImpossible_85, dX3_firstImpossible_86, dX3_firstImpossible_88, dX3_firstImpossible_89, dX3_firstImpossible_91, dX3_firstImpossible_93, dX3_firstImpossible_94, dX3_firstImpossible_96, dX3_firstImpossible_98, dX3_firstImpossible_99, dX3_firstImpossible_101, dX3_firstImpossible_102, dX3_firstImpossible_104, dX3_firstImpossible_106, dX3_firstImpossible_107, dX3_firstImpossible_110, dX3_firstImpossible_113, dX3_firstImpossible_115, dX3_firstImpossible_116, dX3_firstImpossible_119, dX3_firstImpossible_122, dX3_firstImpossible_124, ca_X3_firstImpossible_22, ca_X3_firstImpossible_83, ca_X3_firstImpossible_90, e_alen, e_aload_n0, e_calls, e_callv, e_getfield, e_iaload, e_iastore, e_idiv, e_iload6, e_iload7, e_iload_n1, e_irem, e_ireturn, e_istore6i, e_istore6n, e_istore6r, e_istore7i, e_istore7n, e_istore7r, e_isub, e_kl_X3_88, e_l2i, e_ldiv, e_lload4, e_lload_n2, e_lrem, e_lstore4ii, e_lstore4il, e_lstore4in, e_lstore4ir, e_lstore4ni, e_lstore4nl, e_lstore4nn, e_lstore4nr, e_lstore4ri, e_lstore4rl, e_lstore4rn, e_lstore4rr, ea_17, el_17, es_17, gf_X3_15_16, gf_X3_19_16, gf_X3_9_16, j_bp_10, j_bp_100, j_bp_m9, j_goto_119_m56, j_goto_46_m30, j_ic_0, j_ic_1, j_icmp_ge_66_56, j_icmp_ge_76_46, j_if_lt_18_31, j_if_ne_110_6, j_ii_6_1, j_ii_6_m1, q_J9_min_7cf53, wt_s, ab_rn, bi_0, bi_1, ite_not]
        refine lr_X3_firstImpossible hG (n := 2) (by omega) (fun k hk => ?_) h
        match k, hk with
        | 0, _ => rfl
        | 1, _ => rfl
        | k + 2, hk => exact absurd hk (by omega)
      · have e : ∀ {P : Prop}, P → P := id
        rw [show (3 : Int32).toNatClampNeg = 3 by decide] at h
        rw [← wt_id (M := M) (p := 17)]
        refine ab_go hG [49] 120 _ _ _ _ ?_
        simp (decide := true) only [ew_s, ew_0, Option.toList_some, Option.toList_none, List.cons_append, List.nil_append, true_and, and_true, List.length_cons, List.length_nil, Nat.reduceAdd, Nat.reduceLeDiff, Int32.reduceAdd, Int32.reduceSub, Int32.reduceMul, Int32.reduceLT, Int32.reduceLE, ↓reduceIte, and_self, si_1, si_2, sl_1, sl_2, false_and, and_false, dX3_firstImpossible_0, dX3_firstImpossible_1, dX3_firstImpossible_3, dX3_firstImpossible_4, dX3_firstImpossible_5, dX3_firstImpossible_8, dX3_firstImpossible_9, dX3_firstImpossible_12, dX3_firstImpossible_13, dX3_firstImpossible_14, dX3_firstImpossible_16, dX3_firstImpossible_18, dX3_firstImpossible_21, dX3_firstImpossible_22, dX3_firstImpossible_25, dX3_firstImpossible_27, dX3_firstImpossible_29, dX3_firstImpossible_32, dX3_firstImpossible_33, dX3_firstImpossible_34, dX3_firstImpossible_35, dX3_firstImpossible_37, dX3_firstImpossible_40, dX3_firstImpossible_41, dX3_firstImpossible_43, dX3_firstImpossible_46, dX3_firstImpossible_49, dX3_firstImpossible_50, dX3_firstImpossible_53, dX3_firstImpossible_54, dX3_firstImpossible_57, dX3_firstImpossible_60, dX3_firstImpossible_61, dX3_firstImpossible_63, dX3_firstImpossible_65, dX3_firstImpossible_66, dX3_firstImpossible_69, dX3_firstImpossible_71, dX3_firstImpossible_72, dX3_firstImpossible_75, dX3_firstImpossible_76, dX3_firstImpossible_79, dX3_firstImpossible_80, dX3_firstImpossible_83, dX3_firstImpossible_85, dX3_firstImpossible_86, dX3_firstImpossible_88, dX3_firstImpossible_89, dX3_firstImpossible_91, dX3_firstImpossible_93, dX3_firstImpossible_94, dX3_firstImpossible_96, dX3_firstImpossible_98, dX3_firstImpossible_99, dX3_firstImpossible_101, dX3_firstImpossible_102, dX3_firstImpossible_104, dX3_firstImpossible_106, dX3_firstImpossible_107, dX3_firstImpossible_110, dX3_firstImpossible_113, dX3_firstImpossible_115, dX3_firstImpossible_116, dX3_firstImpossible_119, dX3_firstImpossible_122, dX3_firstImpossible_124, ca_X3_firstImpossible_22, ca_X3_firstImpossible_83, ca_X3_firstImpossible_90, e_alen, e_aload_n0, e_calls, e_callv, e_getfield, e_iaload, e_iastore, e_idiv, e_iload6, e_iload7, e_iload_n1, e_irem, e_ireturn, e_istore6i, e_istore6n, e_istore6r, e_istore7i, e_istore7n, e_istore7r, e_isub, e_kl_X3_88, e_l2i, e_ldiv, e_lload4, e_lload_n2, e_lrem, e_lstore4ii, e_lstore4il, e_lstore4in, e_lstore4ir, e_lstore4ni, e_lstore4nl, e_lstore4nn, e_lstore4nr, e_lstore4ri, e_lstore4rl, e_lstore4rn, e_lstore4rr, ea_17, el_17, es_17, gf_X3_15_16, gf_X3_19_16, gf_X3_9_16, j_bp_10, j_bp_100, j_bp_m9, j_goto_119_m56, j_goto_46_m30, j_ic_0, j_ic_1, j_icmp_ge_66_56, j_icmp_ge_76_46, j_if_lt_18_31, j_if_ne_110_6, j_ii_6_1, j_ii_6_m1, q_J9_min_7cf53, wt_s, ab_rn, bi_0, bi_1, ite_not]
        refine lr_X3_firstImpossible hG (n := 3) (by omega) (fun k hk => ?_) h
        match k, hk with
        | 0, _ => rfl
        | 1, _ => rfl
        | 2, _ => rfl
        | k + 3, hk => exact absurd hk (by omega)
      · have e : ∀ {P : Prop}, P → P := id
        rw [show (4 : Int32).toNatClampNeg = 4 by decide] at h
        rw [← wt_id (M := M) (p := 17)]
        refine ab_go hG [49] 120 _ _ _ _ ?_
        simp (decide := true) only [ew_s, ew_0, Option.toList_some, Option.toList_none, List.cons_append, List.nil_append, true_and, and_true, List.length_cons, List.length_nil, Nat.reduceAdd, Nat.reduceLeDiff, Int32.reduceAdd, Int32.reduceSub, Int32.reduceMul, Int32.reduceLT, Int32.reduceLE, ↓reduceIte, and_self, si_1, si_2, sl_1, sl_2, false_and, and_false, dX3_firstImpossible_0, dX3_firstImpossible_1, dX3_firstImpossible_3, dX3_firstImpossible_4, dX3_firstImpossible_5, dX3_firstImpossible_8, dX3_firstImpossible_9, dX3_firstImpossible_12, dX3_firstImpossible_13, dX3_firstImpossible_14, dX3_firstImpossible_16, dX3_firstImpossible_18, dX3_firstImpossible_21, dX3_firstImpossible_22, dX3_firstImpossible_25, dX3_firstImpossible_27, dX3_firstImpossible_29, dX3_firstImpossible_32, dX3_firstImpossible_33, dX3_firstImpossible_34, dX3_firstImpossible_35, dX3_firstImpossible_37, dX3_firstImpossible_40, dX3_firstImpossible_41, dX3_firstImpossible_43, dX3_firstImpossible_46, dX3_firstImpossible_49, dX3_firstImpossible_50, dX3_firstImpossible_53, dX3_firstImpossible_54, dX3_firstImpossible_57, dX3_firstImpossible_60, dX3_firstImpossible_61, dX3_firstImpossible_63, dX3_firstImpossible_65, dX3_firstImpossible_66, dX3_firstImpossible_69, dX3_firstImpossible_71, dX3_firstImpossible_72, dX3_firstImpossible_75, dX3_firstImpossible_76, dX3_firstImpossible_79, dX3_firstImpossible_80, dX3_firstImpossible_83, dX3_firstImpossible_85, dX3_firstImpossible_86, dX3_firstImpossible_88, dX3_firstImpossible_89, dX3_firstImpossible_91, dX3_firstImpossible_93, dX3_firstImpossible_94, dX3_firstImpossible_96, dX3_firstImpossible_98, dX3_firstImpossible_99, dX3_firstImpossible_101, dX3_firstImpossible_102, dX3_firstImpossible_104, dX3_firstImpossible_106, dX3_firstImpossible_107, dX3_firstImpossible_110, dX3_firstImpossible_113, dX3_firstImpossible_115, dX3_firstImpossible_116, dX3_firstImpossible_119, dX3_firstImpossible_122, dX3_firstImpossible_124, ca_X3_firstImpossible_22, ca_X3_firstImpossible_83, ca_X3_firstImpossible_90, e_alen, e_aload_n0, e_calls, e_callv, e_getfield, e_iaload, e_iastore, e_idiv, e_iload6, e_iload7, e_iload_n1, e_irem, e_ireturn, e_istore6i, e_istore6n, e_istore6r, e_istore7i, e_istore7n, e_istore7r, e_isub, e_kl_X3_88, e_l2i, e_ldiv, e_lload4, e_lload_n2, e_lrem, e_lstore4ii, e_lstore4il, e_lstore4in, e_lstore4ir, e_lstore4ni, e_lstore4nl, e_lstore4nn, e_lstore4nr, e_lstore4ri, e_lstore4rl, e_lstore4rn, e_lstore4rr, ea_17, el_17, es_17, gf_X3_15_16, gf_X3_19_16, gf_X3_9_16, j_bp_10, j_bp_100, j_bp_m9, j_goto_119_m56, j_goto_46_m30, j_ic_0, j_ic_1, j_icmp_ge_66_56, j_icmp_ge_76_46, j_if_lt_18_31, j_if_ne_110_6, j_ii_6_1, j_ii_6_m1, q_J9_min_7cf53, wt_s, ab_rn, bi_0, bi_1, ite_not]
        refine lr_X3_firstImpossible hG (n := 4) (by omega) (fun k hk => ?_) h
        match k, hk with
        | 0, _ => rfl
        | 1, _ => rfl
        | 2, _ => rfl
        | 3, _ => rfl
        | k + 4, hk => exact absurd hk (by omega)

    · exact h.elim

theorem ms_w18 {M : ab_M} {m d p : Int32} {f : Nat → Int32} : ms_X (mw M 18 m d p f) = ms_X M := by
  funext x
  simp only [ms_X, its_w18, w_o35_18, n18_3, n18_4, n18_t]
theorem msq_w18 {M : ab_M} {m d p x : Int32} {f : Nat → Int32} {Po : ab_P} : s_X3_mileOfSome [.ref 16, .int x] (mw M 18 m d p f) Po = (∀ s : mr_T, Po (some (.int (ms_X M x))) (mws M 18 s)) := by
  rw [q_X3_mileOfSome, ms_w18]
  simp only [mws_w18]
/-- what a man loses them over the orders: so many sets are left, the i-th is next -/
def lo_l (M : ab_M) (x c : Int32) : Nat → Nat → Int32 → Int32
  | 0, _, a => a
  | n + 1, i, a => if (nI i >>> (x &&& 31)) &&& 1 = 0 then lo_l M x c n (i + 1) (a + fc_X (bc_X (nI i)) * fc_X (c - 1 - bc_X (nI i)) * (ms_X M (nI i) - ms_X M (nI i ||| ((1 : Int32) <<< (x &&& 31))))) else lo_l M x c n (i + 1) a
def n2_X (c : Int32) : Nat := ((1 : Int32) <<< (c &&& 31)).toNatClampNeg
theorem n2_31 (c : Int32) : n2_X c < 2 ^ 31 := by
  have h : ((1 : Int32) <<< (c &&& 31)).toNatClampNeg = ((1 : Int32) <<< (c &&& 31)).toInt.toNat := rfl
  have h2 := Int32.toInt_lt ((1 : Int32) <<< (c &&& 31))
  unfold n2_X
  omega
theorem n2_lt {c : Int32} {i : Nat} (h : i < n2_X c) : nI i < (1 : Int32) <<< (c &&& 31) := by
  have h31 := n2_31 c
  rw [Int32.lt_iff_toInt_lt, nI_toInt (by omega)]
  have : ((1 : Int32) <<< (c &&& 31)).toNatClampNeg = ((1 : Int32) <<< (c &&& 31)).toInt.toNat := rfl
  unfold n2_X at h
  omega
theorem n2_ge {c : Int32} {i : Nat} (h : n2_X c ≤ i) (hi : i < 2 ^ 31) : ¬ nI i < (1 : Int32) <<< (c &&& 31) := by
  rw [Int32.lt_iff_toInt_lt, nI_toInt hi]
  have : ((1 : Int32) <<< (c &&& 31)).toNatClampNeg = ((1 : Int32) <<< (c &&& 31)).toInt.toNat := rfl
  unfold n2_X at h
  omega
def s_X3_lossOverOrders : ab_Sem := fun as M Po => match as with
  | [.ref 16, .int x] => ∀ s : mr_T, Po (some (.int (lo_l M x (M.1 8 3) (n2_X (M.1 8 3)) 0 0))) (mws M 18 s)
  | _ => False
theorem q_X3_lossOverOrders {x : Int32} {M : ab_M} {Po : ab_P} : s_X3_lossOverOrders [.ref 16, .int x] M Po = (∀ s : mr_T, Po (some (.int (lo_l M x (M.1 8 3) (n2_X (M.1 8 3)) 0 0))) (mws M 18 s)) := rfl
abbrev x_X3_lossOverOrders : ab_X := (some .int, fl_X3, [(92, 1, s_X2_menCount), (213, 1, s_J6_bitCount_0f7a4), (223, 1, s_X8_factorial), (228, 2, s_X3_mileOfSome)], kl_X3, gs_X3, ab_ros)
theorem ca_X3_lossOverOrders_46 {v0 : Value} {st : List Value} {M : ab_M} {k : List Value → ab_M → Prop} : ab_ca x_X3_lossOverOrders (2 * 46) (v0 :: st) M k = (st.length ≤ 4 ∧ s_X2_menCount [v0] M (fun r M' => k (r.toList ++ st) M')) := rfl
theorem ca_X3_lossOverOrders_106 {v0 : Value} {st : List Value} {M : ab_M} {k : List Value → ab_M → Prop} : ab_ca x_X3_lossOverOrders (2 * 106 + 1) (v0 :: st) M k = (st.length ≤ 4 ∧ s_J6_bitCount_0f7a4 [v0] M (fun r M' => k (r.toList ++ st) M')) := rfl
theorem ca_X3_lossOverOrders_111 {v0 : Value} {st : List Value} {M : ab_M} {k : List Value → ab_M → Prop} : ab_ca x_X3_lossOverOrders (2 * 111 + 1) (v0 :: st) M k = (st.length ≤ 4 ∧ s_X8_factorial [v0] M (fun r M' => k (r.toList ++ st) M')) := rfl
theorem ca_X3_lossOverOrders_114 {v0 v1 : Value} {st : List Value} {M : ab_M} {k : List Value → ab_M → Prop} : ab_ca x_X3_lossOverOrders (2 * 114) (v1 :: v0 :: st) M k = (st.length ≤ 4 ∧ s_X3_mileOfSome [v0, v1] M (fun r M' => k (r.toList ++ st) M')) := rfl
theorem r_X3_lossOverOrders : ∀ (as : List Value) (M : ab_M) (Po : ab_P), s_X3_lossOverOrders as M Po → ∃ (q : Nat) (as' : List Value) (ci : Nat) (T : u_T) (N : Nat) (fs : List ab_F), as = .ref q :: as' ∧ ab_sh[q]? = some (.inl (ci, fs)) ∧ vwCl[ci]? = some (yX3_lossOverOrders.cls, T, N) := by
  intro as M Po h
  unfold s_X3_lossOverOrders at h
  split at h
  · first | exact ⟨_, _, 3, _, _, _, rfl, rfl, rfl⟩ | (rcases h.1 with rfl | rfl | rfl <;> exact ⟨_, _, 3, _, _, _, rfl, rfl, rfl⟩)
  · exact h.elim
set_option maxRecDepth 20000 in
set_option maxHeartbeats 4000000 in
theorem lq_X3_lossOverOrders {G : ab_K} {Po : ab_P} (hG : ab_Clo cX3_lossOverOrders x_X3_lossOverOrders Po G) {M : ab_M} {x w : Int32} : ∀ (j i : Nat) (a m d p : Int32) (f : Nat → Int32) (c5 c6 : Option Value), i + j = n2_X w → (∀ s : mr_T, Po (some (.int (lo_l M x w j i a))) (mws M 18 s)) → G 13 [some (.ref 16), some (.int x), some (.int w), some (.int a), some (.int (nI i)), c5, c6] [] (mw M 18 m d p f) := by
  intro j
  have h31 := n2_31 w
  induction j with
  | zero =>
    intro i a m d p f c5 c6 hi h
    unfold lo_l at h
    refine ab_go1 hG [13] 80 _ _ _ _ ?_
    simp (decide := true) only [ew_s, ew_0, Option.toList_some, Option.toList_none, List.cons_append, List.nil_append, true_and, and_true, List.length_cons, List.length_nil, Nat.reduceAdd, Nat.reduceLeDiff, Int32.reduceAdd, Int32.reduceSub, Int32.reduceMul, Int32.reduceLT, Int32.reduceLE, ↓reduceIte, and_self, si_1, si_2, sl_1, sl_2, false_and, and_false, dX3_lossOverOrders_0, dX3_lossOverOrders_1, dX3_lossOverOrders_4, dX3_lossOverOrders_7, dX3_lossOverOrders_8, dX3_lossOverOrders_9, dX3_lossOverOrders_10, dX3_lossOverOrders_11, dX3_lossOverOrders_13, dX3_lossOverOrders_15, dX3_lossOverOrders_16, dX3_lossOverOrders_17, dX3_lossOverOrders_18, dX3_lossOverOrders_21, dX3_lossOverOrders_23, dX3_lossOverOrders_24, dX3_lossOverOrders_25, dX3_lossOverOrders_26, dX3_lossOverOrders_27, dX3_lossOverOrders_30, dX3_lossOverOrders_32, dX3_lossOverOrders_35, dX3_lossOverOrders_37, dX3_lossOverOrders_39, dX3_lossOverOrders_42, dX3_lossOverOrders_43, dX3_lossOverOrders_44, dX3_lossOverOrders_45, dX3_lossOverOrders_47, dX3_lossOverOrders_48, dX3_lossOverOrders_51, dX3_lossOverOrders_52, dX3_lossOverOrders_54, dX3_lossOverOrders_55, dX3_lossOverOrders_57, dX3_lossOverOrders_58, dX3_lossOverOrders_60, dX3_lossOverOrders_63, dX3_lossOverOrders_64, dX3_lossOverOrders_66, dX3_lossOverOrders_67, dX3_lossOverOrders_68, dX3_lossOverOrders_69, dX3_lossOverOrders_70, dX3_lossOverOrders_73, dX3_lossOverOrders_74, dX3_lossOverOrders_75, dX3_lossOverOrders_76, dX3_lossOverOrders_77, dX3_lossOverOrders_80, dX3_lossOverOrders_83, dX3_lossOverOrders_84, ca_X3_lossOverOrders_106, ca_X3_lossOverOrders_111, ca_X3_lossOverOrders_114, ca_X3_lossOverOrders_46, e_aload_n0, e_calls, e_callv, e_getfield, e_iadd, e_iand, e_iload4, e_iload5, e_iload6, e_iload_n1, e_iload_n2, e_iload_n3, e_imul, e_ior, e_ireturn, e_ishl, e_ishr, e_istore4i, e_istore4n, e_istore4r, e_istore5i, e_istore5n, e_istore5r, e_istore6i, e_istore6n, e_istore6r, e_istore_n2i, e_istore_n2n, e_istore_n2r, e_istore_n3i, e_istore_n3n, e_istore_n3r, e_isub, gf_X3_15_16, j_goto_80_m67, j_ic_0, j_ic_1, j_icmp_ge_18_65, j_if_ne_27_50, j_ii_4_1, q_J6_bitCount_0f7a4, q_X8_factorial, msq_w18, mws, ab_rn, bi_0, bi_1, ite_not]
    rw [if_neg (n2_ge (by omega) (by omega))]
    exact h (m, d, p, f)
  | succ j ih =>
    intro i a m d p f c5 c6 hi h
    unfold lo_l at h
    refine ab_go1 hG [13] 80 _ _ _ _ ?_
    simp (decide := true) only [ew_s, ew_0, Option.toList_some, Option.toList_none, List.cons_append, List.nil_append, true_and, and_true, List.length_cons, List.length_nil, Nat.reduceAdd, Nat.reduceLeDiff, Int32.reduceAdd, Int32.reduceSub, Int32.reduceMul, Int32.reduceLT, Int32.reduceLE, ↓reduceIte, and_self, si_1, si_2, sl_1, sl_2, false_and, and_false, dX3_lossOverOrders_0, dX3_lossOverOrders_1, dX3_lossOverOrders_4, dX3_lossOverOrders_7, dX3_lossOverOrders_8, dX3_lossOverOrders_9, dX3_lossOverOrders_10, dX3_lossOverOrders_11, dX3_lossOverOrders_13, dX3_lossOverOrders_15, dX3_lossOverOrders_16, dX3_lossOverOrders_17, dX3_lossOverOrders_18, dX3_lossOverOrders_21, dX3_lossOverOrders_23, dX3_lossOverOrders_24, dX3_lossOverOrders_25, dX3_lossOverOrders_26, dX3_lossOverOrders_27, dX3_lossOverOrders_30, dX3_lossOverOrders_32, dX3_lossOverOrders_35, dX3_lossOverOrders_37, dX3_lossOverOrders_39, dX3_lossOverOrders_42, dX3_lossOverOrders_43, dX3_lossOverOrders_44, dX3_lossOverOrders_45, dX3_lossOverOrders_47, dX3_lossOverOrders_48, dX3_lossOverOrders_51, dX3_lossOverOrders_52, dX3_lossOverOrders_54, dX3_lossOverOrders_55, dX3_lossOverOrders_57, dX3_lossOverOrders_58, dX3_lossOverOrders_60, dX3_lossOverOrders_63, dX3_lossOverOrders_64, dX3_lossOverOrders_66, dX3_lossOverOrders_67, dX3_lossOverOrders_68, dX3_lossOverOrders_69, dX3_lossOverOrders_70, dX3_lossOverOrders_73, dX3_lossOverOrders_74, dX3_lossOverOrders_75, dX3_lossOverOrders_76, dX3_lossOverOrders_77, dX3_lossOverOrders_80, dX3_lossOverOrders_83, dX3_lossOverOrders_84, ca_X3_lossOverOrders_106, ca_X3_lossOverOrders_111, ca_X3_lossOverOrders_114, ca_X3_lossOverOrders_46, e_aload_n0, e_calls, e_callv, e_getfield, e_iadd, e_iand, e_iload4, e_iload5, e_iload6, e_iload_n1, e_iload_n2, e_iload_n3, e_imul, e_ior, e_ireturn, e_ishl, e_ishr, e_istore4i, e_istore4n, e_istore4r, e_istore5i, e_istore5n, e_istore5r, e_istore6i, e_istore6n, e_istore6r, e_istore_n2i, e_istore_n2n, e_istore_n2r, e_istore_n3i, e_istore_n3n, e_istore_n3r, e_isub, gf_X3_15_16, j_goto_80_m67, j_ic_0, j_ic_1, j_icmp_ge_18_65, j_if_ne_27_50, j_ii_4_1, q_J6_bitCount_0f7a4, q_X8_factorial, msq_w18, mws, ab_rn, bi_0, bi_1, ite_not]
    rw [if_pos (n2_lt (by omega)), nI_1]
    split
    · rename_i h2
      rw [if_pos h2] at h
      exact fun s1 s2 => ih (i + 1) _ _ _ _ _ _ _ (by omega) h
    · rename_i h2
      rw [if_neg h2] at h
      exact ih (i + 1) _ _ _ _ _ _ _ (by omega) h
set_option maxRecDepth 20000 in
set_option maxHeartbeats 4000000 in
theorem lp_X3_lossOverOrders {G : ab_K} {Po : ab_P} (hG : ab_Clo cX3_lossOverOrders x_X3_lossOverOrders Po G) {M : ab_M} {m d p x : Int32} {f : Nat → Int32} (h : ∀ s : mr_T, Po (some (.int (lo_l M x (M.1 8 3) (n2_X (M.1 8 3)) 0 0))) (mws M 18 s)) : G 0 [some (.ref 16), some (.int x), none, none, none, none, none] [] (mw M 18 m d p f) := by
  refine ab_go hG [13] 80 _ _ _ _ ?_
  simp (decide := true) only [ew_s, ew_0, Option.toList_some, Option.toList_none, List.cons_append, List.nil_append, true_and, and_true, List.length_cons, List.length_nil, Nat.reduceAdd, Nat.reduceLeDiff, Int32.reduceAdd, Int32.reduceSub, Int32.reduceMul, Int32.reduceLT, Int32.reduceLE, ↓reduceIte, and_self, si_1, si_2, sl_1, sl_2, false_and, and_false, dX3_lossOverOrders_0, dX3_lossOverOrders_1, dX3_lossOverOrders_4, dX3_lossOverOrders_7, dX3_lossOverOrders_8, dX3_lossOverOrders_9, dX3_lossOverOrders_10, dX3_lossOverOrders_11, dX3_lossOverOrders_13, dX3_lossOverOrders_15, dX3_lossOverOrders_16, dX3_lossOverOrders_17, dX3_lossOverOrders_18, dX3_lossOverOrders_21, dX3_lossOverOrders_23, dX3_lossOverOrders_24, dX3_lossOverOrders_25, dX3_lossOverOrders_26, dX3_lossOverOrders_27, dX3_lossOverOrders_30, dX3_lossOverOrders_32, dX3_lossOverOrders_35, dX3_lossOverOrders_37, dX3_lossOverOrders_39, dX3_lossOverOrders_42, dX3_lossOverOrders_43, dX3_lossOverOrders_44, dX3_lossOverOrders_45, dX3_lossOverOrders_47, dX3_lossOverOrders_48, dX3_lossOverOrders_51, dX3_lossOverOrders_52, dX3_lossOverOrders_54, dX3_lossOverOrders_55, dX3_lossOverOrders_57, dX3_lossOverOrders_58, dX3_lossOverOrders_60, dX3_lossOverOrders_63, dX3_lossOverOrders_64, dX3_lossOverOrders_66, dX3_lossOverOrders_67, dX3_lossOverOrders_68, dX3_lossOverOrders_69, dX3_lossOverOrders_70, dX3_lossOverOrders_73, dX3_lossOverOrders_74, dX3_lossOverOrders_75, dX3_lossOverOrders_76, dX3_lossOverOrders_77, dX3_lossOverOrders_80, dX3_lossOverOrders_83, dX3_lossOverOrders_84, ca_X3_lossOverOrders_106, ca_X3_lossOverOrders_111, ca_X3_lossOverOrders_114, ca_X3_lossOverOrders_46, e_aload_n0, e_calls, e_callv, e_getfield, e_iadd, e_iand, e_iload4, e_iload5, e_iload6, e_iload_n1, e_iload_n2, e_iload_n3, e_imul, e_ior, e_ireturn, e_ishl, e_ishr, e_istore4i, e_istore4n, e_istore4r, e_istore5i, e_istore5n, e_istore5r, e_istore6i, e_istore6n, e_istore6r, e_istore_n2i, e_istore_n2n, e_istore_n2r, e_istore_n3i, e_istore_n3n, e_istore_n3r, e_isub, gf_X3_15_16, j_goto_80_m67, j_ic_0, j_ic_1, j_icmp_ge_18_65, j_if_ne_27_50, j_ii_4_1, q_J6_bitCount_0f7a4, q_X3_mileOfSome, q_X8_factorial, qm_w18, ab_rn, bi_0, bi_1, ite_not]
  exact lq_X3_lossOverOrders hG _ 0 _ _ _ _ _ _ _ (by omega) h
set_option maxRecDepth 20000 in
set_option maxHeartbeats 4000000 in
theorem c_X3_lossOverOrders {l : Launch} : ab_ctr l yX3_lossOverOrders cX3_lossOverOrders 7 (some .int) 5 115 s_X3_lossOverOrders := by
  refine ab_met x_X3_lossOverOrders (by decide) rfl fo_X3 ko_X3 so_X3 rfl (ab_cs_cons (ab_kV c_X2_menCount ml_X3_46 v_X2_menCount ⟨rfl, rfl⟩ r_X2_menCount) (ab_cs_cons (ab_kS c_J6_bitCount_0f7a4 ml_X3_106 v_J6_bitCount_0f7a4 ⟨rfl, rfl⟩) (ab_cs_cons (ab_kN c_X8_factorial ml_X3_111 v_X8_factorial ⟨rfl, rfl⟩) (ab_cs_cons (ab_kV c_X3_mileOfSome ml_X3_114 v_X3_mileOfSome ⟨rfl, rfl⟩ r_X3_mileOfSome) ab_cs_nil)))) ?_ ?_
  · intro as M Po h
    unfold s_X3_lossOverOrders at h
    split at h
    · simp [ab_e0]
    · exact h.elim
  · intro as M Po h G hG
    unfold s_X3_lossOverOrders at h
    split at h
    · simp only [ab_en, ab_e0, List.length_cons, List.length_nil, Nat.reduceAdd, Nat.reduceSub, List.replicate, List.cons_append, List.nil_append]
      have key := lp_X3_lossOverOrders hG (m := M.1 18 3) (d := M.1 18 4) (p := M.1 18 5) (f := M.1 19) h
      rw [show mw M 18 (M.1 18 3) (M.1 18 4) (M.1 18 5) (M.1 19) = M from mw_id] at key
      exact key
    · exact h.elim

