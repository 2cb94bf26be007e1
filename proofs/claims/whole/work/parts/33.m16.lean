/-! METHODS: Chances, pairs weighed; Road, a stretch added -/
def w2 (M : ab_M) (g h : Nat → Int32) : ab_M := wt (wt M 21 g) 22 h
theorem w2_id {M : ab_M} : w2 M (M.1 21) (M.1 22) = M := by
  unfold w2
  rw [wt_id]
  exact wt_id
theorem y_pc {M : ab_M} {g h : Nat → Int32} : pc_X (w2 M g h) = pc_X M := rfl
theorem y_kd {M : ab_M} {g h : Nat → Int32} : kd_X (w2 M g h) = kd_X M := rfl
theorem y_sa {M : ab_M} {g h : Nat → Int32} : sa_X (w2 M g h) = sa_X M := rfl
theorem y_go {M : ab_M} {g h : Nat → Int32} : go_X (w2 M g h) = go_X M := rfl
theorem y_pr {M : ab_M} {g h : Nat → Int32} : pr_X (w2 M g h) = pr_X M := rfl
theorem y_he {M : ab_M} {g h : Nat → Int32} : he_X (w2 M g h) = he_X M := rfl
theorem y_35 {M : ab_M} {g h : Nat → Int32} : (w2 M g h).1 3 5 = M.1 3 5 := rfl
theorem y_3 {M : ab_M} {g h : Nat → Int32} : (w2 M g h).1 12 3 = M.1 12 3 := rfl
theorem y_4 {M : ab_M} {g h : Nat → Int32} : (w2 M g h).1 12 4 = M.1 12 4 := rfl
theorem y_t {M : ab_M} {g h : Nat → Int32} : (w2 M g h).1 13 = M.1 13 := rfl
theorem y_ld {M : ab_M} {g h : Nat → Int32} {p1 : Int32} {f1 : Nat → Int32} : ld_X (w2 M g h) p1 f1 = ld_X M p1 f1 := ld_l_env y_pc y_kd _ _ _ _ _ _
theorem y_dy {M : ab_M} {g h : Nat → Int32} : dy_X (w2 M g h) = dy_X M := by
  funext s
  simp only [dy_X, gone_X, thd_X, by_X, gr_X, y_pc, y_kd, y_sa, y_go, y_pr, y_ld, y_he, y_35]
  rfl
theorem y_its {M : ab_M} {g h : Nat → Int32} : ∀ n s, its_X (w2 M g h) n s = its_X M n s
  | 0, _ => rfl
  | n + 1, s => by simp only [its_X, y_dy, y_its n s]
theorem z_21 {M : ab_M} {g h f : Nat → Int32} {m d p x : Int32} {k : Nat} : ab_si (mw (w2 M g h) 23 m d p f) 21 k x = mw (w2 M (up_f g k x) h) 23 m d p f := by
  refine Prod.ext (funext fun a => funext fun b => ?_) rfl
  simp only [ab_si, mw, w2, wt, up_f]
  by_cases ha : a = 21
  · subst ha
    by_cases hb : b = k <;> simp [hb]
  · simp [ha]
theorem z_22 {M : ab_M} {g h f : Nat → Int32} {m d p x : Int32} {k : Nat} : ab_si (mw (w2 M g h) 23 m d p f) 22 k x = mw (w2 M g (up_f h k x)) 23 m d p f := by
  refine Prod.ext (funext fun a => funext fun b => ?_) rfl
  simp only [ab_si, mw, w2, wt, up_f]
  by_cases ha : a = 22
  · subst ha
    by_cases hb : b = k <;> simp [hb]
  · simp [ha]
def wp_f (M : ab_M) (a b : Int32) (z : Nat → Int32) : Nat → (Nat → Int32)
  | 0 => z
  | 1 => pr_X M z b
  | 2 => pr_X M z a
  | _ => pr_X M (pr_X M z a) b
theorem wp_e5 {M : ab_M} {a b : Int32} {z z' : Nat → Int32} (h : e5 z z') : ∀ k, e5 (wp_f M a b z k) (wp_f M a b z' k)
  | 0 => h
  | 1 => pr_e5 h b
  | 2 => pr_e5 h a
  | _ + 3 => pr_e5 (pr_e5 h a) b
def wp_s (M : ab_M) (a b : Int32) (z : Nat → Int32) (k : Nat) : mr_T := its_X M 3 (M.1 12 3, M.1 12 4, -1, wp_f M a b z k)
theorem wp_m5 {M : ab_M} {a b : Int32} {z z' : Nat → Int32} (h : e5 z z') (k : Nat) : m5 (wp_s M a b z k) (wp_s M a b z' k) := its_m5 (m5_mk (wp_e5 h k)) 3
def kI : Nat → Int32
  | 0 => 0
  | 1 => 1
  | 2 => 2
  | _ => 3
def on_v (M : ab_M) (s : mr_T) (a : Int32) (k : Nat) : Int32 := s.1 - M.1 12 3 + (if ld_X M s.2.2.1 s.2.2.2 = a then 4 else 0) - (kI k >>> ((1 : Int32) &&& 31))
def ot_v (M : ab_M) (s : mr_T) (b : Int32) (k : Nat) : Int32 := s.1 - M.1 12 3 + (if ld_X M s.2.2.1 s.2.2.2 = b then 4 else 0) - (kI k &&& 1)
theorem on_m5 {M : ab_M} {s t : mr_T} {a : Int32} {k : Nat} (h : m5 s t) : on_v M s a k = on_v M t a k := by
  simp only [on_v, h.1, h.2.2.1, ld_e5 h.2.2.2]
theorem ot_m5 {M : ab_M} {s t : mr_T} {a : Int32} {k : Nat} (h : m5 s t) : ot_v M s a k = ot_v M t a k := by
  simp only [ot_v, h.1, h.2.2.1, ld_e5 h.2.2.2]
/-- what each of the two has, by pair -/
def on_X (M : ab_M) (a b : Int32) (k : Nat) : Int32 := on_v M (wp_s M a b (M.1 13) k) a k
def ot_X (M : ab_M) (a b : Int32) (k : Nat) : Int32 := ot_v M (wp_s M a b (M.1 13) k) b k
theorem up_in {g : Nat → Int32} {v : Nat → Int32} {k : Nat} {x : Int32} (hx : x = v k) (hg : ∀ j, j < k → g j = v j) : ∀ j, j < k + 1 → up_f g k x j = v j := by
  intro j hj
  simp only [up_f]
  split
  · rename_i e
    rw [e, hx]
  · exact hg j (by omega)
def s_X1_weighPairs : ab_Sem := fun as M Po => match as with
  | [.ref 20, .int a, .int b] => ∀ (g h : Nat → Int32) (s : mr_T), (∀ j, j < 4 → g j = on_X M a b j) → (∀ j, j < 4 → h j = ot_X M a b j) → Po none (mws (w2 M g h) 23 s)
  | _ => False
theorem q_X1_weighPairs {a b : Int32} {M : ab_M} {Po : ab_P} : s_X1_weighPairs [.ref 20, .int a, .int b] M Po = (∀ (g h : Nat → Int32) (s : mr_T), (∀ j, j < 4 → g j = on_X M a b j) → (∀ j, j < 4 → h j = ot_X M a b j) → Po none (mws (w2 M g h) 23 s)) := rfl
abbrev x_X1_weighPairs : ab_X := (none, fl_X1, [(50, 2, s_X2_follow), (62, 2, s_X2_prick), (70, 2, s_X2_goDays), (76, 1, s_X2_mile), (84, 1, s_X2_leader)], kl_X1, gs_X1, ab_ros)
theorem ca_X1_weighPairs_25 {v0 v1 : Value} {st : List Value} {M : ab_M} {k : List Value → ab_M → Prop} : ab_ca x_X1_weighPairs (2 * 25) (v1 :: v0 :: st) M k = (st.length ≤ 4 ∧ s_X2_follow [v0, v1] M (fun r M' => k (r.toList ++ st) M')) := rfl
theorem ca_X1_weighPairs_31 {v0 v1 : Value} {st : List Value} {M : ab_M} {k : List Value → ab_M → Prop} : ab_ca x_X1_weighPairs (2 * 31) (v1 :: v0 :: st) M k = (st.length ≤ 4 ∧ s_X2_prick [v0, v1] M (fun r M' => k (r.toList ++ st) M')) := rfl
theorem ca_X1_weighPairs_35 {v0 v1 : Value} {st : List Value} {M : ab_M} {k : List Value → ab_M → Prop} : ab_ca x_X1_weighPairs (2 * 35) (v1 :: v0 :: st) M k = (st.length ≤ 4 ∧ s_X2_goDays [v0, v1] M (fun r M' => k (r.toList ++ st) M')) := rfl
theorem ca_X1_weighPairs_38 {v0 : Value} {st : List Value} {M : ab_M} {k : List Value → ab_M → Prop} : ab_ca x_X1_weighPairs (2 * 38) (v0 :: st) M k = (st.length ≤ 4 ∧ s_X2_mile [v0] M (fun r M' => k (r.toList ++ st) M')) := rfl
theorem ca_X1_weighPairs_42 {v0 : Value} {st : List Value} {M : ab_M} {k : List Value → ab_M → Prop} : ab_ca x_X1_weighPairs (2 * 42) (v0 :: st) M k = (st.length ≤ 4 ∧ s_X2_leader [v0] M (fun r M' => k (r.toList ++ st) M')) := rfl
theorem r_X1_weighPairs : ∀ (as : List Value) (M : ab_M) (Po : ab_P), s_X1_weighPairs as M Po → ∃ (q : Nat) (as' : List Value) (ci : Nat) (T : u_T) (N : Nat) (fs : List ab_F), as = .ref q :: as' ∧ ab_sh[q]? = some (.inl (ci, fs)) ∧ vwCl[ci]? = some (yX1_weighPairs.cls, T, N) := by
  intro as M Po h
  unfold s_X1_weighPairs at h
  split at h
  · first | exact ⟨_, _, 1, _, _, _, rfl, rfl, rfl⟩ | (rcases h.1 with rfl | rfl | rfl <;> exact ⟨_, _, 1, _, _, _, rfl, rfl, rfl⟩)
  · exact h.elim
set_option maxRecDepth 20000 in
set_option maxHeartbeats 4000000 in
theorem ls0_X1_weighPairs {G : ab_K} {Po : ab_P} (hG : ab_Clo cX1_weighPairs x_X1_weighPairs Po G) {M : ab_M} {a b m d p : Int32} {g h f : Nat → Int32} {c4 c5 c6 c7 : Option Value} (hg : ∀ j, j < 0 → g j = on_X M a b j) (hh : ∀ j, j < 0 → h j = ot_X M a b j) (hn : ∀ (g h : Nat → Int32) (m d p : Int32) (f : Nat → Int32) (c4 c5 c6 c7 : Option Value), (∀ j, j < 1 → g j = on_X M a b j) → (∀ j, j < 1 → h j = ot_X M a b j) → G 2 [some (.ref 20), some (.int a), some (.int b), some (.int 1), c4, c5, c6, c7] [] (mw (w2 M g h) 23 m d p f)) : G 2 [some (.ref 20), some (.int a), some (.int b), some (.int 0), c4, c5, c6, c7] [] (mw (w2 M g h) 23 m d p f) := by
  refine ab_go1 hG [2] 100 _ _ _ _ ?_
  simp (decide := true) only [ew_s, ew_0, Option.toList_some, Option.toList_none, List.cons_append, List.nil_append, true_and, and_true, List.length_cons, List.length_nil, Nat.reduceAdd, Nat.reduceLeDiff, Int32.reduceAdd, Int32.reduceSub, Int32.reduceMul, Int32.reduceLT, Int32.reduceLE, ↓reduceIte, and_self, si_1, si_2, sl_1, sl_2, false_and, and_false, dX1_weighPairs_0, dX1_weighPairs_1, dX1_weighPairs_2, dX1_weighPairs_3, dX1_weighPairs_4, dX1_weighPairs_7, dX1_weighPairs_8, dX1_weighPairs_11, dX1_weighPairs_12, dX1_weighPairs_13, dX1_weighPairs_16, dX1_weighPairs_17, dX1_weighPairs_20, dX1_weighPairs_21, dX1_weighPairs_22, dX1_weighPairs_23, dX1_weighPairs_25, dX1_weighPairs_26, dX1_weighPairs_27, dX1_weighPairs_28, dX1_weighPairs_30, dX1_weighPairs_31, dX1_weighPairs_34, dX1_weighPairs_35, dX1_weighPairs_38, dX1_weighPairs_41, dX1_weighPairs_43, dX1_weighPairs_44, dX1_weighPairs_47, dX1_weighPairs_48, dX1_weighPairs_51, dX1_weighPairs_52, dX1_weighPairs_55, dX1_weighPairs_57, dX1_weighPairs_58, dX1_weighPairs_61, dX1_weighPairs_62, dX1_weighPairs_65, dX1_weighPairs_66, dX1_weighPairs_69, dX1_weighPairs_70, dX1_weighPairs_73, dX1_weighPairs_74, dX1_weighPairs_77, dX1_weighPairs_78, dX1_weighPairs_81, dX1_weighPairs_84, dX1_weighPairs_85, dX1_weighPairs_88, dX1_weighPairs_91, dX1_weighPairs_92, dX1_weighPairs_94, dX1_weighPairs_95, dX1_weighPairs_98, dX1_weighPairs_101, dX1_weighPairs_103, dX1_weighPairs_104, dX1_weighPairs_107, dX1_weighPairs_108, dX1_weighPairs_110, dX1_weighPairs_112, dX1_weighPairs_113, dX1_weighPairs_116, dX1_weighPairs_117, dX1_weighPairs_120, dX1_weighPairs_121, dX1_weighPairs_122, dX1_weighPairs_124, dX1_weighPairs_125, dX1_weighPairs_126, dX1_weighPairs_127, dX1_weighPairs_130, dX1_weighPairs_131, dX1_weighPairs_133, dX1_weighPairs_135, dX1_weighPairs_136, dX1_weighPairs_139, dX1_weighPairs_140, dX1_weighPairs_143, dX1_weighPairs_144, dX1_weighPairs_145, dX1_weighPairs_147, dX1_weighPairs_148, dX1_weighPairs_149, dX1_weighPairs_152, dX1_weighPairs_155, ca_X1_weighPairs_25, ca_X1_weighPairs_31, ca_X1_weighPairs_35, ca_X1_weighPairs_38, ca_X1_weighPairs_42, e_alen, e_aload_n0, e_callv, e_getfield, e_iadd, e_iand, e_iastore, e_iload4, e_iload5, e_iload6, e_iload7, e_iload_n1, e_iload_n2, e_iload_n3, e_ishr, e_istore4i, e_istore4n, e_istore4r, e_istore5i, e_istore5n, e_istore5r, e_istore6i, e_istore6n, e_istore6r, e_istore7i, e_istore7n, e_istore7r, e_istore_n3i, e_istore_n3n, e_istore_n3r, e_isub, e_return, el_21, el_22, es_21, es_22, gf_X1_15_20, gf_X1_18_20, gf_X1_22_20, gf_X1_9_20, j_goto_117_4, j_goto_140_4, j_goto_152_m150, j_ic_0, j_ic_1, j_ic_3, j_ic_4, j_icmp_ge_17_138, j_icmp_ge_8_147, j_icmp_ne_113_7, j_icmp_ne_136_7, j_icmp_ne_44_11, j_icmp_ne_58_11, j_ii_3_1, fq_w23, pq_w23, dq_w23, mq_w23, qn_w23, lq_w23, mws, t3, y_3, y_4, y_t, y_pr, y_its, y_ld, z_21, z_22, show (0 : Int32).toNatClampNeg = 0 from by decide, ab_rn, bi_0, bi_1, ite_not]
  have e := wp_m5 (M := M) (a := a) (b := b) (fi_e5 (M.1 13) f) 0
  have e1 : on_v M (wp_s M a b (fi_5 (M.1 13) f) 0) a 0 = on_X M a b 0 := on_m5 e
  have e2 : ot_v M (wp_s M a b (fi_5 (M.1 13) f) 0) b 0 = ot_X M a b 0 := ot_m5 e
  simp only [on_v, wp_s, wp_f, kI] at e1
  simp only [ot_v, wp_s, wp_f, kI] at e2
  split
  · rename_i h1
    rw [if_pos h1] at e1
    split
    · rename_i h2
      rw [if_pos h2] at e2
      exact hn _ _ _ _ _ _ _ _ _ _ (up_in e1 hg) (up_in e2 hh)
    · rename_i h2
      rw [if_neg h2] at e2
      exact hn _ _ _ _ _ _ _ _ _ _ (up_in e1 hg) (up_in e2 hh)
  · rename_i h1
    rw [if_neg h1] at e1
    split
    · rename_i h2
      rw [if_pos h2] at e2
      exact hn _ _ _ _ _ _ _ _ _ _ (up_in e1 hg) (up_in e2 hh)
    · rename_i h2
      rw [if_neg h2] at e2
      exact hn _ _ _ _ _ _ _ _ _ _ (up_in e1 hg) (up_in e2 hh)
set_option maxRecDepth 20000 in
set_option maxHeartbeats 4000000 in
theorem ls1_X1_weighPairs {G : ab_K} {Po : ab_P} (hG : ab_Clo cX1_weighPairs x_X1_weighPairs Po G) {M : ab_M} {a b m d p : Int32} {g h f : Nat → Int32} {c4 c5 c6 c7 : Option Value} (hg : ∀ j, j < 1 → g j = on_X M a b j) (hh : ∀ j, j < 1 → h j = ot_X M a b j) (hn : ∀ (g h : Nat → Int32) (m d p : Int32) (f : Nat → Int32) (c4 c5 c6 c7 : Option Value), (∀ j, j < 2 → g j = on_X M a b j) → (∀ j, j < 2 → h j = ot_X M a b j) → G 2 [some (.ref 20), some (.int a), some (.int b), some (.int 2), c4, c5, c6, c7] [] (mw (w2 M g h) 23 m d p f)) : G 2 [some (.ref 20), some (.int a), some (.int b), some (.int 1), c4, c5, c6, c7] [] (mw (w2 M g h) 23 m d p f) := by
  refine ab_go1 hG [2] 100 _ _ _ _ ?_
  simp (decide := true) only [ew_s, ew_0, Option.toList_some, Option.toList_none, List.cons_append, List.nil_append, true_and, and_true, List.length_cons, List.length_nil, Nat.reduceAdd, Nat.reduceLeDiff, Int32.reduceAdd, Int32.reduceSub, Int32.reduceMul, Int32.reduceLT, Int32.reduceLE, ↓reduceIte, and_self, si_1, si_2, sl_1, sl_2, false_and, and_false, dX1_weighPairs_0, dX1_weighPairs_1, dX1_weighPairs_2, dX1_weighPairs_3, dX1_weighPairs_4, dX1_weighPairs_7, dX1_weighPairs_8, dX1_weighPairs_11, dX1_weighPairs_12, dX1_weighPairs_13, dX1_weighPairs_16, dX1_weighPairs_17, dX1_weighPairs_20, dX1_weighPairs_21, dX1_weighPairs_22, dX1_weighPairs_23, dX1_weighPairs_25, dX1_weighPairs_26, dX1_weighPairs_27, dX1_weighPairs_28, dX1_weighPairs_30, dX1_weighPairs_31, dX1_weighPairs_34, dX1_weighPairs_35, dX1_weighPairs_38, dX1_weighPairs_41, dX1_weighPairs_43, dX1_weighPairs_44, dX1_weighPairs_47, dX1_weighPairs_48, dX1_weighPairs_51, dX1_weighPairs_52, dX1_weighPairs_55, dX1_weighPairs_57, dX1_weighPairs_58, dX1_weighPairs_61, dX1_weighPairs_62, dX1_weighPairs_65, dX1_weighPairs_66, dX1_weighPairs_69, dX1_weighPairs_70, dX1_weighPairs_73, dX1_weighPairs_74, dX1_weighPairs_77, dX1_weighPairs_78, dX1_weighPairs_81, dX1_weighPairs_84, dX1_weighPairs_85, dX1_weighPairs_88, dX1_weighPairs_91, dX1_weighPairs_92, dX1_weighPairs_94, dX1_weighPairs_95, dX1_weighPairs_98, dX1_weighPairs_101, dX1_weighPairs_103, dX1_weighPairs_104, dX1_weighPairs_107, dX1_weighPairs_108, dX1_weighPairs_110, dX1_weighPairs_112, dX1_weighPairs_113, dX1_weighPairs_116, dX1_weighPairs_117, dX1_weighPairs_120, dX1_weighPairs_121, dX1_weighPairs_122, dX1_weighPairs_124, dX1_weighPairs_125, dX1_weighPairs_126, dX1_weighPairs_127, dX1_weighPairs_130, dX1_weighPairs_131, dX1_weighPairs_133, dX1_weighPairs_135, dX1_weighPairs_136, dX1_weighPairs_139, dX1_weighPairs_140, dX1_weighPairs_143, dX1_weighPairs_144, dX1_weighPairs_145, dX1_weighPairs_147, dX1_weighPairs_148, dX1_weighPairs_149, dX1_weighPairs_152, dX1_weighPairs_155, ca_X1_weighPairs_25, ca_X1_weighPairs_31, ca_X1_weighPairs_35, ca_X1_weighPairs_38, ca_X1_weighPairs_42, e_alen, e_aload_n0, e_callv, e_getfield, e_iadd, e_iand, e_iastore, e_iload4, e_iload5, e_iload6, e_iload7, e_iload_n1, e_iload_n2, e_iload_n3, e_ishr, e_istore4i, e_istore4n, e_istore4r, e_istore5i, e_istore5n, e_istore5r, e_istore6i, e_istore6n, e_istore6r, e_istore7i, e_istore7n, e_istore7r, e_istore_n3i, e_istore_n3n, e_istore_n3r, e_isub, e_return, el_21, el_22, es_21, es_22, gf_X1_15_20, gf_X1_18_20, gf_X1_22_20, gf_X1_9_20, j_goto_117_4, j_goto_140_4, j_goto_152_m150, j_ic_0, j_ic_1, j_ic_3, j_ic_4, j_icmp_ge_17_138, j_icmp_ge_8_147, j_icmp_ne_113_7, j_icmp_ne_136_7, j_icmp_ne_44_11, j_icmp_ne_58_11, j_ii_3_1, fq_w23, pq_w23, dq_w23, mq_w23, qn_w23, lq_w23, mws, t3, y_3, y_4, y_t, y_pr, y_its, y_ld, z_21, z_22, show (1 : Int32).toNatClampNeg = 1 from by decide, ab_rn, bi_0, bi_1, ite_not]
  have e := wp_m5 (M := M) (a := a) (b := b) (fi_e5 (M.1 13) f) 1
  have e1 : on_v M (wp_s M a b (fi_5 (M.1 13) f) 1) a 1 = on_X M a b 1 := on_m5 e
  have e2 : ot_v M (wp_s M a b (fi_5 (M.1 13) f) 1) b 1 = ot_X M a b 1 := ot_m5 e
  simp only [on_v, wp_s, wp_f, kI] at e1
  simp only [ot_v, wp_s, wp_f, kI] at e2
  split
  · rename_i h1
    rw [if_pos h1] at e1
    split
    · rename_i h2
      rw [if_pos h2] at e2
      exact hn _ _ _ _ _ _ _ _ _ _ (up_in e1 hg) (up_in e2 hh)
    · rename_i h2
      rw [if_neg h2] at e2
      exact hn _ _ _ _ _ _ _ _ _ _ (up_in e1 hg) (up_in e2 hh)
  · rename_i h1
    rw [if_neg h1] at e1
    split
    · rename_i h2
      rw [if_pos h2] at e2
      exact hn _ _ _ _ _ _ _ _ _ _ (up_in e1 hg) (up_in e2 hh)
    · rename_i h2
      rw [if_neg h2] at e2
      exact hn _ _ _ _ _ _ _ _ _ _ (up_in e1 hg) (up_in e2 hh)
set_option maxRecDepth 20000 in
set_option maxHeartbeats 4000000 in
theorem ls2_X1_weighPairs {G : ab_K} {Po : ab_P} (hG : ab_Clo cX1_weighPairs x_X1_weighPairs Po G) {M : ab_M} {a b m d p : Int32} {g h f : Nat → Int32} {c4 c5 c6 c7 : Option Value} (hg : ∀ j, j < 2 → g j = on_X M a b j) (hh : ∀ j, j < 2 → h j = ot_X M a b j) (hn : ∀ (g h : Nat → Int32) (m d p : Int32) (f : Nat → Int32) (c4 c5 c6 c7 : Option Value), (∀ j, j < 3 → g j = on_X M a b j) → (∀ j, j < 3 → h j = ot_X M a b j) → G 2 [some (.ref 20), some (.int a), some (.int b), some (.int 3), c4, c5, c6, c7] [] (mw (w2 M g h) 23 m d p f)) : G 2 [some (.ref 20), some (.int a), some (.int b), some (.int 2), c4, c5, c6, c7] [] (mw (w2 M g h) 23 m d p f) := by
  refine ab_go1 hG [2] 100 _ _ _ _ ?_
  simp (decide := true) only [ew_s, ew_0, Option.toList_some, Option.toList_none, List.cons_append, List.nil_append, true_and, and_true, List.length_cons, List.length_nil, Nat.reduceAdd, Nat.reduceLeDiff, Int32.reduceAdd, Int32.reduceSub, Int32.reduceMul, Int32.reduceLT, Int32.reduceLE, ↓reduceIte, and_self, si_1, si_2, sl_1, sl_2, false_and, and_false, dX1_weighPairs_0, dX1_weighPairs_1, dX1_weighPairs_2, dX1_weighPairs_3, dX1_weighPairs_4, dX1_weighPairs_7, dX1_weighPairs_8, dX1_weighPairs_11, dX1_weighPairs_12, dX1_weighPairs_13, dX1_weighPairs_16, dX1_weighPairs_17, dX1_weighPairs_20, dX1_weighPairs_21, dX1_weighPairs_22, dX1_weighPairs_23, dX1_weighPairs_25, dX1_weighPairs_26, dX1_weighPairs_27, dX1_weighPairs_28, dX1_weighPairs_30, dX1_weighPairs_31, dX1_weighPairs_34, dX1_weighPairs_35, dX1_weighPairs_38, dX1_weighPairs_41, dX1_weighPairs_43, dX1_weighPairs_44, dX1_weighPairs_47, dX1_weighPairs_48, dX1_weighPairs_51, dX1_weighPairs_52, dX1_weighPairs_55, dX1_weighPairs_57, dX1_weighPairs_58, dX1_weighPairs_61, dX1_weighPairs_62, dX1_weighPairs_65, dX1_weighPairs_66, dX1_weighPairs_69, dX1_weighPairs_70, dX1_weighPairs_73, dX1_weighPairs_74, dX1_weighPairs_77, dX1_weighPairs_78, dX1_weighPairs_81, dX1_weighPairs_84, dX1_weighPairs_85, dX1_weighPairs_88, dX1_weighPairs_91, dX1_weighPairs_92, dX1_weighPairs_94, dX1_weighPairs_95, dX1_weighPairs_98, dX1_weighPairs_101, dX1_weighPairs_103, dX1_weighPairs_104, dX1_weighPairs_107, dX1_weighPairs_108, dX1_weighPairs_110, dX1_weighPairs_112, dX1_weighPairs_113, dX1_weighPairs_116, dX1_weighPairs_117, dX1_weighPairs_120, dX1_weighPairs_121, dX1_weighPairs_122, dX1_weighPairs_124, dX1_weighPairs_125, dX1_weighPairs_126, dX1_weighPairs_127, dX1_weighPairs_130, dX1_weighPairs_131, dX1_weighPairs_133, dX1_weighPairs_135, dX1_weighPairs_136, dX1_weighPairs_139, dX1_weighPairs_140, dX1_weighPairs_143, dX1_weighPairs_144, dX1_weighPairs_145, dX1_weighPairs_147, dX1_weighPairs_148, dX1_weighPairs_149, dX1_weighPairs_152, dX1_weighPairs_155, ca_X1_weighPairs_25, ca_X1_weighPairs_31, ca_X1_weighPairs_35, ca_X1_weighPairs_38, ca_X1_weighPairs_42, e_alen, e_aload_n0, e_callv, e_getfield, e_iadd, e_iand, e_iastore, e_iload4, e_iload5, e_iload6, e_iload7, e_iload_n1, e_iload_n2, e_iload_n3, e_ishr, e_istore4i, e_istore4n, e_istore4r, e_istore5i, e_istore5n, e_istore5r, e_istore6i, e_istore6n, e_istore6r, e_istore7i, e_istore7n, e_istore7r, e_istore_n3i, e_istore_n3n, e_istore_n3r, e_isub, e_return, el_21, el_22, es_21, es_22, gf_X1_15_20, gf_X1_18_20, gf_X1_22_20, gf_X1_9_20, j_goto_117_4, j_goto_140_4, j_goto_152_m150, j_ic_0, j_ic_1, j_ic_3, j_ic_4, j_icmp_ge_17_138, j_icmp_ge_8_147, j_icmp_ne_113_7, j_icmp_ne_136_7, j_icmp_ne_44_11, j_icmp_ne_58_11, j_ii_3_1, fq_w23, pq_w23, dq_w23, mq_w23, qn_w23, lq_w23, mws, t3, y_3, y_4, y_t, y_pr, y_its, y_ld, z_21, z_22, show (2 : Int32).toNatClampNeg = 2 from by decide, ab_rn, bi_0, bi_1, ite_not]
  have e := wp_m5 (M := M) (a := a) (b := b) (fi_e5 (M.1 13) f) 2
  have e1 : on_v M (wp_s M a b (fi_5 (M.1 13) f) 2) a 2 = on_X M a b 2 := on_m5 e
  have e2 : ot_v M (wp_s M a b (fi_5 (M.1 13) f) 2) b 2 = ot_X M a b 2 := ot_m5 e
  simp only [on_v, wp_s, wp_f, kI] at e1
  simp only [ot_v, wp_s, wp_f, kI] at e2
  split
  · rename_i h1
    rw [if_pos h1] at e1
    split
    · rename_i h2
      rw [if_pos h2] at e2
      exact hn _ _ _ _ _ _ _ _ _ _ (up_in e1 hg) (up_in e2 hh)
    · rename_i h2
      rw [if_neg h2] at e2
      exact hn _ _ _ _ _ _ _ _ _ _ (up_in e1 hg) (up_in e2 hh)
  · rename_i h1
    rw [if_neg h1] at e1
    split
    · rename_i h2
      rw [if_pos h2] at e2
      exact hn _ _ _ _ _ _ _ _ _ _ (up_in e1 hg) (up_in e2 hh)
    · rename_i h2
      rw [if_neg h2] at e2
      exact hn _ _ _ _ _ _ _ _ _ _ (up_in e1 hg) (up_in e2 hh)
set_option maxRecDepth 20000 in
set_option maxHeartbeats 4000000 in
theorem ls3_X1_weighPairs {G : ab_K} {Po : ab_P} (hG : ab_Clo cX1_weighPairs x_X1_weighPairs Po G) {M : ab_M} {a b m d p : Int32} {g h f : Nat → Int32} {c4 c5 c6 c7 : Option Value} (hg : ∀ j, j < 3 → g j = on_X M a b j) (hh : ∀ j, j < 3 → h j = ot_X M a b j) (hn : ∀ (g h : Nat → Int32) (m d p : Int32) (f : Nat → Int32) (c4 c5 c6 c7 : Option Value), (∀ j, j < 4 → g j = on_X M a b j) → (∀ j, j < 4 → h j = ot_X M a b j) → G 2 [some (.ref 20), some (.int a), some (.int b), some (.int 4), c4, c5, c6, c7] [] (mw (w2 M g h) 23 m d p f)) : G 2 [some (.ref 20), some (.int a), some (.int b), some (.int 3), c4, c5, c6, c7] [] (mw (w2 M g h) 23 m d p f) := by
  refine ab_go1 hG [2] 100 _ _ _ _ ?_
  simp (decide := true) only [ew_s, ew_0, Option.toList_some, Option.toList_none, List.cons_append, List.nil_append, true_and, and_true, List.length_cons, List.length_nil, Nat.reduceAdd, Nat.reduceLeDiff, Int32.reduceAdd, Int32.reduceSub, Int32.reduceMul, Int32.reduceLT, Int32.reduceLE, ↓reduceIte, and_self, si_1, si_2, sl_1, sl_2, false_and, and_false, dX1_weighPairs_0, dX1_weighPairs_1, dX1_weighPairs_2, dX1_weighPairs_3, dX1_weighPairs_4, dX1_weighPairs_7, dX1_weighPairs_8, dX1_weighPairs_11, dX1_weighPairs_12, dX1_weighPairs_13, dX1_weighPairs_16, dX1_weighPairs_17, dX1_weighPairs_20, dX1_weighPairs_21, dX1_weighPairs_22, dX1_weighPairs_23, dX1_weighPairs_25, dX1_weighPairs_26, dX1_weighPairs_27, dX1_weighPairs_28, dX1_weighPairs_30, dX1_weighPairs_31, dX1_weighPairs_34, dX1_weighPairs_35, dX1_weighPairs_38, dX1_weighPairs_41, dX1_weighPairs_43, dX1_weighPairs_44, dX1_weighPairs_47, dX1_weighPairs_48, dX1_weighPairs_51, dX1_weighPairs_52, dX1_weighPairs_55, dX1_weighPairs_57, dX1_weighPairs_58, dX1_weighPairs_61, dX1_weighPairs_62, dX1_weighPairs_65, dX1_weighPairs_66, dX1_weighPairs_69, dX1_weighPairs_70, dX1_weighPairs_73, dX1_weighPairs_74, dX1_weighPairs_77, dX1_weighPairs_78, dX1_weighPairs_81, dX1_weighPairs_84, dX1_weighPairs_85, dX1_weighPairs_88, dX1_weighPairs_91, dX1_weighPairs_92, dX1_weighPairs_94, dX1_weighPairs_95, dX1_weighPairs_98, dX1_weighPairs_101, dX1_weighPairs_103, dX1_weighPairs_104, dX1_weighPairs_107, dX1_weighPairs_108, dX1_weighPairs_110, dX1_weighPairs_112, dX1_weighPairs_113, dX1_weighPairs_116, dX1_weighPairs_117, dX1_weighPairs_120, dX1_weighPairs_121, dX1_weighPairs_122, dX1_weighPairs_124, dX1_weighPairs_125, dX1_weighPairs_126, dX1_weighPairs_127, dX1_weighPairs_130, dX1_weighPairs_131, dX1_weighPairs_133, dX1_weighPairs_135, dX1_weighPairs_136, dX1_weighPairs_139, dX1_weighPairs_140, dX1_weighPairs_143, dX1_weighPairs_144, dX1_weighPairs_145, dX1_weighPairs_147, dX1_weighPairs_148, dX1_weighPairs_149, dX1_weighPairs_152, dX1_weighPairs_155, ca_X1_weighPairs_25, ca_X1_weighPairs_31, ca_X1_weighPairs_35, ca_X1_weighPairs_38, ca_X1_weighPairs_42, e_alen, e_aload_n0, e_callv, e_getfield, e_iadd, e_iand, e_iastore, e_iload4, e_iload5, e_iload6, e_iload7, e_iload_n1, e_iload_n2, e_iload_n3, e_ishr, e_istore4i, e_istore4n, e_istore4r, e_istore5i, e_istore5n, e_istore5r, e_istore6i, e_istore6n, e_istore6r, e_istore7i, e_istore7n, e_istore7r, e_istore_n3i, e_istore_n3n, e_istore_n3r, e_isub, e_return, el_21, el_22, es_21, es_22, gf_X1_15_20, gf_X1_18_20, gf_X1_22_20, gf_X1_9_20, j_goto_117_4, j_goto_140_4, j_goto_152_m150, j_ic_0, j_ic_1, j_ic_3, j_ic_4, j_icmp_ge_17_138, j_icmp_ge_8_147, j_icmp_ne_113_7, j_icmp_ne_136_7, j_icmp_ne_44_11, j_icmp_ne_58_11, j_ii_3_1, fq_w23, pq_w23, dq_w23, mq_w23, qn_w23, lq_w23, mws, t3, y_3, y_4, y_t, y_pr, y_its, y_ld, z_21, z_22, show (3 : Int32).toNatClampNeg = 3 from by decide, ab_rn, bi_0, bi_1, ite_not]
  have e := wp_m5 (M := M) (a := a) (b := b) (fi_e5 (M.1 13) f) 3
  have e1 : on_v M (wp_s M a b (fi_5 (M.1 13) f) 3) a 3 = on_X M a b 3 := on_m5 e
  have e2 : ot_v M (wp_s M a b (fi_5 (M.1 13) f) 3) b 3 = ot_X M a b 3 := ot_m5 e
  simp only [on_v, wp_s, wp_f, kI] at e1
  simp only [ot_v, wp_s, wp_f, kI] at e2
  split
  · rename_i h1
    rw [if_pos h1] at e1
    split
    · rename_i h2
      rw [if_pos h2] at e2
      exact hn _ _ _ _ _ _ _ _ _ _ (up_in e1 hg) (up_in e2 hh)
    · rename_i h2
      rw [if_neg h2] at e2
      exact hn _ _ _ _ _ _ _ _ _ _ (up_in e1 hg) (up_in e2 hh)
  · rename_i h1
    rw [if_neg h1] at e1
    split
    · rename_i h2
      rw [if_pos h2] at e2
      exact hn _ _ _ _ _ _ _ _ _ _ (up_in e1 hg) (up_in e2 hh)
    · rename_i h2
      rw [if_neg h2] at e2
      exact hn _ _ _ _ _ _ _ _ _ _ (up_in e1 hg) (up_in e2 hh)
set_option maxRecDepth 20000 in
set_option maxHeartbeats 4000000 in
theorem ls4_X1_weighPairs {G : ab_K} {Po : ab_P} (hG : ab_Clo cX1_weighPairs x_X1_weighPairs Po G) {M : ab_M} {a b : Int32} {c4 c5 c6 c7 : Option Value} (h : Po none M) : G 2 [some (.ref 20), some (.int a), some (.int b), some (.int 4), c4, c5, c6, c7] [] M := by
  refine ab_go1 hG [2] 80 _ _ _ _ ?_
  simp (decide := true) only [ew_s, ew_0, Option.toList_some, Option.toList_none, List.cons_append, List.nil_append, true_and, and_true, List.length_cons, List.length_nil, Nat.reduceAdd, Nat.reduceLeDiff, Int32.reduceAdd, Int32.reduceSub, Int32.reduceMul, Int32.reduceLT, Int32.reduceLE, ↓reduceIte, and_self, si_1, si_2, sl_1, sl_2, false_and, and_false, dX1_weighPairs_0, dX1_weighPairs_1, dX1_weighPairs_2, dX1_weighPairs_3, dX1_weighPairs_4, dX1_weighPairs_7, dX1_weighPairs_8, dX1_weighPairs_11, dX1_weighPairs_12, dX1_weighPairs_13, dX1_weighPairs_16, dX1_weighPairs_17, dX1_weighPairs_20, dX1_weighPairs_21, dX1_weighPairs_22, dX1_weighPairs_23, dX1_weighPairs_25, dX1_weighPairs_26, dX1_weighPairs_27, dX1_weighPairs_28, dX1_weighPairs_30, dX1_weighPairs_31, dX1_weighPairs_34, dX1_weighPairs_35, dX1_weighPairs_38, dX1_weighPairs_41, dX1_weighPairs_43, dX1_weighPairs_44, dX1_weighPairs_47, dX1_weighPairs_48, dX1_weighPairs_51, dX1_weighPairs_52, dX1_weighPairs_55, dX1_weighPairs_57, dX1_weighPairs_58, dX1_weighPairs_61, dX1_weighPairs_62, dX1_weighPairs_65, dX1_weighPairs_66, dX1_weighPairs_69, dX1_weighPairs_70, dX1_weighPairs_73, dX1_weighPairs_74, dX1_weighPairs_77, dX1_weighPairs_78, dX1_weighPairs_81, dX1_weighPairs_84, dX1_weighPairs_85, dX1_weighPairs_88, dX1_weighPairs_91, dX1_weighPairs_92, dX1_weighPairs_94, dX1_weighPairs_95, dX1_weighPairs_98, dX1_weighPairs_101, dX1_weighPairs_103, dX1_weighPairs_104, dX1_weighPairs_107, dX1_weighPairs_108, dX1_weighPairs_110, dX1_weighPairs_112, dX1_weighPairs_113, dX1_weighPairs_116, dX1_weighPairs_117, dX1_weighPairs_120, dX1_weighPairs_121, dX1_weighPairs_122, dX1_weighPairs_124, dX1_weighPairs_125, dX1_weighPairs_126, dX1_weighPairs_127, dX1_weighPairs_130, dX1_weighPairs_131, dX1_weighPairs_133, dX1_weighPairs_135, dX1_weighPairs_136, dX1_weighPairs_139, dX1_weighPairs_140, dX1_weighPairs_143, dX1_weighPairs_144, dX1_weighPairs_145, dX1_weighPairs_147, dX1_weighPairs_148, dX1_weighPairs_149, dX1_weighPairs_152, dX1_weighPairs_155, ca_X1_weighPairs_25, ca_X1_weighPairs_31, ca_X1_weighPairs_35, ca_X1_weighPairs_38, ca_X1_weighPairs_42, e_alen, e_aload_n0, e_callv, e_getfield, e_iadd, e_iand, e_iastore, e_iload4, e_iload5, e_iload6, e_iload7, e_iload_n1, e_iload_n2, e_iload_n3, e_ishr, e_istore4i, e_istore4n, e_istore4r, e_istore5i, e_istore5n, e_istore5r, e_istore6i, e_istore6n, e_istore6r, e_istore7i, e_istore7n, e_istore7r, e_istore_n3i, e_istore_n3n, e_istore_n3r, e_isub, e_return, el_21, el_22, es_21, es_22, gf_X1_15_20, gf_X1_18_20, gf_X1_22_20, gf_X1_9_20, j_goto_117_4, j_goto_140_4, j_goto_152_m150, j_ic_0, j_ic_1, j_ic_3, j_ic_4, j_icmp_ge_17_138, j_icmp_ge_8_147, j_icmp_ne_113_7, j_icmp_ne_136_7, j_icmp_ne_44_11, j_icmp_ne_58_11, j_ii_3_1, ab_rn, bi_0, bi_1, ite_not]
  exact h
theorem lp_X1_weighPairs {G : ab_K} {Po : ab_P} (hG : ab_Clo cX1_weighPairs x_X1_weighPairs Po G) {M : ab_M} {a b m d p : Int32} {g h f : Nat → Int32} (hp : ∀ (g h : Nat → Int32) (s : mr_T), (∀ j, j < 4 → g j = on_X M a b j) → (∀ j, j < 4 → h j = ot_X M a b j) → Po none (mws (w2 M g h) 23 s)) {c4 c5 c6 c7 : Option Value} : G 2 [some (.ref 20), some (.int a), some (.int b), some (.int 0), c4, c5, c6, c7] [] (mw (w2 M g h) 23 m d p f) := by
  refine ls0_X1_weighPairs hG (fun j hj => absurd hj (Nat.not_lt_zero j)) (fun j hj => absurd hj (Nat.not_lt_zero j)) (fun g h m d p f c4 c5 c6 c7 h1 h2 => ?_)
  refine ls1_X1_weighPairs hG h1 h2 (fun g h m d p f c4 c5 c6 c7 h1 h2 => ?_)
  refine ls2_X1_weighPairs hG h1 h2 (fun g h m d p f c4 c5 c6 c7 h1 h2 => ?_)
  refine ls3_X1_weighPairs hG h1 h2 (fun g h m d p f c4 c5 c6 c7 h1 h2 => ?_)
  exact ls4_X1_weighPairs hG (hp g h (m, d, p, f) h1 h2)
set_option maxRecDepth 20000 in
set_option maxHeartbeats 4000000 in
theorem c_X1_weighPairs {l : Launch} : ab_ctr l yX1_weighPairs cX1_weighPairs 8 none 4 94 s_X1_weighPairs := by
  refine ab_met x_X1_weighPairs (by decide) rfl fo_X1 ko_X1 so_X1 rfl (ab_cs_cons (ab_kV c_X2_follow ml_X1_25 v_X2_follow ⟨rfl, rfl⟩ r_X2_follow) (ab_cs_cons (ab_kV c_X2_prick ml_X1_31 v_X2_prick ⟨rfl, rfl⟩ r_X2_prick) (ab_cs_cons (ab_kV c_X2_goDays ml_X1_35 v_X2_goDays ⟨rfl, rfl⟩ r_X2_goDays) (ab_cs_cons (ab_kV c_X2_mile ml_X1_38 v_X2_mile ⟨rfl, rfl⟩ r_X2_mile) (ab_cs_cons (ab_kV c_X2_leader ml_X1_42 v_X2_leader ⟨rfl, rfl⟩ r_X2_leader) ab_cs_nil))))) ?_ ?_
  · intro as M Po h
    unfold s_X1_weighPairs at h
    split at h
    · simp [ab_e0]
    · exact h.elim
  · intro as M Po h G hG
    unfold s_X1_weighPairs at h
    split at h
    · simp only [ab_en, ab_e0, List.length_cons, List.length_nil, Nat.reduceAdd, Nat.reduceSub, List.replicate, List.cons_append, List.nil_append]
      have key := lp_X1_weighPairs hG (m := M.1 23 3) (d := M.1 23 4) (p := M.1 23 5) (f := M.1 24) (g := M.1 21) (h := M.1 22) h (c4 := none) (c5 := none) (c6 := none) (c7 := none)
      rw [w2_id, show mw M 23 (M.1 23 3) (M.1 23 4) (M.1 23 5) (M.1 24) = M from mw_id] at key
      refine ab_go hG [2] 80 _ _ _ _ ?_
      simp (decide := true) only [ew_s, ew_0, Option.toList_some, Option.toList_none, List.cons_append, List.nil_append, true_and, and_true, List.length_cons, List.length_nil, Nat.reduceAdd, Nat.reduceLeDiff, Int32.reduceAdd, Int32.reduceSub, Int32.reduceMul, Int32.reduceLT, Int32.reduceLE, ↓reduceIte, and_self, si_1, si_2, sl_1, sl_2, false_and, and_false, dX1_weighPairs_0, dX1_weighPairs_1, dX1_weighPairs_2, dX1_weighPairs_3, dX1_weighPairs_4, dX1_weighPairs_7, dX1_weighPairs_8, dX1_weighPairs_11, dX1_weighPairs_12, dX1_weighPairs_13, dX1_weighPairs_16, dX1_weighPairs_17, dX1_weighPairs_20, dX1_weighPairs_21, dX1_weighPairs_22, dX1_weighPairs_23, dX1_weighPairs_25, dX1_weighPairs_26, dX1_weighPairs_27, dX1_weighPairs_28, dX1_weighPairs_30, dX1_weighPairs_31, dX1_weighPairs_34, dX1_weighPairs_35, dX1_weighPairs_38, dX1_weighPairs_41, dX1_weighPairs_43, dX1_weighPairs_44, dX1_weighPairs_47, dX1_weighPairs_48, dX1_weighPairs_51, dX1_weighPairs_52, dX1_weighPairs_55, dX1_weighPairs_57, dX1_weighPairs_58, dX1_weighPairs_61, dX1_weighPairs_62, dX1_weighPairs_65, dX1_weighPairs_66, dX1_weighPairs_69, dX1_weighPairs_70, dX1_weighPairs_73, dX1_weighPairs_74, dX1_weighPairs_77, dX1_weighPairs_78, dX1_weighPairs_81, dX1_weighPairs_84, dX1_weighPairs_85, dX1_weighPairs_88, dX1_weighPairs_91, dX1_weighPairs_92, dX1_weighPairs_94, dX1_weighPairs_95, dX1_weighPairs_98, dX1_weighPairs_101, dX1_weighPairs_103, dX1_weighPairs_104, dX1_weighPairs_107, dX1_weighPairs_108, dX1_weighPairs_110, dX1_weighPairs_112, dX1_weighPairs_113, dX1_weighPairs_116, dX1_weighPairs_117, dX1_weighPairs_120, dX1_weighPairs_121, dX1_weighPairs_122, dX1_weighPairs_124, dX1_weighPairs_125, dX1_weighPairs_126, dX1_weighPairs_127, dX1_weighPairs_130, dX1_weighPairs_131, dX1_weighPairs_133, dX1_weighPairs_135, dX1_weighPairs_136, dX1_weighPairs_139, dX1_weighPairs_140, dX1_weighPairs_143, dX1_weighPairs_144, dX1_weighPairs_145, dX1_weighPairs_147, dX1_weighPairs_148, dX1_weighPairs_149, dX1_weighPairs_152, dX1_weighPairs_155, ca_X1_weighPairs_25, ca_X1_weighPairs_31, ca_X1_weighPairs_35, ca_X1_weighPairs_38, ca_X1_weighPairs_42, e_alen, e_aload_n0, e_callv, e_getfield, e_iadd, e_iand, e_iastore, e_iload4, e_iload5, e_iload6, e_iload7, e_iload_n1, e_iload_n2, e_iload_n3, e_ishr, e_istore4i, e_istore4n, e_istore4r, e_istore5i, e_istore5n, e_istore5r, e_istore6i, e_istore6n, e_istore6r, e_istore7i, e_istore7n, e_istore7r, e_istore_n3i, e_istore_n3n, e_istore_n3r, e_isub, e_return, el_21, el_22, es_21, es_22, gf_X1_15_20, gf_X1_18_20, gf_X1_22_20, gf_X1_9_20, j_goto_117_4, j_goto_140_4, j_goto_152_m150, j_ic_0, j_ic_1, j_ic_3, j_ic_4, j_icmp_ge_17_138, j_icmp_ge_8_147, j_icmp_ne_113_7, j_icmp_ne_136_7, j_icmp_ne_44_11, j_icmp_ne_58_11, j_ii_3_1, ab_rn, bi_0, bi_1, ite_not]
      exact key
    · exact h.elim

/-- the miles e .. e + k - 1 are in stretch c -/
def rs_f (g : Nat → Int32) (e k : Nat) (c : Int32) : Nat → Int32 := fun i => if e ≤ i ∧ i < e + k then c else g i
theorem rs_0 (g : Nat → Int32) (e : Nat) (c : Int32) : rs_f g e 0 c = g := by
  funext i
  have h : ¬ (e ≤ i ∧ i < e + 0) := by omega
  simp only [rs_f, if_neg h]
theorem rs_s (g : Nat → Int32) (e k : Nat) (c : Int32) : up_f (rs_f g e k c) (e + k) c = rs_f g e (k + 1) c := by
  funext i
  simp only [rs_f, up_f]
  by_cases h0 : i = e + k
  · have h2 : e ≤ i ∧ i < e + (k + 1) := by omega
    rw [if_pos h0, if_pos h2]
  · rw [if_neg h0]
    by_cases h1 : e ≤ i ∧ i < e + k
    · have h2 : e ≤ i ∧ i < e + (k + 1) := by omega
      rw [if_pos h1, if_pos h2]
    · have h2 : ¬ (e ≤ i ∧ i < e + (k + 1)) := by omega
      rw [if_neg h1, if_neg h2]
/-- the road with one stretch more, as far as its k-th mile -/
def ra_k (M : ab_M) (c e k : Nat) (x y : Int32) : ab_M := ab_si (wt (wt (wt (wt M 4 (up_f (M.1 4) c x)) 5 (up_f (M.1 5) c y)) 6 (up_f (M.1 6) c (nI e))) 7 (rs_f (M.1 7) e k (nI c))) 3 5 (nI (e + k))
def ra_X (M : ab_M) (c e n : Nat) (x y : Int32) : ab_M := ab_si (ra_k M c e n x y) 3 4 (nI (c + 1))
def s_X4_add : ab_Sem := fun as M Po => match as with
  | [.ref 3, .int x, .int y] => ∃ c e n : Nat, M.1 3 4 = nI c ∧ M.1 3 5 = nI e ∧ x = nI n ∧ c < 8 ∧ e + n ≤ 72 ∧ Po none (ra_X M c e n x y)
  | _ => False
theorem q_X4_add {x y : Int32} {M : ab_M} {Po : ab_P} : s_X4_add [.ref 3, .int x, .int y] M Po = (∃ c e n : Nat, M.1 3 4 = nI c ∧ M.1 3 5 = nI e ∧ x = nI n ∧ c < 8 ∧ e + n ≤ 72 ∧ Po none (ra_X M c e n x y)) := rfl
abbrev x_X4_add : ab_X := (none, fl_X4, [], kl_X4, gs_X4, ab_ros)
theorem r_X4_add : ∀ (as : List Value) (M : ab_M) (Po : ab_P), s_X4_add as M Po → ∃ (q : Nat) (as' : List Value) (ci : Nat) (T : u_T) (N : Nat) (fs : List ab_F), as = .ref q :: as' ∧ ab_sh[q]? = some (.inl (ci, fs)) ∧ vwCl[ci]? = some (yX4_add.cls, T, N) := by
  intro as M Po h
  unfold s_X4_add at h
  split at h
  · first | exact ⟨_, _, 4, _, _, _, rfl, rfl, rfl⟩ | (rcases h.1 with rfl | rfl | rfl <;> exact ⟨_, _, 4, _, _, _, rfl, rfl, rfl⟩)
  · exact h.elim
theorem ra_34 {M : ab_M} {c e k : Nat} {x y : Int32} : (ra_k M c e k x y).1 3 4 = M.1 3 4 := rfl
theorem ra_35 {M : ab_M} {c e k : Nat} {x y : Int32} : (ra_k M c e k x y).1 3 5 = nI (e + k) := rfl
theorem ra_s {M : ab_M} {c e k : Nat} {x y : Int32} : ab_si (ab_si (ra_k M c e k x y) 7 (e + k) (nI c)) 3 5 (nI (e + (k + 1))) = ra_k M c e (k + 1) x y := by
  unfold ra_k
  rw [← rs_s]
  refine Prod.ext (funext fun a => funext fun b => ?_) rfl
  simp only [ab_si, wt, up_f]
  by_cases ha : a = 7
  · subst ha
    by_cases hb : b = e + k <;> simp [hb]
  · by_cases hb : a = 3 ∧ b = 5
    · simp [hb]
    · simp [ha, hb]
theorem ra_0 {M : ab_M} {c e : Nat} {x y : Int32} (he : M.1 3 5 = nI e) : ab_si (ab_si (ab_si M 4 c x) 5 c y) 6 c (nI e) = ra_k M c e 0 x y := by
  unfold ra_k
  rw [rs_0, Nat.add_zero]
  refine Prod.ext (funext fun a => funext fun b => ?_) rfl
  simp only [ab_si, wt, up_f]
  by_cases h3 : a = 3 ∧ b = 5
  · obtain ⟨rfl, rfl⟩ := h3
    simp [he]
  by_cases h4 : a = 4
  · subst h4
    by_cases hb : b = c <;> simp [hb]
  by_cases h5 : a = 5
  · subst h5
    by_cases hb : b = c <;> simp [hb]
  by_cases h6 : a = 6
  · subst h6
    by_cases hb : b = c <;> simp [hb]
  by_cases h7 : a = 7
  · subst h7
    simp
  simp [h3, h4, h5, h6, h7]
set_option maxRecDepth 20000 in
set_option maxHeartbeats 4000000 in
theorem lq_X4_add {G : ab_K} {Po : ab_P} (hG : ab_Clo cX4_add x_X4_add Po G) {M : ab_M} {c e n : Nat} {x y : Int32} (hc : M.1 3 4 = nI c) (hx : x = nI n) (hc8 : c < 8) (hen : e + n ≤ 72) (h : Po none (ra_X M c e n x y)) : ∀ (j i : Nat), i + j = n → G 52 [some (.ref 3), some (.int x), some (.int y), some (.int (nI i))] [] (ra_k M c e i x y) := by
  intro j
  induction j with
  | zero =>
    intro i hi
    have ei : i = n := by omega
    subst ei
    have hf : ¬ nI i < x := by rw [hx]; exact nI_nlt (Nat.le_refl i) (by omega)
    refine ab_go1 hG [52] 80 _ _ _ _ ?_
    simp (decide := true) only [ew_s, ew_0, Option.toList_some, Option.toList_none, List.cons_append, List.nil_append, true_and, and_true, List.length_cons, List.length_nil, Nat.reduceAdd, Nat.reduceLeDiff, Int32.reduceAdd, Int32.reduceSub, Int32.reduceMul, Int32.reduceLT, Int32.reduceLE, Int32.reduceToNatClampNeg, ↓reduceIte, and_self, si_2, sl_1, sl_2, false_and, and_false, dX4_add_0, dX4_add_1, dX4_add_4, dX4_add_7, dX4_add_8, dX4_add_11, dX4_add_13, dX4_add_16, dX4_add_17, dX4_add_18, dX4_add_21, dX4_add_22, dX4_add_25, dX4_add_26, dX4_add_27, dX4_add_28, dX4_add_31, dX4_add_32, dX4_add_35, dX4_add_36, dX4_add_37, dX4_add_38, dX4_add_41, dX4_add_42, dX4_add_45, dX4_add_46, dX4_add_49, dX4_add_50, dX4_add_51, dX4_add_52, dX4_add_53, dX4_add_54, dX4_add_57, dX4_add_58, dX4_add_61, dX4_add_64, dX4_add_65, dX4_add_68, dX4_add_69, dX4_add_72, dX4_add_73, dX4_add_76, dX4_add_77, dX4_add_80, dX4_add_81, dX4_add_84, dX4_add_85, dX4_add_88, dX4_add_89, dX4_add_90, dX4_add_91, dX4_add_94, dX4_add_95, dX4_add_96, dX4_add_99, dX4_add_102, dX4_add_105, dX4_add_106, dX4_add_107, dX4_add_110, dX4_add_111, dX4_add_112, dX4_add_115, e_alen, e_aload_n0, e_dupi, e_dupr, e_getfield, e_iadd, e_iastore, e_iload_n1, e_iload_n2, e_iload_n3, e_istore_n3i, e_istore_n3n, e_istore_n3r, e_putfield, e_return, el_4, el_5, el_6, el_7, es_4, es_5, es_6, es_7, gf_X4_15_3, gf_X4_18_3, gf_X4_21_3, gf_X4_24_3, gf_X4_28_3, gf_X4_9_3, j_bp_8, j_goto_102_m50, j_ic_0, j_ic_1, j_icmp_ge_54_51, j_icmp_ge_73_32, j_icmp_lt_13_4, j_if_lt_4_12, j_if_lt_61_44, j_ii_3_1, pf_X4_24_3, pf_X4_28_3, ra_34, ra_35, ab_rn, bi_0, bi_1, ite_not]
    rw [if_neg hf, hc, nI_1]
    exact h
  | succ j ih =>
    intro i hi
    have hf : nI i < x := by rw [hx]; exact nI_lt (by omega) (by omega)
    have ih1 := ih (i + 1) (by omega)
    have hb : 0 ≤ nI (e + i) ∧ nI (e + i) < 72 := ⟨nI_pos' (by omega), nI_lt (b := 72) (by omega) (by omega)⟩
    have hcl : (nI (e + i)).toNatClampNeg = e + i := nI_clamp (by omega)
    have h35 : ∀ z, (ab_si (ra_k M c e i x y) 7 (e + i) z).1 3 5 = nI (e + i) := fun z => rfl
    refine ab_go1 hG [52] 80 _ _ _ _ ?_
    simp (decide := true) only [ew_s, ew_0, Option.toList_some, Option.toList_none, List.cons_append, List.nil_append, true_and, and_true, List.length_cons, List.length_nil, Nat.reduceAdd, Nat.reduceLeDiff, Int32.reduceAdd, Int32.reduceSub, Int32.reduceMul, Int32.reduceLT, Int32.reduceLE, Int32.reduceToNatClampNeg, ↓reduceIte, and_self, si_2, sl_1, sl_2, false_and, and_false, dX4_add_0, dX4_add_1, dX4_add_4, dX4_add_7, dX4_add_8, dX4_add_11, dX4_add_13, dX4_add_16, dX4_add_17, dX4_add_18, dX4_add_21, dX4_add_22, dX4_add_25, dX4_add_26, dX4_add_27, dX4_add_28, dX4_add_31, dX4_add_32, dX4_add_35, dX4_add_36, dX4_add_37, dX4_add_38, dX4_add_41, dX4_add_42, dX4_add_45, dX4_add_46, dX4_add_49, dX4_add_50, dX4_add_51, dX4_add_52, dX4_add_53, dX4_add_54, dX4_add_57, dX4_add_58, dX4_add_61, dX4_add_64, dX4_add_65, dX4_add_68, dX4_add_69, dX4_add_72, dX4_add_73, dX4_add_76, dX4_add_77, dX4_add_80, dX4_add_81, dX4_add_84, dX4_add_85, dX4_add_88, dX4_add_89, dX4_add_90, dX4_add_91, dX4_add_94, dX4_add_95, dX4_add_96, dX4_add_99, dX4_add_102, dX4_add_105, dX4_add_106, dX4_add_107, dX4_add_110, dX4_add_111, dX4_add_112, dX4_add_115, e_alen, e_aload_n0, e_dupi, e_dupr, e_getfield, e_iadd, e_iastore, e_iload_n1, e_iload_n2, e_iload_n3, e_istore_n3i, e_istore_n3n, e_istore_n3r, e_putfield, e_return, el_4, el_5, el_6, el_7, es_4, es_5, es_6, es_7, gf_X4_15_3, gf_X4_18_3, gf_X4_21_3, gf_X4_24_3, gf_X4_28_3, gf_X4_9_3, j_bp_8, j_goto_102_m50, j_ic_0, j_ic_1, j_icmp_ge_54_51, j_icmp_ge_73_32, j_icmp_lt_13_4, j_if_lt_4_12, j_if_lt_61_44, j_ii_3_1, pf_X4_24_3, pf_X4_28_3, ra_34, ra_35, hcl, h35, ab_rn, bi_0, bi_1, ite_not]
    rw [if_pos hf, if_neg (nI_pos (by omega)), if_pos hb.2, hc, nI_1, nI_1]
    refine ⟨hb, ?_⟩
    rw [show e + i + 1 = e + (i + 1) from rfl, ra_s]
    exact ih1
set_option maxRecDepth 20000 in
set_option maxHeartbeats 4000000 in
theorem c_X4_add {l : Launch} : ab_ctr l yX4_add cX4_add 4 none 0 0 s_X4_add := by
  refine ab_met x_X4_add (by decide) rfl fo_X4 ko_X4 so_X4 rfl ab_cs_nil ?_ ?_
  · intro as M Po h
    unfold s_X4_add at h
    split at h
    · simp [ab_e0]
    · exact h.elim
  · intro as M Po h G hG
    unfold s_X4_add at h
    split at h
    · simp only [ab_en, ab_e0, List.length_cons, List.length_nil, Nat.reduceAdd, Nat.reduceSub, List.replicate, List.cons_append, List.nil_append]
      obtain ⟨c, e, n, hc, he, hx, hc8, hen, h⟩ := h
      have key := lq_X4_add hG hc hx hc8 hen h n 0 (by omega)
      rw [← ra_0 he] at key
      have hb : 0 ≤ nI c ∧ nI c < 8 := ⟨nI_pos' (by omega), nI_lt (b := 8) hc8 (by omega)⟩
      have hcl : (nI c).toNatClampNeg = c := nI_clamp (by omega)
      refine ab_go hG [52] 80 _ _ _ _ ?_
      simp (decide := true) only [ew_s, ew_0, Option.toList_some, Option.toList_none, List.cons_append, List.nil_append, true_and, and_true, List.length_cons, List.length_nil, Nat.reduceAdd, Nat.reduceLeDiff, Int32.reduceAdd, Int32.reduceSub, Int32.reduceMul, Int32.reduceLT, Int32.reduceLE, Int32.reduceToNatClampNeg, ↓reduceIte, and_self, si_1, si_2, sl_1, sl_2, false_and, and_false, dX4_add_0, dX4_add_1, dX4_add_4, dX4_add_7, dX4_add_8, dX4_add_11, dX4_add_13, dX4_add_16, dX4_add_17, dX4_add_18, dX4_add_21, dX4_add_22, dX4_add_25, dX4_add_26, dX4_add_27, dX4_add_28, dX4_add_31, dX4_add_32, dX4_add_35, dX4_add_36, dX4_add_37, dX4_add_38, dX4_add_41, dX4_add_42, dX4_add_45, dX4_add_46, dX4_add_49, dX4_add_50, dX4_add_51, dX4_add_52, dX4_add_53, dX4_add_54, dX4_add_57, dX4_add_58, dX4_add_61, dX4_add_64, dX4_add_65, dX4_add_68, dX4_add_69, dX4_add_72, dX4_add_73, dX4_add_76, dX4_add_77, dX4_add_80, dX4_add_81, dX4_add_84, dX4_add_85, dX4_add_88, dX4_add_89, dX4_add_90, dX4_add_91, dX4_add_94, dX4_add_95, dX4_add_96, dX4_add_99, dX4_add_102, dX4_add_105, dX4_add_106, dX4_add_107, dX4_add_110, dX4_add_111, dX4_add_112, dX4_add_115, e_alen, e_aload_n0, e_dupi, e_dupr, e_getfield, e_iadd, e_iastore, e_iload_n1, e_iload_n2, e_iload_n3, e_istore_n3i, e_istore_n3n, e_istore_n3r, e_putfield, e_return, el_4, el_5, el_6, el_7, es_4, es_5, es_6, es_7, gf_X4_15_3, gf_X4_18_3, gf_X4_21_3, gf_X4_24_3, gf_X4_28_3, gf_X4_9_3, j_bp_8, j_goto_102_m50, j_ic_0, j_ic_1, j_icmp_ge_54_51, j_icmp_ge_73_32, j_icmp_lt_13_4, j_if_lt_4_12, j_if_lt_61_44, j_ii_3_1, pf_X4_24_3, pf_X4_28_3, hc, he, hcl, ab_rn, bi_0, bi_1, ite_not]
      rw [if_neg (nI_pos (by omega)), if_pos hb.2]
      exact ⟨hb, hb, hb, key⟩
    · exact h.elim

