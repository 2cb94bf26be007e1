/-! METHODS: March, a day, days, to the end -/
theorem ld_l_env {M M' : ab_M} (h1 : pc_X M' = pc_X M) (h2 : kd_X M' = kd_X M) (p : Int32) (f : Nat → Int32) : ∀ (n i : Nat) (s l : Int32), ld_l M' p f n i s l = ld_l M p f n i s l
  | 0, _, _, _ => rfl
  | n + 1, i, s, l => by
    simp only [ld_l, h1, h2, ld_l_env h1 h2 p f n]
def tf_X (f : Nat → Int32) (x : Int32) : Int32 := if ¬ x < 0 ∧ x < 5 then f x.toNatClampNeg else 0
def pr_X (M : ab_M) (f : Nat → Int32) (x : Int32) : Nat → Int32 := if (¬ x < 0 ∧ x < M.1 8 3 ∧ x < 5) ∧ f x.toNatClampNeg < 9 then up_f f x.toNatClampNeg (f x.toNatClampNeg + 1) else f
def ea_X (M : ab_M) (f : Nat → Int32) (x : Int32) : Nat → Int32 := if (¬ x < 0 ∧ x < M.1 8 3 ∧ x < 5) ∧ 0 < f x.toNatClampNeg then up_f f x.toNatClampNeg (f x.toNatClampNeg - 1) else f
/-- how far they go on a day, on what ground -/
def gr_X (M : ab_M) (m : Int32) : Int32 := go_X M (sa_X M m)
def by_X (M : ab_M) (m p : Int32) (f : Nat → Int32) : Int32 := if M.1 3 5 - m < mo_X (gr_X M m) (sp_X (pc_X M (ld_X M p f)) (kd_X M (ld_X M p f)) (tf_X f (ld_X M p f))) then M.1 3 5 - m else mo_X (gr_X M m) (sp_X (pc_X M (ld_X M p f)) (kd_X M (ld_X M p f)) (tf_X f (ld_X M p f)))
def gone_X (M : ab_M) (s : mr_T) : Int32 := if s.1 < M.1 3 5 ∧ ¬ ld_X M s.2.2.1 s.2.2.2 = -9 then by_X M s.1 s.2.2.1 s.2.2.2 else 0
def thd_X (M : ab_M) (s : mr_T) : Nat → Int32 := if (s.1 < M.1 3 5 ∧ ¬ ld_X M s.2.2.1 s.2.2.2 = -9) ∧ gr_X M s.1 = 3 then pr_X M s.2.2.2 (ld_X M s.2.2.1 s.2.2.2) else s.2.2.2
def dy_X (M : ab_M) (s : mr_T) : mr_T := (s.1 + gone_X M s, s.2.1 + 1, s.2.2.1, if s.2.1 - s.2.1 / 3 * 3 = 2 then he_X M (thd_X M s) else thd_X M s)
theorem mw_wt {M : ab_M} {q : Nat} {m d p : Int32} {f g : Nat → Int32} : wt (mw M q m d p f) (q + 1) g = mw M q m d p g := by
  refine Prod.ext (funext fun a => funext fun b => ?_) rfl
  simp only [wt, mw]
  by_cases ha : a = q + 1 <;> simp [ha]
theorem w_rt12 {M : ab_M} {m d p : Int32} {f : Nat → Int32} : (mw M 12 m d p f).1 13 = f := mw_rt
theorem w_pc12 {M : ab_M} {m d p : Int32} {f : Nat → Int32} : pc_X (mw M 12 m d p f) = pc_X M := rfl
theorem w_kd12 {M : ab_M} {m d p : Int32} {f : Nat → Int32} : kd_X (mw M 12 m d p f) = kd_X M := rfl
theorem w_nm12 {M : ab_M} {m d p : Int32} {f : Nat → Int32} : nm_X (mw M 12 m d p f) = nm_X M := rfl
theorem w_td12 {M : ab_M} {m d p : Int32} {f : Nat → Int32} : td_X (mw M 12 m d p f) = td_X M := rfl
theorem w_sa12 {M : ab_M} {m d p : Int32} {f : Nat → Int32} : sa_X (mw M 12 m d p f) = sa_X M := rfl
theorem w_go12 {M : ab_M} {m d p : Int32} {f : Nat → Int32} : go_X (mw M 12 m d p f) = go_X M := rfl
theorem w_pr12 {M : ab_M} {m d p : Int32} {f : Nat → Int32} : pr_X (mw M 12 m d p f) = pr_X M := rfl
theorem w_ea12 {M : ab_M} {m d p : Int32} {f : Nat → Int32} : ea_X (mw M 12 m d p f) = ea_X M := rfl
theorem w_ld12 {M : ab_M} {m d p : Int32} {f : Nat → Int32} {p1 : Int32} {f1 : Nat → Int32} : ld_X (mw M 12 m d p f) p1 f1 = ld_X M p1 f1 := ld_l_env w_pc12 w_kd12 _ _ _ _ _ _
theorem w_he12 {M : ab_M} {m d p : Int32} {f : Nat → Int32} : he_X (mw M 12 m d p f) = he_X M := rfl
theorem w_th12 {M : ab_M} {m d p : Int32} {f : Nat → Int32} : th_X (mw M 12 m d p f) 12 = tf_X f := by funext x; simp only [th_X, tf_X, Nat.reduceAdd, w_rt12]
theorem w_si12 {M : ab_M} {m d p : Int32} {f : Nat → Int32} {r : Nat} {x : Int32} : ab_si (mw M 12 m d p f) 13 r x = mw M 12 m d p (up_f f r x) := mw_t
theorem w_wt12 {M : ab_M} {m d p : Int32} {f : Nat → Int32} {g : Nat → Int32} : wt (mw M 12 m d p f) 13 g = mw M 12 m d p g := mw_wt
theorem w_o35_12 {M : ab_M} {m d p : Int32} {f : Nat → Int32} : (mw M 12 m d p f).1 3 5 = M.1 3 5 := rfl
theorem w_o34_12 {M : ab_M} {m d p : Int32} {f : Nat → Int32} : (mw M 12 m d p f).1 3 4 = M.1 3 4 := rfl
theorem w_o83_12 {M : ab_M} {m d p : Int32} {f : Nat → Int32} : (mw M 12 m d p f).1 8 3 = M.1 8 3 := rfl
theorem w_rt18 {M : ab_M} {m d p : Int32} {f : Nat → Int32} : (mw M 18 m d p f).1 19 = f := mw_rt
theorem w_pc18 {M : ab_M} {m d p : Int32} {f : Nat → Int32} : pc_X (mw M 18 m d p f) = pc_X M := rfl
theorem w_kd18 {M : ab_M} {m d p : Int32} {f : Nat → Int32} : kd_X (mw M 18 m d p f) = kd_X M := rfl
theorem w_nm18 {M : ab_M} {m d p : Int32} {f : Nat → Int32} : nm_X (mw M 18 m d p f) = nm_X M := rfl
theorem w_td18 {M : ab_M} {m d p : Int32} {f : Nat → Int32} : td_X (mw M 18 m d p f) = td_X M := rfl
theorem w_sa18 {M : ab_M} {m d p : Int32} {f : Nat → Int32} : sa_X (mw M 18 m d p f) = sa_X M := rfl
theorem w_go18 {M : ab_M} {m d p : Int32} {f : Nat → Int32} : go_X (mw M 18 m d p f) = go_X M := rfl
theorem w_pr18 {M : ab_M} {m d p : Int32} {f : Nat → Int32} : pr_X (mw M 18 m d p f) = pr_X M := rfl
theorem w_ea18 {M : ab_M} {m d p : Int32} {f : Nat → Int32} : ea_X (mw M 18 m d p f) = ea_X M := rfl
theorem w_ld18 {M : ab_M} {m d p : Int32} {f : Nat → Int32} {p1 : Int32} {f1 : Nat → Int32} : ld_X (mw M 18 m d p f) p1 f1 = ld_X M p1 f1 := ld_l_env w_pc18 w_kd18 _ _ _ _ _ _
theorem w_he18 {M : ab_M} {m d p : Int32} {f : Nat → Int32} : he_X (mw M 18 m d p f) = he_X M := rfl
theorem w_th18 {M : ab_M} {m d p : Int32} {f : Nat → Int32} : th_X (mw M 18 m d p f) 18 = tf_X f := by funext x; simp only [th_X, tf_X, Nat.reduceAdd, w_rt18]
theorem w_si18 {M : ab_M} {m d p : Int32} {f : Nat → Int32} {r : Nat} {x : Int32} : ab_si (mw M 18 m d p f) 19 r x = mw M 18 m d p (up_f f r x) := mw_t
theorem w_wt18 {M : ab_M} {m d p : Int32} {f : Nat → Int32} {g : Nat → Int32} : wt (mw M 18 m d p f) 19 g = mw M 18 m d p g := mw_wt
theorem w_o35_18 {M : ab_M} {m d p : Int32} {f : Nat → Int32} : (mw M 18 m d p f).1 3 5 = M.1 3 5 := rfl
theorem w_o34_18 {M : ab_M} {m d p : Int32} {f : Nat → Int32} : (mw M 18 m d p f).1 3 4 = M.1 3 4 := rfl
theorem w_o83_18 {M : ab_M} {m d p : Int32} {f : Nat → Int32} : (mw M 18 m d p f).1 8 3 = M.1 8 3 := rfl
theorem w_rt23 {M : ab_M} {m d p : Int32} {f : Nat → Int32} : (mw M 23 m d p f).1 24 = f := mw_rt
theorem w_pc23 {M : ab_M} {m d p : Int32} {f : Nat → Int32} : pc_X (mw M 23 m d p f) = pc_X M := rfl
theorem w_kd23 {M : ab_M} {m d p : Int32} {f : Nat → Int32} : kd_X (mw M 23 m d p f) = kd_X M := rfl
theorem w_nm23 {M : ab_M} {m d p : Int32} {f : Nat → Int32} : nm_X (mw M 23 m d p f) = nm_X M := rfl
theorem w_td23 {M : ab_M} {m d p : Int32} {f : Nat → Int32} : td_X (mw M 23 m d p f) = td_X M := rfl
theorem w_sa23 {M : ab_M} {m d p : Int32} {f : Nat → Int32} : sa_X (mw M 23 m d p f) = sa_X M := rfl
theorem w_go23 {M : ab_M} {m d p : Int32} {f : Nat → Int32} : go_X (mw M 23 m d p f) = go_X M := rfl
theorem w_pr23 {M : ab_M} {m d p : Int32} {f : Nat → Int32} : pr_X (mw M 23 m d p f) = pr_X M := rfl
theorem w_ea23 {M : ab_M} {m d p : Int32} {f : Nat → Int32} : ea_X (mw M 23 m d p f) = ea_X M := rfl
theorem w_ld23 {M : ab_M} {m d p : Int32} {f : Nat → Int32} {p1 : Int32} {f1 : Nat → Int32} : ld_X (mw M 23 m d p f) p1 f1 = ld_X M p1 f1 := ld_l_env w_pc23 w_kd23 _ _ _ _ _ _
theorem w_he23 {M : ab_M} {m d p : Int32} {f : Nat → Int32} : he_X (mw M 23 m d p f) = he_X M := rfl
theorem w_th23 {M : ab_M} {m d p : Int32} {f : Nat → Int32} : th_X (mw M 23 m d p f) 23 = tf_X f := by funext x; simp only [th_X, tf_X, Nat.reduceAdd, w_rt23]
theorem w_si23 {M : ab_M} {m d p : Int32} {f : Nat → Int32} {r : Nat} {x : Int32} : ab_si (mw M 23 m d p f) 24 r x = mw M 23 m d p (up_f f r x) := mw_t
theorem w_wt23 {M : ab_M} {m d p : Int32} {f : Nat → Int32} {g : Nat → Int32} : wt (mw M 23 m d p f) 24 g = mw M 23 m d p g := mw_wt
theorem w_o35_23 {M : ab_M} {m d p : Int32} {f : Nat → Int32} : (mw M 23 m d p f).1 3 5 = M.1 3 5 := rfl
theorem w_o34_23 {M : ab_M} {m d p : Int32} {f : Nat → Int32} : (mw M 23 m d p f).1 3 4 = M.1 3 4 := rfl
theorem w_o83_23 {M : ab_M} {m d p : Int32} {f : Nat → Int32} : (mw M 23 m d p f).1 8 3 = M.1 8 3 := rfl
theorem pr_ite {M : ab_M} {q : Nat} {m d p x : Int32} {f : Nat → Int32} : (if (¬ x < 0 ∧ x < M.1 8 3 ∧ x < 5) ∧ f x.toNatClampNeg < 9 then mw M q m d p (up_f f x.toNatClampNeg (f x.toNatClampNeg + 1)) else mw M q m d p f) = mw M q m d p (pr_X M f x) := by
  unfold pr_X; split <;> rfl
theorem ea_ite {M : ab_M} {q : Nat} {m d p x : Int32} {f : Nat → Int32} : (if (¬ x < 0 ∧ x < M.1 8 3 ∧ x < 5) ∧ 0 < f x.toNatClampNeg then mw M q m d p (up_f f x.toNatClampNeg (f x.toNatClampNeg - 1)) else mw M q m d p f) = mw M q m d p (ea_X M f x) := by
  unfold ea_X; split <;> rfl
def s_X2_goDay : ab_Sem := fun as M Po => match as with
  | [.ref q] => (q = 12 ∨ q = 18 ∨ q = 23) ∧ Po (some (.int (gone_X M (mrs M q)))) (mws M q (dy_X M (mrs M q)))
  | _ => False
theorem q_X2_goDay {q : Nat} {M : ab_M} {Po : ab_P} : s_X2_goDay [.ref q] M Po = ((q = 12 ∨ q = 18 ∨ q = 23) ∧ Po (some (.int (gone_X M (mrs M q)))) (mws M q (dy_X M (mrs M q)))) := rfl
abbrev x_X2_goDay : ab_X := (some .int, fl_X2, [(138, 1, s_X2_leader), (166, 1, s_X2_isThere), (174, 2, s_X4_stretchAt), (180, 2, s_X4_groundOf), (144, 2, s_X2_speedOf), (187, 2, s_X2_milesOver), (66, 1, s_X4_end), (195, 2, s_J9_min_7cf53), (204, 2, s_X2_prick), (210, 1, s_X2_healAll)], kl_X2, gs_X2, ab_ros)
theorem ca_X2_goDay_69 {v0 : Value} {st : List Value} {M : ab_M} {k : List Value → ab_M → Prop} : ab_ca x_X2_goDay (2 * 69) (v0 :: st) M k = (st.length ≤ 4 ∧ s_X2_leader [v0] M (fun r M' => k (r.toList ++ st) M')) := rfl
theorem ca_X2_goDay_83 {v0 : Value} {st : List Value} {M : ab_M} {k : List Value → ab_M → Prop} : ab_ca x_X2_goDay (2 * 83) (v0 :: st) M k = (st.length ≤ 4 ∧ s_X2_isThere [v0] M (fun r M' => k (r.toList ++ st) M')) := rfl
theorem ca_X2_goDay_87 {v0 v1 : Value} {st : List Value} {M : ab_M} {k : List Value → ab_M → Prop} : ab_ca x_X2_goDay (2 * 87) (v1 :: v0 :: st) M k = (st.length ≤ 4 ∧ s_X4_stretchAt [v0, v1] M (fun r M' => k (r.toList ++ st) M')) := rfl
theorem ca_X2_goDay_90 {v0 v1 : Value} {st : List Value} {M : ab_M} {k : List Value → ab_M → Prop} : ab_ca x_X2_goDay (2 * 90) (v1 :: v0 :: st) M k = (st.length ≤ 4 ∧ s_X4_groundOf [v0, v1] M (fun r M' => k (r.toList ++ st) M')) := rfl
theorem ca_X2_goDay_72 {v0 v1 : Value} {st : List Value} {M : ab_M} {k : List Value → ab_M → Prop} : ab_ca x_X2_goDay (2 * 72) (v1 :: v0 :: st) M k = (st.length ≤ 4 ∧ s_X2_speedOf [v0, v1] M (fun r M' => k (r.toList ++ st) M')) := rfl
theorem ca_X2_goDay_93 {v0 v1 : Value} {st : List Value} {M : ab_M} {k : List Value → ab_M → Prop} : ab_ca x_X2_goDay (2 * 93 + 1) (v1 :: v0 :: st) M k = (st.length ≤ 4 ∧ s_X2_milesOver [v0, v1] M (fun r M' => k (r.toList ++ st) M')) := rfl
theorem ca_X2_goDay_33 {v0 : Value} {st : List Value} {M : ab_M} {k : List Value → ab_M → Prop} : ab_ca x_X2_goDay (2 * 33) (v0 :: st) M k = (st.length ≤ 4 ∧ s_X4_end [v0] M (fun r M' => k (r.toList ++ st) M')) := rfl
theorem ca_X2_goDay_97 {v0 v1 : Value} {st : List Value} {M : ab_M} {k : List Value → ab_M → Prop} : ab_ca x_X2_goDay (2 * 97 + 1) (v1 :: v0 :: st) M k = (st.length ≤ 4 ∧ s_J9_min_7cf53 [v0, v1] M (fun r M' => k (r.toList ++ st) M')) := rfl
theorem ca_X2_goDay_102 {v0 v1 : Value} {st : List Value} {M : ab_M} {k : List Value → ab_M → Prop} : ab_ca x_X2_goDay (2 * 102) (v1 :: v0 :: st) M k = (st.length ≤ 4 ∧ s_X2_prick [v0, v1] M (fun r M' => k (r.toList ++ st) M')) := rfl
theorem ca_X2_goDay_105 {v0 : Value} {st : List Value} {M : ab_M} {k : List Value → ab_M → Prop} : ab_ca x_X2_goDay (2 * 105) (v0 :: st) M k = (st.length ≤ 4 ∧ s_X2_healAll [v0] M (fun r M' => k (r.toList ++ st) M')) := rfl
theorem r_X2_goDay : ∀ (as : List Value) (M : ab_M) (Po : ab_P), s_X2_goDay as M Po → ∃ (q : Nat) (as' : List Value) (ci : Nat) (T : u_T) (N : Nat) (fs : List ab_F), as = .ref q :: as' ∧ ab_sh[q]? = some (.inl (ci, fs)) ∧ vwCl[ci]? = some (yX2_goDay.cls, T, N) := by
  intro as M Po h
  unfold s_X2_goDay at h
  split at h
  · first | exact ⟨_, _, 2, _, _, _, rfl, rfl, rfl⟩ | (rcases h.1 with rfl | rfl | rfl <;> exact ⟨_, _, 2, _, _, _, rfl, rfl, rfl⟩)
  · exact h.elim
set_option maxRecDepth 20000 in
set_option maxHeartbeats 4000000 in
theorem lp_X2_goDay {G : ab_K} {Po : ab_P} (hG : ab_Clo cX2_goDay x_X2_goDay Po G) {M : ab_M} {q : Nat} (hq : q = 12 ∨ q = 18 ∨ q = 23) {m d p : Int32} {f : Nat → Int32} (h : Po (some (.int (gone_X M (m, d, p, f)))) (mws M q (dy_X M (m, d, p, f)))) : G 0 [some (.ref q), none, none, none] [] (mw M q m d p f) := by
  simp only [mws, dy_X, gone_X, thd_X] at h
  rcases hq with rfl | rfl | rfl
  all_goals
    refine ab_go hG [] 100 _ _ _ _ ?_
    simp (decide := true) only [ew_n, ew_0, Option.toList_some, Option.toList_none, List.cons_append, List.nil_append, true_and, and_true, List.length_cons, List.length_nil, Nat.reduceAdd, Nat.reduceLeDiff, Int32.reduceAdd, Int32.reduceSub, Int32.reduceMul, Int32.reduceLT, Int32.reduceLE, Int32.reduceToNatClampNeg, ↓reduceIte, and_self, si_1, si_2, sl_1, sl_2, false_and, and_false, dX2_goDay_0, dX2_goDay_1, dX2_goDay_4, dX2_goDay_5, dX2_goDay_6, dX2_goDay_7, dX2_goDay_8, dX2_goDay_11, dX2_goDay_14, dX2_goDay_15, dX2_goDay_17, dX2_goDay_20, dX2_goDay_21, dX2_goDay_24, dX2_goDay_25, dX2_goDay_28, dX2_goDay_29, dX2_goDay_32, dX2_goDay_35, dX2_goDay_38, dX2_goDay_39, dX2_goDay_40, dX2_goDay_41, dX2_goDay_42, dX2_goDay_45, dX2_goDay_48, dX2_goDay_49, dX2_goDay_52, dX2_goDay_55, dX2_goDay_56, dX2_goDay_59, dX2_goDay_60, dX2_goDay_63, dX2_goDay_64, dX2_goDay_65, dX2_goDay_66, dX2_goDay_69, dX2_goDay_70, dX2_goDay_71, dX2_goDay_74, dX2_goDay_75, dX2_goDay_76, dX2_goDay_79, dX2_goDay_80, dX2_goDay_81, dX2_goDay_84, dX2_goDay_85, dX2_goDay_88, dX2_goDay_89, dX2_goDay_90, dX2_goDay_91, dX2_goDay_94, dX2_goDay_95, dX2_goDay_98, dX2_goDay_99, dX2_goDay_100, dX2_goDay_103, dX2_goDay_104, dX2_goDay_105, dX2_goDay_108, dX2_goDay_109, ca_X2_goDay_102, ca_X2_goDay_105, ca_X2_goDay_33, ca_X2_goDay_69, ca_X2_goDay_72, ca_X2_goDay_83, ca_X2_goDay_87, ca_X2_goDay_90, ca_X2_goDay_93, ca_X2_goDay_97, e_aload_n0, e_calls, e_callv, e_dupi, e_dupr, e_getfield, e_iadd, e_iload_n1, e_iload_n2, e_iload_n3, e_irem, e_ireturn, e_istore_n1i, e_istore_n1n, e_istore_n1r, e_istore_n2i, e_istore_n2n, e_istore_n2r, e_istore_n3i, e_istore_n3n, e_istore_n3r, e_isub, e_putfield, gf_X2_19_12, gf_X2_19_18, gf_X2_19_23, gf_X2_27_12, gf_X2_27_18, gf_X2_27_23, gf_X2_30_12, gf_X2_30_18, gf_X2_30_23, j_bp_m9, j_ic_0, j_ic_1, j_ic_2, j_ic_3, j_icmp_eq_17_67, j_icmp_ne_76_8, j_icmp_ne_91_7, j_if_ne_11_73, pf_X2_27_12, pf_X2_27_18, pf_X2_27_23, pf_X2_30_12, pf_X2_30_18, pf_X2_30_23, q_J9_min_7cf53, q_X2_healAll, q_X2_isThere, q_X2_leader, q_X2_milesOver, q_X2_prick, q_X2_speedOf, q_X4_end, q_X4_groundOf, q_X4_stretchAt, w_rt12, w_pc12, w_kd12, w_nm12, w_td12, w_sa12, w_go12, w_pr12, w_ea12, w_ld12, w_he12, w_th12, w_si12, w_wt12, w_o35_12, w_o34_12, w_o83_12, w_rt18, w_pc18, w_kd18, w_nm18, w_td18, w_sa18, w_go18, w_pr18, w_ea18, w_ld18, w_he18, w_th18, w_si18, w_wt18, w_o35_18, w_o34_18, w_o83_18, w_rt23, w_pc23, w_kd23, w_nm23, w_td23, w_sa23, w_go23, w_pr23, w_ea23, w_ld23, w_he23, w_th23, w_si23, w_wt23, w_o35_23, w_o34_23, w_o83_23, mw_3, mw_4, mw_5, mw_r3, mw_r4, mw_r5, pr_ite, ea_ite, Classical.not_not, ab_rn, bi_0, bi_1, ite_not]
    simp only [by_X, gr_X] at h
    generalize ld_X M p f = L at h ⊢
    by_cases h1 : m < M.1 3 5
    · by_cases h2 : L = -9
      · by_cases h4 : d - d / 3 * 3 = 2
        · simp only [h1, h2, h4, not_true_eq_false, and_false, false_and, ↓reduceIte, Int32.add_zero] at h ⊢
          exact h
        · simp only [h1, h2, h4, not_true_eq_false, and_false, false_and, ↓reduceIte, Int32.add_zero] at h ⊢
          exact h
      · by_cases h3 : go_X M (sa_X M m) = 3
        · by_cases h4 : d - d / 3 * 3 = 2
          · simp only [h1, h2, h3, h4, not_false_eq_true, and_self, ↓reduceIte] at h ⊢
            exact h
          · simp only [h1, h2, h3, h4, not_false_eq_true, and_self, ↓reduceIte] at h ⊢
            exact h
        · by_cases h4 : d - d / 3 * 3 = 2
          · simp only [h1, h2, h3, h4, not_false_eq_true, and_self, and_false, ↓reduceIte] at h ⊢
            exact h
          · simp only [h1, h2, h3, h4, not_false_eq_true, and_self, and_false, ↓reduceIte] at h ⊢
            exact h
    · by_cases h4 : d - d / 3 * 3 = 2
      · simp only [h1, h4, false_and, ↓reduceIte, Int32.add_zero] at h ⊢
        exact h
      · simp only [h1, h4, false_and, ↓reduceIte, Int32.add_zero] at h ⊢
        exact h
set_option maxRecDepth 20000 in
set_option maxHeartbeats 4000000 in
theorem c_X2_goDay {l : Launch} : ab_ctr l yX2_goDay cX2_goDay 4 (some .int) 2 49 s_X2_goDay := by
  refine ab_met x_X2_goDay (by decide) rfl fo_X2 ko_X2 so_X2 rfl (ab_cs_cons (ab_kV c_X2_leader ml_X2_69 v_X2_leader ⟨rfl, rfl⟩ r_X2_leader) (ab_cs_cons (ab_kV c_X2_isThere ml_X2_83 v_X2_isThere ⟨rfl, rfl⟩ r_X2_isThere) (ab_cs_cons (ab_kV c_X4_stretchAt ml_X2_87 v_X4_stretchAt ⟨rfl, rfl⟩ r_X4_stretchAt) (ab_cs_cons (ab_kV c_X4_groundOf ml_X2_90 v_X4_groundOf ⟨rfl, rfl⟩ r_X4_groundOf) (ab_cs_cons (ab_kV c_X2_speedOf ml_X2_72 v_X2_speedOf ⟨rfl, rfl⟩ r_X2_speedOf) (ab_cs_cons (ab_kS c_X2_milesOver ml_X2_93 v_X2_milesOver ⟨rfl, rfl⟩) (ab_cs_cons (ab_kV c_X4_end ml_X2_33 v_X4_end ⟨rfl, rfl⟩ r_X4_end) (ab_cs_cons (ab_kmin ml_X2_97 (by decide) (by decide)) (ab_cs_cons (ab_kV c_X2_prick ml_X2_102 v_X2_prick ⟨rfl, rfl⟩ r_X2_prick) (ab_cs_cons (ab_kV c_X2_healAll ml_X2_105 v_X2_healAll ⟨rfl, rfl⟩ r_X2_healAll) ab_cs_nil)))))))))) ?_ ?_
  · intro as M Po h
    unfold s_X2_goDay at h
    split at h
    · simp [ab_e0]
    · exact h.elim
  · intro as M Po h G hG
    unfold s_X2_goDay at h
    split at h
    · simp only [ab_en, ab_e0, List.length_cons, List.length_nil, Nat.reduceAdd, Nat.reduceSub, List.replicate, List.cons_append, List.nil_append]
      rename_i q
      obtain ⟨hq, h⟩ := h
      have key := lp_X2_goDay hG hq (m := M.1 q 3) (d := M.1 q 4) (p := M.1 q 5) (f := M.1 (q + 1)) h
      rw [mw_id] at key
      exact key
    · exact h.elim

