/-! METHODS: Outlook -/
/-- two rows of thorns that are the same for the five men -/
def e5 (f g : Nat → Int32) : Prop := ∀ i, i < 5 → f i = g i
theorem e5_r (f : Nat → Int32) : e5 f f := fun _ _ => rfl
theorem ld_l_e5 {M : ab_M} {p : Int32} {f g : Nat → Int32} (h : e5 f g) : ∀ (n i : Nat) (s l : Int32), i + n ≤ 5 → ld_l M p f n i s l = ld_l M p g n i s l
  | 0, _, _, _, _ => rfl
  | n + 1, i, s, l, hi => by
    simp only [ld_l, h i (by omega), ld_l_e5 h n (i + 1) _ _ (show i + 1 + n ≤ 5 by omega)]
theorem ld_e5 {M : ab_M} {p : Int32} {f g : Nat → Int32} (h : e5 f g) : ld_X M p f = ld_X M p g := ld_l_e5 h _ _ _ _ (by unfold nm_X; omega)
theorem i5_lt {x : Int32} (h : ¬ x < 0) (h5 : x < 5) : x.toNatClampNeg < 5 := by
  obtain ⟨j, hj, rfl⟩ := nI_of h
  rw [nI_clamp hj]
  have := (nI_ltI (a := j) (b := 5) hj (by omega)).mp h5
  exact this
theorem tf_e5 {f g : Nat → Int32} (h : e5 f g) (x : Int32) : tf_X f x = tf_X g x := by
  unfold tf_X
  split
  · rename_i hx
    exact h _ (i5_lt hx.1 hx.2)
  · rfl
theorem up_e5 {f g : Nat → Int32} (h : e5 f g) (k : Nat) (x : Int32) : e5 (up_f f k x) (up_f g k x) := by
  intro i hi
  simp only [up_f]
  split
  · rfl
  · exact h i hi
theorem pr_e5 {M : ab_M} {f g : Nat → Int32} (h : e5 f g) (x : Int32) : e5 (pr_X M f x) (pr_X M g x) := by
  unfold pr_X
  by_cases hx : ¬ x < 0 ∧ x < M.1 8 3 ∧ x < 5
  · have e := h _ (i5_lt hx.1 hx.2.2)
    rw [e]
    split
    · exact up_e5 h _ _
    · exact h
  · rw [if_neg (fun hh => hx hh.1), if_neg (fun hh => hx hh.1)]
    exact h
theorem ea_e5 {M : ab_M} {f g : Nat → Int32} (h : e5 f g) (x : Int32) : e5 (ea_X M f x) (ea_X M g x) := by
  unfold ea_X
  by_cases hx : ¬ x < 0 ∧ x < M.1 8 3 ∧ x < 5
  · have e := h _ (i5_lt hx.1 hx.2.2)
    rw [e]
    split
    · exact up_e5 h _ _
    · exact h
  · rw [if_neg (fun hh => hx hh.1), if_neg (fun hh => hx hh.1)]
    exact h
theorem he_e5 {M : ab_M} {f g : Nat → Int32} (h : e5 f g) : e5 (he_X M f) (he_X M g) := by
  intro i hi
  simp only [he_X, he_k, h i hi]
theorem eas_e5 {M : ab_M} {f g : Nat → Int32} (h : e5 f g) (x : Int32) : ∀ n, e5 (eas_X M x n f) (eas_X M x n g)
  | 0 => h
  | n + 1 => ea_e5 (eas_e5 h x n) x
/-- two marches that are the same -/
def m5 (s t : mr_T) : Prop := s.1 = t.1 ∧ s.2.1 = t.2.1 ∧ s.2.2.1 = t.2.2.1 ∧ e5 s.2.2.2 t.2.2.2
theorem m5_mk {a b c : Int32} {f g : Nat → Int32} (h : e5 f g) : m5 (a, b, c, f) (a, b, c, g) := ⟨rfl, rfl, rfl, h⟩
theorem m5_r (s : mr_T) : m5 s s := ⟨rfl, rfl, rfl, e5_r _⟩
theorem gone_m5 {M : ab_M} {s t : mr_T} (h : m5 s t) : gone_X M s = gone_X M t := by
  obtain ⟨h1, h2, h3, h4⟩ := h
  simp only [gone_X, by_X, h1, h3, ld_e5 h4, tf_e5 h4]
theorem thd_m5 {M : ab_M} {s t : mr_T} (h : m5 s t) : e5 (thd_X M s) (thd_X M t) := by
  obtain ⟨h1, h2, h3, h4⟩ := h
  simp only [thd_X, h1, h3, ld_e5 h4]
  split
  · exact pr_e5 h4 _
  · exact h4
theorem dy_m5 {M : ab_M} {s t : mr_T} (h : m5 s t) : m5 (dy_X M s) (dy_X M t) := by
  refine ⟨?_, ?_, h.2.2.1, ?_⟩
  · simp only [dy_X, gone_m5 h, h.1]
  · simp only [dy_X, h.2.1]
  · simp only [dy_X, h.2.1]
    split
    · exact he_e5 (thd_m5 h)
    · exact thd_m5 h
theorem its_m5 {M : ab_M} {s t : mr_T} (h : m5 s t) : ∀ n, m5 (its_X M n s) (its_X M n t)
  | 0 => h
  | n + 1 => dy_m5 (its_m5 h n)
theorem ge_m5 {M : ab_M} : ∀ (n k : Nat) {s t : mr_T}, m5 s t → (ge_X M n k s).1 = (ge_X M n k t).1
  | 0, k, s, t, h => by simp only [ge_X, h.1]
  | n + 1, k, s, t, h => by
    simp only [ge_X, h.1]
    split
    · exact ge_m5 n (k + 1) (dy_m5 h)
    · rfl
theorem fi_e5 (g f : Nat → Int32) : e5 (fi_5 g f) g := fun i hi => by simp [fi_5, hi]
theorem fi_e5' (g f f' : Nat → Int32) : e5 (fi_5 g f) (fi_5 g f') := fun i hi => by simp [fi_5, hi]
/-- the march as it stands, all men there -/
def nw_X (M : ab_M) : mr_T := (M.1 12 3, M.1 12 4, -1, M.1 13)
theorem nw_m5 (M : ab_M) (f : Nat → Int32) : m5 (M.1 12 3, M.1 12 4, -1, fi_5 (M.1 13) f) (nw_X M) := ⟨rfl, rfl, rfl, fi_e5 _ _⟩
/-- of a world whose 18 is written anew: all else stays -/
theorem n18_3 {M : ab_M} {m d p : Int32} {f : Nat → Int32} : (mw M 18 m d p f).1 12 3 = M.1 12 3 := rfl
theorem n18_4 {M : ab_M} {m d p : Int32} {f : Nat → Int32} : (mw M 18 m d p f).1 12 4 = M.1 12 4 := rfl
theorem n18_t {M : ab_M} {m d p : Int32} {f : Nat → Int32} : (mw M 18 m d p f).1 13 = M.1 13 := rfl
theorem n18_h {M : ab_M} {m d p : Int32} {f : Nat → Int32} : th_X (mw M 18 m d p f) 12 = th_X M 12 := rfl
theorem n23_3 {M : ab_M} {m d p : Int32} {f : Nat → Int32} : (mw M 23 m d p f).1 12 3 = M.1 12 3 := rfl
theorem n23_4 {M : ab_M} {m d p : Int32} {f : Nat → Int32} : (mw M 23 m d p f).1 12 4 = M.1 12 4 := rfl
theorem n23_t {M : ab_M} {m d p : Int32} {f : Nat → Int32} : (mw M 23 m d p f).1 13 = M.1 13 := rfl
theorem n23_h {M : ab_M} {m d p : Int32} {f : Nat → Int32} : th_X (mw M 23 m d p f) 12 = th_X M 12 := rfl
theorem fq_w18 {M : ab_M} {m d p : Int32} {f : Nat → Int32} {Po : ab_P} : s_X2_follow [.ref 18, .ref 12] (mw M 18 m d p f) Po = Po none (mw M 18 (M.1 12 3) (M.1 12 4) (-1) (fi_5 (M.1 13) f)) := by
  rw [q_X2_follow]
  simp only [n18_3, n18_4, n18_t, mw_mw, Nat.reduceAdd, w_rt18]
  simp
theorem fq_w23 {M : ab_M} {m d p : Int32} {f : Nat → Int32} {Po : ab_P} : s_X2_follow [.ref 23, .ref 12] (mw M 23 m d p f) Po = Po none (mw M 23 (M.1 12 3) (M.1 12 4) (-1) (fi_5 (M.1 13) f)) := by
  rw [q_X2_follow]
  simp only [n23_3, n23_4, n23_t, mw_mw, Nat.reduceAdd, w_rt23]
  simp
theorem its_w18 {M : ab_M} {m d p : Int32} {f : Nat → Int32} : ∀ n s, its_X (mw M 18 m d p f) n s = its_X M n s
  | 0, _ => rfl
  | n + 1, s => by simp only [its_X, dy_w18, its_w18 n s]
theorem its_w23 {M : ab_M} {m d p : Int32} {f : Nat → Int32} : ∀ n s, its_X (mw M 23 m d p f) n s = its_X M n s
  | 0, _ => rfl
  | n + 1, s => by simp only [its_X, dy_w23, its_w23 n s]
theorem ge_w18 {M : ab_M} {m d p : Int32} {f : Nat → Int32} : ∀ n k s, ge_X (mw M 18 m d p f) n k s = ge_X M n k s
  | 0, _, _ => rfl
  | n + 1, k, s => by simp only [ge_X, dy_w18, ge_w18 n, w_o35_18]
theorem ge_w23 {M : ab_M} {m d p : Int32} {f : Nat → Int32} : ∀ n k s, ge_X (mw M 23 m d p f) n k s = ge_X M n k s
  | 0, _, _ => rfl
  | n + 1, k, s => by simp only [ge_X, dy_w23, ge_w23 n, w_o35_23]
theorem eas_w18 {M : ab_M} {m d p x : Int32} {f : Nat → Int32} : ∀ n g, eas_X (mw M 18 m d p f) x n g = eas_X M x n g
  | 0, _ => rfl
  | n + 1, g => by simp only [eas_X, w_ea18, eas_w18 n]
theorem dq_w18 {M : ab_M} {m d p x : Int32} {f : Nat → Int32} {Po : ab_P} : s_X2_goDays [.ref 18, .int x] (mw M 18 m d p f) Po = Po none (mws M 18 (its_X M x.toNatClampNeg (m, d, p, f))) := by
  rw [q_X2_goDays, its_w18, mrs_w18, mws_w18]
  simp
theorem dq_w23 {M : ab_M} {m d p x : Int32} {f : Nat → Int32} {Po : ab_P} : s_X2_goDays [.ref 23, .int x] (mw M 23 m d p f) Po = Po none (mws M 23 (its_X M x.toNatClampNeg (m, d, p, f))) := by
  rw [q_X2_goDays, its_w23, mrs_w23, mws_w23]
  simp
theorem eq_g18 {M : ab_M} {m d p x : Int32} {f : Nat → Int32} {Po : ab_P} : s_X2_goToEnd [.ref 18, .int x] (mw M 18 m d p f) Po = (¬ x < 0 ∧ Po (some (.int (ge_X M x.toNatClampNeg 0 (m, d, p, f)).1)) (mws M 18 (ge_X M x.toNatClampNeg 0 (m, d, p, f)).2)) := by
  rw [q_X2_goToEnd, ge_w18, mrs_w18, mws_w18]
  simp
theorem eq_g23 {M : ab_M} {m d p x : Int32} {f : Nat → Int32} {Po : ab_P} : s_X2_goToEnd [.ref 23, .int x] (mw M 23 m d p f) Po = (¬ x < 0 ∧ Po (some (.int (ge_X M x.toNatClampNeg 0 (m, d, p, f)).1)) (mws M 23 (ge_X M x.toNatClampNeg 0 (m, d, p, f)).2)) := by
  rw [q_X2_goToEnd, ge_w23, mrs_w23, mws_w23]
  simp
theorem t60 : (60 : Int32).toNatClampNeg = 60 := by decide
theorem t5 : (5 : Int32).toNatClampNeg = 5 := by decide
theorem t3 : (3 : Int32).toNatClampNeg = 3 := by decide
theorem et_w18 {M : ab_M} {m d p x y : Int32} {f : Nat → Int32} {Po : ab_P} : s_X2_easeTimes [.ref 18, .int x, .int y] (mw M 18 m d p f) Po = Po none (mw M 18 m d p (eas_X M x y.toNatClampNeg f)) := by
  rw [q_X2_easeTimes, eas_w18, mrs_w18, mws_w18]
  simp [mws]
def s_X3_mileIn : ab_Sem := fun as M Po => match as with
  | [.ref 16, .int x] => ∀ s : mr_T, Po (some (.int ((its_X M x.toNatClampNeg (nw_X M)).1))) (mws M 18 s)
  | _ => False
theorem q_X3_mileIn {x : Int32} {M : ab_M} {Po : ab_P} : s_X3_mileIn [.ref 16, .int x] M Po = (∀ s : mr_T, Po (some (.int ((its_X M x.toNatClampNeg (nw_X M)).1))) (mws M 18 s)) := rfl
abbrev x_X3_mileIn : ab_X := (some .int, fl_X3, [(44, 2, s_X2_follow), (56, 2, s_X2_goDays), (64, 1, s_X2_mile)], kl_X3, gs_X3, ab_ros)
theorem ca_X3_mileIn_22 {v0 v1 : Value} {st : List Value} {M : ab_M} {k : List Value → ab_M → Prop} : ab_ca x_X3_mileIn (2 * 22) (v1 :: v0 :: st) M k = (st.length ≤ 4 ∧ s_X2_follow [v0, v1] M (fun r M' => k (r.toList ++ st) M')) := rfl
theorem ca_X3_mileIn_28 {v0 v1 : Value} {st : List Value} {M : ab_M} {k : List Value → ab_M → Prop} : ab_ca x_X3_mileIn (2 * 28) (v1 :: v0 :: st) M k = (st.length ≤ 4 ∧ s_X2_goDays [v0, v1] M (fun r M' => k (r.toList ++ st) M')) := rfl
theorem ca_X3_mileIn_32 {v0 : Value} {st : List Value} {M : ab_M} {k : List Value → ab_M → Prop} : ab_ca x_X3_mileIn (2 * 32) (v0 :: st) M k = (st.length ≤ 4 ∧ s_X2_mile [v0] M (fun r M' => k (r.toList ++ st) M')) := rfl
theorem r_X3_mileIn : ∀ (as : List Value) (M : ab_M) (Po : ab_P), s_X3_mileIn as M Po → ∃ (q : Nat) (as' : List Value) (ci : Nat) (T : u_T) (N : Nat) (fs : List ab_F), as = .ref q :: as' ∧ ab_sh[q]? = some (.inl (ci, fs)) ∧ vwCl[ci]? = some (yX3_mileIn.cls, T, N) := by
  intro as M Po h
  unfold s_X3_mileIn at h
  split at h
  · first | exact ⟨_, _, 3, _, _, _, rfl, rfl, rfl⟩ | (rcases h.1 with rfl | rfl | rfl <;> exact ⟨_, _, 3, _, _, _, rfl, rfl, rfl⟩)
  · exact h.elim
set_option maxRecDepth 20000 in
set_option maxHeartbeats 4000000 in
theorem lp_X3_mileIn {G : ab_K} {Po : ab_P} (hG : ab_Clo cX3_mileIn x_X3_mileIn Po G) {M : ab_M} {m d p : Int32} {f : Nat → Int32} {x : Int32} (h : ∀ s : mr_T, Po (some (.int ((its_X M x.toNatClampNeg (nw_X M)).1))) (mws M 18 s)) : G 0 [some (.ref 16), some (.int x)] [] (mw M 18 m d p f) := by
  refine ab_go hG [] 80 _ _ _ _ ?_
  simp (decide := true) only [ew_n, ew_0, Option.toList_some, Option.toList_none, List.cons_append, List.nil_append, true_and, and_true, List.length_cons, List.length_nil, Nat.reduceAdd, Nat.reduceLeDiff, Int32.reduceAdd, Int32.reduceSub, Int32.reduceMul, Int32.reduceLT, Int32.reduceLE, ↓reduceIte, and_self, si_1, si_2, sl_1, sl_2, false_and, and_false, dX3_mileIn_0, dX3_mileIn_1, dX3_mileIn_4, dX3_mileIn_5, dX3_mileIn_8, dX3_mileIn_11, dX3_mileIn_12, dX3_mileIn_15, dX3_mileIn_16, dX3_mileIn_19, dX3_mileIn_20, dX3_mileIn_23, dX3_mileIn_26, ca_X3_mileIn_22, ca_X3_mileIn_28, ca_X3_mileIn_32, e_aload_n0, e_callv, e_getfield, e_iload_n1, e_ireturn, gf_X3_15_16, gf_X3_19_16, q_X2_mile, t60, t5, t3, fq_w18, dq_w18, eq_g18, et_w18, eq_w18, gq_w18, mws, w_rt12, w_pc12, w_kd12, w_nm12, w_td12, w_sa12, w_go12, w_pr12, w_ea12, w_ld12, w_he12, w_th12, w_si12, w_wt12, w_o35_12, w_o34_12, w_o83_12, w_rt18, w_pc18, w_kd18, w_nm18, w_td18, w_sa18, w_go18, w_pr18, w_ea18, w_ld18, w_he18, w_th18, w_si18, w_wt18, w_o35_18, w_o34_18, w_o83_18, w_rt23, w_pc23, w_kd23, w_nm23, w_td23, w_sa23, w_go23, w_pr23, w_ea23, w_ld23, w_he23, w_th23, w_si23, w_wt23, w_o35_23, w_o34_23, w_o83_23, mw_3, mw_4, mw_5, mw_r3, mw_r4, mw_r5, pr_ite, ea_ite, ab_rn, bi_0, bi_1, ite_not]
  rw [← (its_m5 (nw_m5 M f) _).1] at h
  exact h (its_X M x.toNatClampNeg (M.1 12 3, M.1 12 4, -1, fi_5 (M.1 13) f))
set_option maxRecDepth 20000 in
set_option maxHeartbeats 4000000 in
theorem c_X3_mileIn {l : Launch} : ab_ctr l yX3_mileIn cX3_mileIn 2 (some .int) 4 94 s_X3_mileIn := by
  refine ab_met x_X3_mileIn (by decide) rfl fo_X3 ko_X3 so_X3 rfl (ab_cs_cons (ab_kV c_X2_follow ml_X3_22 v_X2_follow ⟨rfl, rfl⟩ r_X2_follow) (ab_cs_cons (ab_kV c_X2_goDays ml_X3_28 v_X2_goDays ⟨rfl, rfl⟩ r_X2_goDays) (ab_cs_cons (ab_kV c_X2_mile ml_X3_32 v_X2_mile ⟨rfl, rfl⟩ r_X2_mile) ab_cs_nil))) ?_ ?_
  · intro as M Po h
    unfold s_X3_mileIn at h
    split at h
    · simp [ab_e0]
    · exact h.elim
  · intro as M Po h G hG
    unfold s_X3_mileIn at h
    split at h
    · simp only [ab_en, ab_e0, List.length_cons, List.length_nil, Nat.reduceAdd, Nat.reduceSub, List.replicate, List.cons_append, List.nil_append]
      have key := lp_X3_mileIn hG (m := M.1 18 3) (d := M.1 18 4) (p := M.1 18 5) (f := M.1 19) h
      rw [show mw M 18 (M.1 18 3) (M.1 18 4) (M.1 18 5) (M.1 19) = M from mw_id] at key
      exact key
    · exact h.elim

def s_X3_leaderIn : ab_Sem := fun as M Po => match as with
  | [.ref 16, .int x] => ∀ s : mr_T, Po (some (.int (ld_X M (its_X M x.toNatClampNeg (nw_X M)).2.2.1 (its_X M x.toNatClampNeg (nw_X M)).2.2.2))) (mws M 18 s)
  | _ => False
theorem q_X3_leaderIn {x : Int32} {M : ab_M} {Po : ab_P} : s_X3_leaderIn [.ref 16, .int x] M Po = (∀ s : mr_T, Po (some (.int (ld_X M (its_X M x.toNatClampNeg (nw_X M)).2.2.1 (its_X M x.toNatClampNeg (nw_X M)).2.2.2))) (mws M 18 s)) := rfl
abbrev x_X3_leaderIn : ab_X := (some .int, fl_X3, [(44, 2, s_X2_follow), (56, 2, s_X2_goDays), (72, 1, s_X2_leader)], kl_X3, gs_X3, ab_ros)
theorem ca_X3_leaderIn_22 {v0 v1 : Value} {st : List Value} {M : ab_M} {k : List Value → ab_M → Prop} : ab_ca x_X3_leaderIn (2 * 22) (v1 :: v0 :: st) M k = (st.length ≤ 4 ∧ s_X2_follow [v0, v1] M (fun r M' => k (r.toList ++ st) M')) := rfl
theorem ca_X3_leaderIn_28 {v0 v1 : Value} {st : List Value} {M : ab_M} {k : List Value → ab_M → Prop} : ab_ca x_X3_leaderIn (2 * 28) (v1 :: v0 :: st) M k = (st.length ≤ 4 ∧ s_X2_goDays [v0, v1] M (fun r M' => k (r.toList ++ st) M')) := rfl
theorem ca_X3_leaderIn_36 {v0 : Value} {st : List Value} {M : ab_M} {k : List Value → ab_M → Prop} : ab_ca x_X3_leaderIn (2 * 36) (v0 :: st) M k = (st.length ≤ 4 ∧ s_X2_leader [v0] M (fun r M' => k (r.toList ++ st) M')) := rfl
theorem r_X3_leaderIn : ∀ (as : List Value) (M : ab_M) (Po : ab_P), s_X3_leaderIn as M Po → ∃ (q : Nat) (as' : List Value) (ci : Nat) (T : u_T) (N : Nat) (fs : List ab_F), as = .ref q :: as' ∧ ab_sh[q]? = some (.inl (ci, fs)) ∧ vwCl[ci]? = some (yX3_leaderIn.cls, T, N) := by
  intro as M Po h
  unfold s_X3_leaderIn at h
  split at h
  · first | exact ⟨_, _, 3, _, _, _, rfl, rfl, rfl⟩ | (rcases h.1 with rfl | rfl | rfl <;> exact ⟨_, _, 3, _, _, _, rfl, rfl, rfl⟩)
  · exact h.elim
set_option maxRecDepth 20000 in
set_option maxHeartbeats 4000000 in
theorem lp_X3_leaderIn {G : ab_K} {Po : ab_P} (hG : ab_Clo cX3_leaderIn x_X3_leaderIn Po G) {M : ab_M} {m d p : Int32} {f : Nat → Int32} {x : Int32} (h : ∀ s : mr_T, Po (some (.int (ld_X M (its_X M x.toNatClampNeg (nw_X M)).2.2.1 (its_X M x.toNatClampNeg (nw_X M)).2.2.2))) (mws M 18 s)) : G 0 [some (.ref 16), some (.int x)] [] (mw M 18 m d p f) := by
  refine ab_go hG [] 80 _ _ _ _ ?_
  simp (decide := true) only [ew_n, ew_0, Option.toList_some, Option.toList_none, List.cons_append, List.nil_append, true_and, and_true, List.length_cons, List.length_nil, Nat.reduceAdd, Nat.reduceLeDiff, Int32.reduceAdd, Int32.reduceSub, Int32.reduceMul, Int32.reduceLT, Int32.reduceLE, ↓reduceIte, and_self, si_1, si_2, sl_1, sl_2, false_and, and_false, dX3_leaderIn_0, dX3_leaderIn_1, dX3_leaderIn_4, dX3_leaderIn_5, dX3_leaderIn_8, dX3_leaderIn_11, dX3_leaderIn_12, dX3_leaderIn_15, dX3_leaderIn_16, dX3_leaderIn_19, dX3_leaderIn_20, dX3_leaderIn_23, dX3_leaderIn_26, ca_X3_leaderIn_22, ca_X3_leaderIn_28, ca_X3_leaderIn_36, e_aload_n0, e_callv, e_getfield, e_iload_n1, e_ireturn, gf_X3_15_16, gf_X3_19_16, q_X2_leader, t60, t5, t3, fq_w18, dq_w18, eq_g18, et_w18, eq_w18, gq_w18, mws, w_rt12, w_pc12, w_kd12, w_nm12, w_td12, w_sa12, w_go12, w_pr12, w_ea12, w_ld12, w_he12, w_th12, w_si12, w_wt12, w_o35_12, w_o34_12, w_o83_12, w_rt18, w_pc18, w_kd18, w_nm18, w_td18, w_sa18, w_go18, w_pr18, w_ea18, w_ld18, w_he18, w_th18, w_si18, w_wt18, w_o35_18, w_o34_18, w_o83_18, w_rt23, w_pc23, w_kd23, w_nm23, w_td23, w_sa23, w_go23, w_pr23, w_ea23, w_ld23, w_he23, w_th23, w_si23, w_wt23, w_o35_23, w_o34_23, w_o83_23, mw_3, mw_4, mw_5, mw_r3, mw_r4, mw_r5, pr_ite, ea_ite, ab_rn, bi_0, bi_1, ite_not]
  rw [← (its_m5 (nw_m5 M f) _).2.2.1, ← ld_e5 (its_m5 (nw_m5 M f) _).2.2.2] at h
  exact h (its_X M x.toNatClampNeg (M.1 12 3, M.1 12 4, -1, fi_5 (M.1 13) f))
set_option maxRecDepth 20000 in
set_option maxHeartbeats 4000000 in
theorem c_X3_leaderIn {l : Launch} : ab_ctr l yX3_leaderIn cX3_leaderIn 2 (some .int) 4 94 s_X3_leaderIn := by
  refine ab_met x_X3_leaderIn (by decide) rfl fo_X3 ko_X3 so_X3 rfl (ab_cs_cons (ab_kV c_X2_follow ml_X3_22 v_X2_follow ⟨rfl, rfl⟩ r_X2_follow) (ab_cs_cons (ab_kV c_X2_goDays ml_X3_28 v_X2_goDays ⟨rfl, rfl⟩ r_X2_goDays) (ab_cs_cons (ab_kV c_X2_leader ml_X3_36 v_X2_leader ⟨rfl, rfl⟩ r_X2_leader) ab_cs_nil))) ?_ ?_
  · intro as M Po h
    unfold s_X3_leaderIn at h
    split at h
    · simp [ab_e0]
    · exact h.elim
  · intro as M Po h G hG
    unfold s_X3_leaderIn at h
    split at h
    · simp only [ab_en, ab_e0, List.length_cons, List.length_nil, Nat.reduceAdd, Nat.reduceSub, List.replicate, List.cons_append, List.nil_append]
      have key := lp_X3_leaderIn hG (m := M.1 18 3) (d := M.1 18 4) (p := M.1 18 5) (f := M.1 19) h
      rw [show mw M 18 (M.1 18 3) (M.1 18 4) (M.1 18 5) (M.1 19) = M from mw_id] at key
      exact key
    · exact h.elim

def s_X3_daysToEnd : ab_Sem := fun as M Po => match as with
  | [.ref 16] => ∀ s : mr_T, Po (some (.int ((ge_X M 60 0 (nw_X M)).1))) (mws M 18 s)
  | _ => False
theorem q_X3_daysToEnd {M : ab_M} {Po : ab_P} : s_X3_daysToEnd [.ref 16] M Po = (∀ s : mr_T, Po (some (.int ((ge_X M 60 0 (nw_X M)).1))) (mws M 18 s)) := rfl
abbrev x_X3_daysToEnd : ab_X := (some .int, fl_X3, [(44, 2, s_X2_follow), (78, 2, s_X2_goToEnd)], kl_X3, gs_X3, ab_ros)
theorem ca_X3_daysToEnd_22 {v0 v1 : Value} {st : List Value} {M : ab_M} {k : List Value → ab_M → Prop} : ab_ca x_X3_daysToEnd (2 * 22) (v1 :: v0 :: st) M k = (st.length ≤ 4 ∧ s_X2_follow [v0, v1] M (fun r M' => k (r.toList ++ st) M')) := rfl
theorem ca_X3_daysToEnd_39 {v0 v1 : Value} {st : List Value} {M : ab_M} {k : List Value → ab_M → Prop} : ab_ca x_X3_daysToEnd (2 * 39) (v1 :: v0 :: st) M k = (st.length ≤ 4 ∧ s_X2_goToEnd [v0, v1] M (fun r M' => k (r.toList ++ st) M')) := rfl
theorem r_X3_daysToEnd : ∀ (as : List Value) (M : ab_M) (Po : ab_P), s_X3_daysToEnd as M Po → ∃ (q : Nat) (as' : List Value) (ci : Nat) (T : u_T) (N : Nat) (fs : List ab_F), as = .ref q :: as' ∧ ab_sh[q]? = some (.inl (ci, fs)) ∧ vwCl[ci]? = some (yX3_daysToEnd.cls, T, N) := by
  intro as M Po h
  unfold s_X3_daysToEnd at h
  split at h
  · first | exact ⟨_, _, 3, _, _, _, rfl, rfl, rfl⟩ | (rcases h.1 with rfl | rfl | rfl <;> exact ⟨_, _, 3, _, _, _, rfl, rfl, rfl⟩)
  · exact h.elim
set_option maxRecDepth 20000 in
set_option maxHeartbeats 4000000 in
theorem lp_X3_daysToEnd {G : ab_K} {Po : ab_P} (hG : ab_Clo cX3_daysToEnd x_X3_daysToEnd Po G) {M : ab_M} {m d p : Int32} {f : Nat → Int32} (h : ∀ s : mr_T, Po (some (.int ((ge_X M 60 0 (nw_X M)).1))) (mws M 18 s)) : G 0 [some (.ref 16)] [] (mw M 18 m d p f) := by
  refine ab_go hG [] 80 _ _ _ _ ?_
  simp (decide := true) only [ew_n, ew_0, Option.toList_some, Option.toList_none, List.cons_append, List.nil_append, true_and, and_true, List.length_cons, List.length_nil, Nat.reduceAdd, Nat.reduceLeDiff, Int32.reduceAdd, Int32.reduceSub, Int32.reduceMul, Int32.reduceLT, Int32.reduceLE, ↓reduceIte, and_self, si_1, si_2, sl_1, sl_2, false_and, and_false, dX3_daysToEnd_0, dX3_daysToEnd_1, dX3_daysToEnd_4, dX3_daysToEnd_5, dX3_daysToEnd_8, dX3_daysToEnd_11, dX3_daysToEnd_12, dX3_daysToEnd_15, dX3_daysToEnd_17, dX3_daysToEnd_20, ca_X3_daysToEnd_22, ca_X3_daysToEnd_39, e_aload_n0, e_callv, e_getfield, e_ireturn, gf_X3_15_16, gf_X3_19_16, j_bp_60, t60, t5, t3, fq_w18, dq_w18, eq_g18, et_w18, eq_w18, gq_w18, mws, w_rt12, w_pc12, w_kd12, w_nm12, w_td12, w_sa12, w_go12, w_pr12, w_ea12, w_ld12, w_he12, w_th12, w_si12, w_wt12, w_o35_12, w_o34_12, w_o83_12, w_rt18, w_pc18, w_kd18, w_nm18, w_td18, w_sa18, w_go18, w_pr18, w_ea18, w_ld18, w_he18, w_th18, w_si18, w_wt18, w_o35_18, w_o34_18, w_o83_18, w_rt23, w_pc23, w_kd23, w_nm23, w_td23, w_sa23, w_go23, w_pr23, w_ea23, w_ld23, w_he23, w_th23, w_si23, w_wt23, w_o35_23, w_o34_23, w_o83_23, mw_3, mw_4, mw_5, mw_r3, mw_r4, mw_r5, pr_ite, ea_ite, ab_rn, bi_0, bi_1, ite_not]
  rw [← ge_m5 60 0 (nw_m5 M f)] at h
  exact h (ge_X M 60 0 (M.1 12 3, M.1 12 4, -1, fi_5 (M.1 13) f)).2
set_option maxRecDepth 20000 in
set_option maxHeartbeats 4000000 in
theorem c_X3_daysToEnd {l : Launch} : ab_ctr l yX3_daysToEnd cX3_daysToEnd 1 (some .int) 4 94 s_X3_daysToEnd := by
  refine ab_met x_X3_daysToEnd (by decide) rfl fo_X3 ko_X3 so_X3 rfl (ab_cs_cons (ab_kV c_X2_follow ml_X3_22 v_X2_follow ⟨rfl, rfl⟩ r_X2_follow) (ab_cs_cons (ab_kV c_X2_goToEnd ml_X3_39 v_X2_goToEnd ⟨rfl, rfl⟩ r_X2_goToEnd) ab_cs_nil)) ?_ ?_
  · intro as M Po h
    unfold s_X3_daysToEnd at h
    split at h
    · simp [ab_e0]
    · exact h.elim
  · intro as M Po h G hG
    unfold s_X3_daysToEnd at h
    split at h
    · simp only [ab_en, ab_e0, List.length_cons, List.length_nil, Nat.reduceAdd, Nat.reduceSub, List.replicate, List.cons_append, List.nil_append]
      have key := lp_X3_daysToEnd hG (m := M.1 18 3) (d := M.1 18 4) (p := M.1 18 5) (f := M.1 19) h
      rw [show mw M 18 (M.1 18 3) (M.1 18 4) (M.1 18 5) (M.1 19) = M from mw_id] at key
      exact key
    · exact h.elim

def s_X3_daysIfEased : ab_Sem := fun as M Po => match as with
  | [.ref 16, .int x] => ∀ s : mr_T, Po (some (.int ((ge_X M 60 0 (M.1 12 3, M.1 12 4, -1, ea_X M (M.1 13) x)).1))) (mws M 18 s)
  | _ => False
theorem q_X3_daysIfEased {x : Int32} {M : ab_M} {Po : ab_P} : s_X3_daysIfEased [.ref 16, .int x] M Po = (∀ s : mr_T, Po (some (.int ((ge_X M 60 0 (M.1 12 3, M.1 12 4, -1, ea_X M (M.1 13) x)).1))) (mws M 18 s)) := rfl
abbrev x_X3_daysIfEased : ab_X := (some .int, fl_X3, [(44, 2, s_X2_follow), (112, 2, s_X2_ease), (78, 2, s_X2_goToEnd)], kl_X3, gs_X3, ab_ros)
theorem ca_X3_daysIfEased_22 {v0 v1 : Value} {st : List Value} {M : ab_M} {k : List Value → ab_M → Prop} : ab_ca x_X3_daysIfEased (2 * 22) (v1 :: v0 :: st) M k = (st.length ≤ 4 ∧ s_X2_follow [v0, v1] M (fun r M' => k (r.toList ++ st) M')) := rfl
theorem ca_X3_daysIfEased_56 {v0 v1 : Value} {st : List Value} {M : ab_M} {k : List Value → ab_M → Prop} : ab_ca x_X3_daysIfEased (2 * 56) (v1 :: v0 :: st) M k = (st.length ≤ 4 ∧ s_X2_ease [v0, v1] M (fun r M' => k (r.toList ++ st) M')) := rfl
theorem ca_X3_daysIfEased_39 {v0 v1 : Value} {st : List Value} {M : ab_M} {k : List Value → ab_M → Prop} : ab_ca x_X3_daysIfEased (2 * 39) (v1 :: v0 :: st) M k = (st.length ≤ 4 ∧ s_X2_goToEnd [v0, v1] M (fun r M' => k (r.toList ++ st) M')) := rfl
theorem r_X3_daysIfEased : ∀ (as : List Value) (M : ab_M) (Po : ab_P), s_X3_daysIfEased as M Po → ∃ (q : Nat) (as' : List Value) (ci : Nat) (T : u_T) (N : Nat) (fs : List ab_F), as = .ref q :: as' ∧ ab_sh[q]? = some (.inl (ci, fs)) ∧ vwCl[ci]? = some (yX3_daysIfEased.cls, T, N) := by
  intro as M Po h
  unfold s_X3_daysIfEased at h
  split at h
  · first | exact ⟨_, _, 3, _, _, _, rfl, rfl, rfl⟩ | (rcases h.1 with rfl | rfl | rfl <;> exact ⟨_, _, 3, _, _, _, rfl, rfl, rfl⟩)
  · exact h.elim
set_option maxRecDepth 20000 in
set_option maxHeartbeats 4000000 in
theorem lr_X3_daysIfEased {G : ab_K} {Po : ab_P} (hG : ab_Clo cX3_daysIfEased x_X3_daysIfEased Po G) {M : ab_M} {g : Nat → Int32} {m d p x : Int32} (h : Po (some (.int (ge_X M 60 0 (m, d, p, g)).1)) (mws M 18 (ge_X M 60 0 (m, d, p, g)).2)) : G 19 [some (.ref 16), some (.int x)] [] (mw M 18 m d p g) := by
  refine ab_go hG [] 80 _ _ _ _ ?_
  simp (decide := true) only [ew_n, ew_0, Option.toList_some, Option.toList_none, List.cons_append, List.nil_append, true_and, and_true, List.length_cons, List.length_nil, Nat.reduceAdd, Nat.reduceLeDiff, Int32.reduceAdd, Int32.reduceSub, Int32.reduceMul, Int32.reduceLT, Int32.reduceLE, ↓reduceIte, and_self, si_1, si_2, sl_1, sl_2, false_and, and_false, dX3_daysIfEased_0, dX3_daysIfEased_1, dX3_daysIfEased_4, dX3_daysIfEased_5, dX3_daysIfEased_8, dX3_daysIfEased_11, dX3_daysIfEased_12, dX3_daysIfEased_15, dX3_daysIfEased_16, dX3_daysIfEased_19, dX3_daysIfEased_20, dX3_daysIfEased_23, dX3_daysIfEased_25, dX3_daysIfEased_28, ca_X3_daysIfEased_22, ca_X3_daysIfEased_39, ca_X3_daysIfEased_56, e_aload_n0, e_callv, e_getfield, e_iload_n1, e_ireturn, gf_X3_15_16, gf_X3_19_16, j_bp_60, eq_g18, t60, ab_rn, bi_0, bi_1, ite_not]
  exact h
set_option maxRecDepth 20000 in
set_option maxHeartbeats 4000000 in
theorem lq_X3_daysIfEased {G : ab_K} {Po : ab_P} (hG : ab_Clo cX3_daysIfEased x_X3_daysIfEased Po G) {M : ab_M} {g : Nat → Int32} {m d p x : Int32} (h : G 19 [some (.ref 16), some (.int x)] [] (mw M 18 m d p (ea_X M g x))) : G 11 [some (.ref 16), some (.int x)] [] (mw M 18 m d p g) := by
  refine ab_go1 hG [19] 80 _ _ _ _ ?_
  simp (decide := true) only [ew_s, ew_0, Option.toList_some, Option.toList_none, List.cons_append, List.nil_append, true_and, and_true, List.length_cons, List.length_nil, Nat.reduceAdd, Nat.reduceLeDiff, Int32.reduceAdd, Int32.reduceSub, Int32.reduceMul, Int32.reduceLT, Int32.reduceLE, ↓reduceIte, and_self, si_1, si_2, sl_1, sl_2, false_and, and_false, dX3_daysIfEased_0, dX3_daysIfEased_1, dX3_daysIfEased_4, dX3_daysIfEased_5, dX3_daysIfEased_8, dX3_daysIfEased_11, dX3_daysIfEased_12, dX3_daysIfEased_15, dX3_daysIfEased_16, dX3_daysIfEased_19, dX3_daysIfEased_20, dX3_daysIfEased_23, dX3_daysIfEased_25, dX3_daysIfEased_28, ca_X3_daysIfEased_22, ca_X3_daysIfEased_39, ca_X3_daysIfEased_56, e_aload_n0, e_callv, e_getfield, e_iload_n1, e_ireturn, gf_X3_15_16, gf_X3_19_16, j_bp_60, eq_w18, ab_rn, bi_0, bi_1, ite_not]
  exact h
theorem ln_X3_daysIfEased {M : ab_M} {g : Nat → Int32} {x : Int32} {Po : ab_P} (n : Nat) (e : e5 g (M.1 13)) (h : ∀ s : mr_T, Po (some (.int (ge_X M n 0 (M.1 12 3, M.1 12 4, -1, ea_X M (M.1 13) x)).1)) (mws M 18 s)) : Po (some (.int (ge_X M n 0 (M.1 12 3, M.1 12 4, -1, ea_X M g x)).1)) (mws M 18 (ge_X M n 0 (M.1 12 3, M.1 12 4, -1, ea_X M g x)).2) := by
  have e1 : m5 (M.1 12 3, M.1 12 4, -1, ea_X M g x) (M.1 12 3, M.1 12 4, -1, ea_X M (M.1 13) x) := m5_mk (ea_e5 e x)
  rw [ge_m5 (M := M) n 0 e1]
  exact h _
set_option maxRecDepth 20000 in
set_option maxHeartbeats 4000000 in
theorem lp_X3_daysIfEased {G : ab_K} {Po : ab_P} (hG : ab_Clo cX3_daysIfEased x_X3_daysIfEased Po G) {M : ab_M} {m d p : Int32} {f : Nat → Int32} {x : Int32} (h : ∀ s : mr_T, Po (some (.int ((ge_X M 60 0 (M.1 12 3, M.1 12 4, -1, ea_X M (M.1 13) x)).1))) (mws M 18 s)) : G 0 [some (.ref 16), some (.int x)] [] (mw M 18 m d p f) := by
  refine ab_go hG [11] 80 _ _ _ _ ?_
  simp (decide := true) only [ew_s, ew_0, Option.toList_some, Option.toList_none, List.cons_append, List.nil_append, true_and, and_true, List.length_cons, List.length_nil, Nat.reduceAdd, Nat.reduceLeDiff, Int32.reduceAdd, Int32.reduceSub, Int32.reduceMul, Int32.reduceLT, Int32.reduceLE, ↓reduceIte, and_self, si_1, si_2, sl_1, sl_2, false_and, and_false, dX3_daysIfEased_0, dX3_daysIfEased_1, dX3_daysIfEased_4, dX3_daysIfEased_5, dX3_daysIfEased_8, dX3_daysIfEased_11, dX3_daysIfEased_12, dX3_daysIfEased_15, dX3_daysIfEased_16, dX3_daysIfEased_19, dX3_daysIfEased_20, dX3_daysIfEased_23, dX3_daysIfEased_25, dX3_daysIfEased_28, ca_X3_daysIfEased_22, ca_X3_daysIfEased_39, ca_X3_daysIfEased_56, e_aload_n0, e_callv, e_getfield, e_iload_n1, e_ireturn, gf_X3_15_16, gf_X3_19_16, j_bp_60, fq_w18, ab_rn, bi_0, bi_1, ite_not]
  have e : e5 (fi_5 (M.1 13) f) (M.1 13) := fi_e5 _ _
  generalize fi_5 (M.1 13) f = g at e ⊢
  exact lq_X3_daysIfEased hG (lr_X3_daysIfEased hG (ln_X3_daysIfEased 60 e h))
set_option maxRecDepth 20000 in
set_option maxHeartbeats 4000000 in
theorem c_X3_daysIfEased {l : Launch} : ab_ctr l yX3_daysIfEased cX3_daysIfEased 2 (some .int) 4 94 s_X3_daysIfEased := by
  refine ab_met x_X3_daysIfEased (by decide) rfl fo_X3 ko_X3 so_X3 rfl (ab_cs_cons (ab_kV c_X2_follow ml_X3_22 v_X2_follow ⟨rfl, rfl⟩ r_X2_follow) (ab_cs_cons (ab_kV c_X2_ease ml_X3_56 v_X2_ease ⟨rfl, rfl⟩ r_X2_ease) (ab_cs_cons (ab_kV c_X2_goToEnd ml_X3_39 v_X2_goToEnd ⟨rfl, rfl⟩ r_X2_goToEnd) ab_cs_nil))) ?_ ?_
  · intro as M Po h
    unfold s_X3_daysIfEased at h
    split at h
    · simp [ab_e0]
    · exact h.elim
  · intro as M Po h G hG
    unfold s_X3_daysIfEased at h
    split at h
    · simp only [ab_en, ab_e0, List.length_cons, List.length_nil, Nat.reduceAdd, Nat.reduceSub, List.replicate, List.cons_append, List.nil_append]
      have key := lp_X3_daysIfEased hG (m := M.1 18 3) (d := M.1 18 4) (p := M.1 18 5) (f := M.1 19) h
      rw [show mw M 18 (M.1 18 3) (M.1 18 4) (M.1 18 5) (M.1 19) = M from mw_id] at key
      exact key
    · exact h.elim

theorem fw_w18 {M : ab_M} {m d p x : Int32} {f : Nat → Int32} {Po : ab_P} : s_X2_followWith [.ref 18, .ref 12, .int x] (mw M 18 m d p f) Po = Po none (mw M 18 (M.1 12 3) (M.1 12 4) x (fi_5 (M.1 13) f)) := by
  rw [q_X2_followWith]
  simp only [n18_3, n18_4, n18_t, mw_mw, w_rt18]
def ms_X (M : ab_M) (x : Int32) : Int32 := if x = 0 then M.1 3 5 else (its_X M 5 (M.1 12 3, M.1 12 4, x, M.1 13)).1
def s_X3_mileOfSome : ab_Sem := fun as M Po => match as with
  | [.ref 16, .int x] => ∀ s : mr_T, Po (some (.int (ms_X M x))) (mws M 18 s)
  | _ => False
theorem q_X3_mileOfSome {x : Int32} {M : ab_M} {Po : ab_P} : s_X3_mileOfSome [.ref 16, .int x] M Po = (∀ s : mr_T, Po (some (.int (ms_X M x))) (mws M 18 s)) := rfl
abbrev x_X3_mileOfSome : ab_X := (some .int, fl_X3, [(234, 1, s_X2_end), (240, 3, s_X2_followWith), (56, 2, s_X2_goDays), (64, 1, s_X2_mile)], kl_X3, gs_X3, ab_ros)
theorem ca_X3_mileOfSome_117 {v0 : Value} {st : List Value} {M : ab_M} {k : List Value → ab_M → Prop} : ab_ca x_X3_mileOfSome (2 * 117) (v0 :: st) M k = (st.length ≤ 4 ∧ s_X2_end [v0] M (fun r M' => k (r.toList ++ st) M')) := rfl
theorem ca_X3_mileOfSome_120 {v0 v1 v2 : Value} {st : List Value} {M : ab_M} {k : List Value → ab_M → Prop} : ab_ca x_X3_mileOfSome (2 * 120) (v2 :: v1 :: v0 :: st) M k = (st.length ≤ 4 ∧ s_X2_followWith [v0, v1, v2] M (fun r M' => k (r.toList ++ st) M')) := rfl
theorem ca_X3_mileOfSome_28 {v0 v1 : Value} {st : List Value} {M : ab_M} {k : List Value → ab_M → Prop} : ab_ca x_X3_mileOfSome (2 * 28) (v1 :: v0 :: st) M k = (st.length ≤ 4 ∧ s_X2_goDays [v0, v1] M (fun r M' => k (r.toList ++ st) M')) := rfl
theorem ca_X3_mileOfSome_32 {v0 : Value} {st : List Value} {M : ab_M} {k : List Value → ab_M → Prop} : ab_ca x_X3_mileOfSome (2 * 32) (v0 :: st) M k = (st.length ≤ 4 ∧ s_X2_mile [v0] M (fun r M' => k (r.toList ++ st) M')) := rfl
theorem r_X3_mileOfSome : ∀ (as : List Value) (M : ab_M) (Po : ab_P), s_X3_mileOfSome as M Po → ∃ (q : Nat) (as' : List Value) (ci : Nat) (T : u_T) (N : Nat) (fs : List ab_F), as = .ref q :: as' ∧ ab_sh[q]? = some (.inl (ci, fs)) ∧ vwCl[ci]? = some (yX3_mileOfSome.cls, T, N) := by
  intro as M Po h
  unfold s_X3_mileOfSome at h
  split at h
  · first | exact ⟨_, _, 3, _, _, _, rfl, rfl, rfl⟩ | (rcases h.1 with rfl | rfl | rfl <;> exact ⟨_, _, 3, _, _, _, rfl, rfl, rfl⟩)
  · exact h.elim
set_option maxRecDepth 20000 in
set_option maxHeartbeats 4000000 in
theorem lp_X3_mileOfSome {G : ab_K} {Po : ab_P} (hG : ab_Clo cX3_mileOfSome x_X3_mileOfSome Po G) {M : ab_M} {m d p : Int32} {f : Nat → Int32} {x : Int32} (h : ∀ s : mr_T, Po (some (.int (ms_X M x))) (mws M 18 s)) : G 0 [some (.ref 16), some (.int x)] [] (mw M 18 m d p f) := by
  refine ab_go hG [] 80 _ _ _ _ ?_
  simp (decide := true) only [ew_n, ew_0, Option.toList_some, Option.toList_none, List.cons_append, List.nil_append, true_and, and_true, List.length_cons, List.length_nil, Nat.reduceAdd, Nat.reduceLeDiff, Int32.reduceAdd, Int32.reduceSub, Int32.reduceMul, Int32.reduceLT, Int32.reduceLE, ↓reduceIte, and_self, si_1, si_2, sl_1, sl_2, false_and, and_false, dX3_mileOfSome_0, dX3_mileOfSome_1, dX3_mileOfSome_4, dX3_mileOfSome_5, dX3_mileOfSome_8, dX3_mileOfSome_11, dX3_mileOfSome_12, dX3_mileOfSome_13, dX3_mileOfSome_16, dX3_mileOfSome_17, dX3_mileOfSome_20, dX3_mileOfSome_21, dX3_mileOfSome_24, dX3_mileOfSome_25, dX3_mileOfSome_28, dX3_mileOfSome_29, dX3_mileOfSome_32, dX3_mileOfSome_33, dX3_mileOfSome_36, dX3_mileOfSome_39, ca_X3_mileOfSome_117, ca_X3_mileOfSome_120, ca_X3_mileOfSome_28, ca_X3_mileOfSome_32, e_aload_n0, e_callv, e_getfield, e_iload_n1, e_ireturn, gf_X3_15_16, gf_X3_19_16, j_ic_5, j_if_ne_1_11, q_X2_end, q_X2_mile, t60, t5, t3, fq_w18, dq_w18, eq_g18, et_w18, eq_w18, gq_w18, mws, w_rt12, w_pc12, w_kd12, w_nm12, w_td12, w_sa12, w_go12, w_pr12, w_ea12, w_ld12, w_he12, w_th12, w_si12, w_wt12, w_o35_12, w_o34_12, w_o83_12, w_rt18, w_pc18, w_kd18, w_nm18, w_td18, w_sa18, w_go18, w_pr18, w_ea18, w_ld18, w_he18, w_th18, w_si18, w_wt18, w_o35_18, w_o34_18, w_o83_18, w_rt23, w_pc23, w_kd23, w_nm23, w_td23, w_sa23, w_go23, w_pr23, w_ea23, w_ld23, w_he23, w_th23, w_si23, w_wt23, w_o35_23, w_o34_23, w_o83_23, mw_3, mw_4, mw_5, mw_r3, mw_r4, mw_r5, pr_ite, ea_ite, fw_w18, ab_rn, bi_0, bi_1, ite_not]
  unfold ms_X at h
  split
  · rename_i hx
    rw [if_pos hx] at h
    exact h (m, d, p, f)
  · rename_i hx
    rw [if_neg hx] at h
    have e : m5 (M.1 12 3, M.1 12 4, x, fi_5 (M.1 13) f) (M.1 12 3, M.1 12 4, x, M.1 13) := m5_mk (fi_e5 _ _)
    rw [← (its_m5 e 5).1] at h
    exact h (its_X M 5 (M.1 12 3, M.1 12 4, x, fi_5 (M.1 13) f))
set_option maxRecDepth 20000 in
set_option maxHeartbeats 4000000 in
theorem c_X3_mileOfSome {l : Launch} : ab_ctr l yX3_mileOfSome cX3_mileOfSome 2 (some .int) 4 94 s_X3_mileOfSome := by
  refine ab_met x_X3_mileOfSome (by decide) rfl fo_X3 ko_X3 so_X3 rfl (ab_cs_cons (ab_kV c_X2_end ml_X3_117 v_X2_end ⟨rfl, rfl⟩ r_X2_end) (ab_cs_cons (ab_kV c_X2_followWith ml_X3_120 v_X2_followWith ⟨rfl, rfl⟩ r_X2_followWith) (ab_cs_cons (ab_kV c_X2_goDays ml_X3_28 v_X2_goDays ⟨rfl, rfl⟩ r_X2_goDays) (ab_cs_cons (ab_kV c_X2_mile ml_X3_32 v_X2_mile ⟨rfl, rfl⟩ r_X2_mile) ab_cs_nil)))) ?_ ?_
  · intro as M Po h
    unfold s_X3_mileOfSome at h
    split at h
    · simp [ab_e0]
    · exact h.elim
  · intro as M Po h G hG
    unfold s_X3_mileOfSome at h
    split at h
    · simp only [ab_en, ab_e0, List.length_cons, List.length_nil, Nat.reduceAdd, Nat.reduceSub, List.replicate, List.cons_append, List.nil_append]
      have key := lp_X3_mileOfSome hG (m := M.1 18 3) (d := M.1 18 4) (p := M.1 18 5) (f := M.1 19) h
      rw [show mw M 18 (M.1 18 3) (M.1 18 4) (M.1 18 5) (M.1 19) = M from mw_id] at key
      exact key
    · exact h.elim

