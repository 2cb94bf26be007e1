/-! METHODS: Outlook, doings -/
theorem pq_w18 {M : ab_M} {m d p x : Int32} {f : Nat → Int32} {Po : ab_P} : s_X2_prick [.ref 18, .int x] (mw M 18 m d p f) Po = Po none (mw M 18 m d p (pr_X M f x)) := by
  rw [q_X2_prick, w_o83_18, ← pr_ite]
  simp only [Nat.reduceAdd, w_rt18, w_si18]
  simp
theorem st_w18 {M : ab_M} {m d p : Int32} {f : Nat → Int32} : st_X (mw M 18 m d p f) = st_X M := by
  funext s
  simp only [st_X, w_he18]
theorem sq_w18 {M : ab_M} {m d p : Int32} {f : Nat → Int32} {Po : ab_P} : s_X2_stay [.ref 18] (mw M 18 m d p f) Po = Po none (mws M 18 (st_X M (m, d, p, f))) := by
  rw [q_X2_stay, st_w18, mrs_w18, mws_w18]
  simp
theorem kq_w18 {M : ab_M} {m d p x : Int32} {f : Nat → Int32} {Po : ab_P} : s_X2_canPrick [.ref 18, .int x] (mw M 18 m d p f) Po = Po (some (.int (if (¬ x < 0 ∧ x < M.1 8 3 ∧ x < 5) ∧ tf_X f x < 9 then 1 else 0))) (mw M 18 m d p f) := propext ⟨fun h => h.2, fun h => ⟨by decide, h⟩⟩
theorem jq_w18 {M : ab_M} {m d p x : Int32} {f : Nat → Int32} {Po : ab_P} : s_X2_canEase [.ref 18, .int x] (mw M 18 m d p f) Po = Po (some (.int (if (¬ x < 0 ∧ x < M.1 8 3 ∧ x < 5) ∧ 0 < tf_X f x then 1 else 0))) (mw M 18 m d p f) := propext ⟨fun h => h.2, fun h => ⟨by decide, h⟩⟩
theorem hq_w18 {M : ab_M} {m d p x : Int32} {f : Nat → Int32} {Po : ab_P} : s_X2_thornsOf [.ref 18, .int x] (mw M 18 m d p f) Po = Po (some (.int (tf_X f x))) (mw M 18 m d p f) := propext ⟨fun h => h.2, fun h => ⟨by decide, h⟩⟩
theorem mq_w18 {M : ab_M} {m d p : Int32} {f : Nat → Int32} {Po : ab_P} : s_X2_mile [.ref 18] (mw M 18 m d p f) Po = Po (some (.int m)) (mw M 18 m d p f) := propext ⟨fun h => h.2, fun h => ⟨by decide, h⟩⟩
theorem pq_w23 {M : ab_M} {m d p x : Int32} {f : Nat → Int32} {Po : ab_P} : s_X2_prick [.ref 23, .int x] (mw M 23 m d p f) Po = Po none (mw M 23 m d p (pr_X M f x)) := by
  rw [q_X2_prick, w_o83_23, ← pr_ite]
  simp only [Nat.reduceAdd, w_rt23, w_si23]
  simp
theorem st_w23 {M : ab_M} {m d p : Int32} {f : Nat → Int32} : st_X (mw M 23 m d p f) = st_X M := by
  funext s
  simp only [st_X, w_he23]
theorem sq_w23 {M : ab_M} {m d p : Int32} {f : Nat → Int32} {Po : ab_P} : s_X2_stay [.ref 23] (mw M 23 m d p f) Po = Po none (mws M 23 (st_X M (m, d, p, f))) := by
  rw [q_X2_stay, st_w23, mrs_w23, mws_w23]
  simp
theorem kq_w23 {M : ab_M} {m d p x : Int32} {f : Nat → Int32} {Po : ab_P} : s_X2_canPrick [.ref 23, .int x] (mw M 23 m d p f) Po = Po (some (.int (if (¬ x < 0 ∧ x < M.1 8 3 ∧ x < 5) ∧ tf_X f x < 9 then 1 else 0))) (mw M 23 m d p f) := propext ⟨fun h => h.2, fun h => ⟨by decide, h⟩⟩
theorem jq_w23 {M : ab_M} {m d p x : Int32} {f : Nat → Int32} {Po : ab_P} : s_X2_canEase [.ref 23, .int x] (mw M 23 m d p f) Po = Po (some (.int (if (¬ x < 0 ∧ x < M.1 8 3 ∧ x < 5) ∧ 0 < tf_X f x then 1 else 0))) (mw M 23 m d p f) := propext ⟨fun h => h.2, fun h => ⟨by decide, h⟩⟩
theorem hq_w23 {M : ab_M} {m d p x : Int32} {f : Nat → Int32} {Po : ab_P} : s_X2_thornsOf [.ref 23, .int x] (mw M 23 m d p f) Po = Po (some (.int (tf_X f x))) (mw M 23 m d p f) := propext ⟨fun h => h.2, fun h => ⟨by decide, h⟩⟩
theorem mq_w23 {M : ab_M} {m d p : Int32} {f : Nat → Int32} {Po : ab_P} : s_X2_mile [.ref 23] (mw M 23 m d p f) Po = Po (some (.int m)) (mw M 23 m d p f) := propext ⟨fun h => h.2, fun h => ⟨by decide, h⟩⟩
/-- a doing of one man, and what is so: 1 or 0, and the march behind it -/
def dp_X (M : ab_M) (s : mr_T) (a b : Int32) : Int32 × mr_T :=
  if a = 0 then (if b = 0 then 1 else 0, dy_X M s)
  else if a = 1 then (if b = 0 then 1 else 0, st_X M s)
  else if a = 2 then (if (¬ b < 0 ∧ b < M.1 8 3 ∧ b < 5) ∧ tf_X s.2.2.2 b < 9 then 1 else 0, (s.1, s.2.1, s.2.2.1, pr_X M s.2.2.2 b))
  else if a = 3 then (if (¬ b < 0 ∧ b < M.1 8 3 ∧ b < 5) ∧ 0 < tf_X s.2.2.2 b then 1 else 0, (s.1, s.2.1, s.2.2.1, ea_X M s.2.2.2 b))
  else if a = 4 then (if ld_X M s.2.2.1 s.2.2.2 = b then 1 else 0, s)
  else (0, s)
def ds_X (M : ab_M) (s : mr_T) (a c b : Int32) : Int32 × mr_T :=
  if a = 5 then (if c < M.1 8 3 ∧ ¬ tf_X s.2.2.2 c < b then 1 else 0, s)
  else if a = 6 then (if s.1 < 10 * c + b then 0 else 1, s)
  else if c = 0 then (if (dp_X M s a b).1 = 0 then 0 else 1, (dp_X M s a b).2)
  else (0, s)
def s_X3_doesPlain : ab_Sem := fun as M Po => match as with
  | [.ref 16, .int a, .int b] => Po (some (.int (dp_X M (mrs M 18) a b).1)) (mws M 18 (dp_X M (mrs M 18) a b).2)
  | _ => False
theorem q_X3_doesPlain {a b : Int32} {M : ab_M} {Po : ab_P} : s_X3_doesPlain [.ref 16, .int a, .int b] M Po = (Po (some (.int (dp_X M (mrs M 18) a b).1)) (mws M 18 (dp_X M (mrs M 18) a b).2)) := rfl
abbrev x_X3_doesPlain : ab_X := (some .boolean, fl_X3, [(86, 1, s_X2_goDay), (194, 1, s_X2_stay), (200, 2, s_X2_canPrick), (206, 2, s_X2_prick), (98, 2, s_X2_canEase), (112, 2, s_X2_ease), (72, 1, s_X2_leader)], kl_X3, gs_X3, ab_ros)
theorem ca_X3_doesPlain_43 {v0 : Value} {st : List Value} {M : ab_M} {k : List Value → ab_M → Prop} : ab_ca x_X3_doesPlain (2 * 43) (v0 :: st) M k = (st.length ≤ 4 ∧ s_X2_goDay [v0] M (fun r M' => k (r.toList ++ st) M')) := rfl
theorem ca_X3_doesPlain_97 {v0 : Value} {st : List Value} {M : ab_M} {k : List Value → ab_M → Prop} : ab_ca x_X3_doesPlain (2 * 97) (v0 :: st) M k = (st.length ≤ 4 ∧ s_X2_stay [v0] M (fun r M' => k (r.toList ++ st) M')) := rfl
theorem ca_X3_doesPlain_100 {v0 v1 : Value} {st : List Value} {M : ab_M} {k : List Value → ab_M → Prop} : ab_ca x_X3_doesPlain (2 * 100) (v1 :: v0 :: st) M k = (st.length ≤ 4 ∧ s_X2_canPrick [v0, v1] M (fun r M' => k (r.toList ++ st) M')) := rfl
theorem ca_X3_doesPlain_103 {v0 v1 : Value} {st : List Value} {M : ab_M} {k : List Value → ab_M → Prop} : ab_ca x_X3_doesPlain (2 * 103) (v1 :: v0 :: st) M k = (st.length ≤ 4 ∧ s_X2_prick [v0, v1] M (fun r M' => k (r.toList ++ st) M')) := rfl
theorem ca_X3_doesPlain_49 {v0 v1 : Value} {st : List Value} {M : ab_M} {k : List Value → ab_M → Prop} : ab_ca x_X3_doesPlain (2 * 49) (v1 :: v0 :: st) M k = (st.length ≤ 4 ∧ s_X2_canEase [v0, v1] M (fun r M' => k (r.toList ++ st) M')) := rfl
theorem ca_X3_doesPlain_56 {v0 v1 : Value} {st : List Value} {M : ab_M} {k : List Value → ab_M → Prop} : ab_ca x_X3_doesPlain (2 * 56) (v1 :: v0 :: st) M k = (st.length ≤ 4 ∧ s_X2_ease [v0, v1] M (fun r M' => k (r.toList ++ st) M')) := rfl
theorem ca_X3_doesPlain_36 {v0 : Value} {st : List Value} {M : ab_M} {k : List Value → ab_M → Prop} : ab_ca x_X3_doesPlain (2 * 36) (v0 :: st) M k = (st.length ≤ 4 ∧ s_X2_leader [v0] M (fun r M' => k (r.toList ++ st) M')) := rfl
theorem r_X3_doesPlain : ∀ (as : List Value) (M : ab_M) (Po : ab_P), s_X3_doesPlain as M Po → ∃ (q : Nat) (as' : List Value) (ci : Nat) (T : u_T) (N : Nat) (fs : List ab_F), as = .ref q :: as' ∧ ab_sh[q]? = some (.inl (ci, fs)) ∧ vwCl[ci]? = some (yX3_doesPlain.cls, T, N) := by
  intro as M Po h
  unfold s_X3_doesPlain at h
  split at h
  · first | exact ⟨_, _, 3, _, _, _, rfl, rfl, rfl⟩ | (rcases h.1 with rfl | rfl | rfl <;> exact ⟨_, _, 3, _, _, _, rfl, rfl, rfl⟩)
  · exact h.elim
set_option maxRecDepth 20000 in
set_option maxHeartbeats 4000000 in
theorem lp_X3_doesPlain {G : ab_K} {Po : ab_P} (hG : ab_Clo cX3_doesPlain x_X3_doesPlain Po G) {M : ab_M} {m d p a b : Int32} {f : Nat → Int32} (h : Po (some (.int (dp_X M (m, d, p, f) a b).1)) (mws M 18 (dp_X M (m, d, p, f) a b).2)) : G 0 [some (.ref 16), some (.int a), some (.int b), none] [] (mw M 18 m d p f) := by
  refine ab_go hG [] 80 _ _ _ _ ?_
  simp (decide := true) only [ew_n, ew_0, Option.toList_some, Option.toList_none, List.cons_append, List.nil_append, true_and, and_true, List.length_cons, List.length_nil, Nat.reduceAdd, Nat.reduceLeDiff, Int32.reduceAdd, Int32.reduceSub, Int32.reduceMul, Int32.reduceLT, Int32.reduceLE, ↓reduceIte, and_self, si_1, si_2, sl_1, sl_2, false_and, and_false, dX3_doesPlain_0, dX3_doesPlain_1, dX3_doesPlain_36, dX3_doesPlain_37, dX3_doesPlain_40, dX3_doesPlain_43, dX3_doesPlain_44, dX3_doesPlain_45, dX3_doesPlain_48, dX3_doesPlain_49, dX3_doesPlain_52, dX3_doesPlain_53, dX3_doesPlain_54, dX3_doesPlain_55, dX3_doesPlain_58, dX3_doesPlain_61, dX3_doesPlain_62, dX3_doesPlain_65, dX3_doesPlain_66, dX3_doesPlain_69, dX3_doesPlain_70, dX3_doesPlain_71, dX3_doesPlain_72, dX3_doesPlain_75, dX3_doesPlain_76, dX3_doesPlain_79, dX3_doesPlain_80, dX3_doesPlain_81, dX3_doesPlain_84, dX3_doesPlain_85, dX3_doesPlain_88, dX3_doesPlain_89, dX3_doesPlain_90, dX3_doesPlain_91, dX3_doesPlain_94, dX3_doesPlain_95, dX3_doesPlain_98, dX3_doesPlain_99, dX3_doesPlain_100, dX3_doesPlain_103, dX3_doesPlain_104, dX3_doesPlain_107, dX3_doesPlain_108, dX3_doesPlain_109, dX3_doesPlain_110, dX3_doesPlain_113, dX3_doesPlain_116, dX3_doesPlain_117, dX3_doesPlain_120, dX3_doesPlain_121, dX3_doesPlain_124, dX3_doesPlain_125, dX3_doesPlain_126, dX3_doesPlain_127, ca_X3_doesPlain_100, ca_X3_doesPlain_103, ca_X3_doesPlain_36, ca_X3_doesPlain_43, ca_X3_doesPlain_49, ca_X3_doesPlain_56, ca_X3_doesPlain_97, e_aload_n0, e_callv, e_getfield, e_iload_n1, e_iload_n2, e_iload_n3, e_ireturn, e_istore_n3i, e_istore_n3n, e_istore_n3r, e_pop, gf_X3_19_16, j_goto_121_4, j_goto_49_4, j_goto_66_4, j_ic_0, j_ic_1, j_icmp_ne_117_7, j_if_ne_45_7, j_if_ne_62_7, j_sw_X3_doesPlain_1, pq_w18, sq_w18, kq_w18, jq_w18, hq_w18, mq_w18, eq_w18, gq_w18, lq_w18, qm_w18, ab_rn, bi_0, bi_1, ite_not]
  unfold dp_X at h
  split
  · rename_i h0
    simp only [if_pos h0] at h
    split
    · rename_i h1
      rw [if_pos h1] at h
      exact h
    · rename_i h1
      rw [if_neg h1] at h
      exact h
  · rename_i h0
    simp only [if_neg h0] at h
    split
    · rename_i h0
      simp only [if_pos h0] at h
      split
      · rename_i h1
        rw [if_pos h1] at h
        exact h
      · rename_i h1
        rw [if_neg h1] at h
        exact h
    · rename_i h0
      simp only [if_neg h0] at h
      split
      · rename_i h0
        simp only [if_pos h0] at h
        exact ⟨(Classical.em _).symm, h⟩
      · rename_i h0
        simp only [if_neg h0] at h
        split
        · rename_i h0
          simp only [if_pos h0] at h
          exact ⟨(Classical.em _).symm, h⟩
        · rename_i h0
          simp only [if_neg h0] at h
          split
          · rename_i h0
            simp only [if_pos h0] at h
            split
            · rename_i h1
              rw [if_pos h1] at h
              exact h
            · rename_i h1
              rw [if_neg h1] at h
              exact h
          · rename_i h0
            simp only [if_neg h0] at h
            exact h
set_option maxRecDepth 20000 in
set_option maxHeartbeats 4000000 in
theorem c_X3_doesPlain {l : Launch} : ab_ctr l yX3_doesPlain cX3_doesPlain 4 (some .boolean) 3 72 s_X3_doesPlain := by
  refine ab_met x_X3_doesPlain (by decide) rfl fo_X3 ko_X3 so_X3 rfl (ab_cs_cons (ab_kV c_X2_goDay ml_X3_43 v_X2_goDay ⟨rfl, rfl⟩ r_X2_goDay) (ab_cs_cons (ab_kV c_X2_stay ml_X3_97 v_X2_stay ⟨rfl, rfl⟩ r_X2_stay) (ab_cs_cons (ab_kV c_X2_canPrick ml_X3_100 v_X2_canPrick ⟨rfl, rfl⟩ r_X2_canPrick) (ab_cs_cons (ab_kV c_X2_prick ml_X3_103 v_X2_prick ⟨rfl, rfl⟩ r_X2_prick) (ab_cs_cons (ab_kV c_X2_canEase ml_X3_49 v_X2_canEase ⟨rfl, rfl⟩ r_X2_canEase) (ab_cs_cons (ab_kV c_X2_ease ml_X3_56 v_X2_ease ⟨rfl, rfl⟩ r_X2_ease) (ab_cs_cons (ab_kV c_X2_leader ml_X3_36 v_X2_leader ⟨rfl, rfl⟩ r_X2_leader) ab_cs_nil))))))) ?_ ?_
  · intro as M Po h
    unfold s_X3_doesPlain at h
    split at h
    · simp [ab_e0]
    · exact h.elim
  · intro as M Po h G hG
    unfold s_X3_doesPlain at h
    split at h
    · simp only [ab_en, ab_e0, List.length_cons, List.length_nil, Nat.reduceAdd, Nat.reduceSub, List.replicate, List.cons_append, List.nil_append]
      have key := lp_X3_doesPlain hG (m := M.1 18 3) (d := M.1 18 4) (p := M.1 18 5) (f := M.1 19) h
      rw [show mw M 18 (M.1 18 3) (M.1 18 4) (M.1 18 5) (M.1 19) = M from mw_id] at key
      exact key
    · exact h.elim

theorem dp_w18 {M : ab_M} {m d p : Int32} {f : Nat → Int32} : dp_X (mw M 18 m d p f) = dp_X M := by
  funext s a b
  unfold dp_X
  rw [dy_w18, st_w18, w_pr18, w_ea18, w_ld18]
  rfl
theorem dpq_w18 {M : ab_M} {m d p a b : Int32} {f : Nat → Int32} {Po : ab_P} : s_X3_doesPlain [.ref 16, .int a, .int b] (mw M 18 m d p f) Po = Po (some (.int (dp_X M (m, d, p, f) a b).1)) (mws M 18 (dp_X M (m, d, p, f) a b).2) := by
  rw [q_X3_doesPlain, dp_w18, mrs_w18, mws_w18]
def s_X3_does : ab_Sem := fun as M Po => match as with
  | [.ref 16, .int a, .int c, .int b] => Po (some (.int (ds_X M (mrs M 18) a c b).1)) (mws M 18 (ds_X M (mrs M 18) a c b).2)
  | _ => False
theorem q_X3_does {a c b : Int32} {M : ab_M} {Po : ab_P} : s_X3_does [.ref 16, .int a, .int c, .int b] M Po = (Po (some (.int (ds_X M (mrs M 18) a c b).1)) (mws M 18 (ds_X M (mrs M 18) a c b).2)) := rfl
abbrev x_X3_does : ab_X := (some .boolean, fl_X3, [(92, 1, s_X2_menCount), (152, 2, s_X2_thornsOf), (64, 1, s_X2_mile), (188, 3, s_X3_doesPlain)], kl_X3, gs_X3, ab_ros)
theorem ca_X3_does_46 {v0 : Value} {st : List Value} {M : ab_M} {k : List Value → ab_M → Prop} : ab_ca x_X3_does (2 * 46) (v0 :: st) M k = (st.length ≤ 4 ∧ s_X2_menCount [v0] M (fun r M' => k (r.toList ++ st) M')) := rfl
theorem ca_X3_does_76 {v0 v1 : Value} {st : List Value} {M : ab_M} {k : List Value → ab_M → Prop} : ab_ca x_X3_does (2 * 76) (v1 :: v0 :: st) M k = (st.length ≤ 4 ∧ s_X2_thornsOf [v0, v1] M (fun r M' => k (r.toList ++ st) M')) := rfl
theorem ca_X3_does_32 {v0 : Value} {st : List Value} {M : ab_M} {k : List Value → ab_M → Prop} : ab_ca x_X3_does (2 * 32) (v0 :: st) M k = (st.length ≤ 4 ∧ s_X2_mile [v0] M (fun r M' => k (r.toList ++ st) M')) := rfl
theorem ca_X3_does_94 {v0 v1 v2 : Value} {st : List Value} {M : ab_M} {k : List Value → ab_M → Prop} : ab_ca x_X3_does (2 * 94) (v2 :: v1 :: v0 :: st) M k = (st.length ≤ 4 ∧ s_X3_doesPlain [v0, v1, v2] M (fun r M' => k (r.toList ++ st) M')) := rfl
theorem r_X3_does : ∀ (as : List Value) (M : ab_M) (Po : ab_P), s_X3_does as M Po → ∃ (q : Nat) (as' : List Value) (ci : Nat) (T : u_T) (N : Nat) (fs : List ab_F), as = .ref q :: as' ∧ ab_sh[q]? = some (.inl (ci, fs)) ∧ vwCl[ci]? = some (yX3_does.cls, T, N) := by
  intro as M Po h
  unfold s_X3_does at h
  split at h
  · first | exact ⟨_, _, 3, _, _, _, rfl, rfl, rfl⟩ | (rcases h.1 with rfl | rfl | rfl <;> exact ⟨_, _, 3, _, _, _, rfl, rfl, rfl⟩)
  · exact h.elim
set_option maxRecDepth 20000 in
set_option maxHeartbeats 4000000 in
theorem lp_X3_does {G : ab_K} {Po : ab_P} (hG : ab_Clo cX3_does x_X3_does Po G) {M : ab_M} {m d p a c b : Int32} {f : Nat → Int32} (h : Po (some (.int (ds_X M (m, d, p, f) a c b).1)) (mws M 18 (ds_X M (m, d, p, f) a c b).2)) : G 0 [some (.ref 16), some (.int a), some (.int c), some (.int b)] [] (mw M 18 m d p f) := by
  refine ab_go hG [] 80 _ _ _ _ ?_
  simp (decide := true) only [ew_n, ew_0, Option.toList_some, Option.toList_none, List.cons_append, List.nil_append, true_and, and_true, List.length_cons, List.length_nil, Nat.reduceAdd, Nat.reduceLeDiff, Int32.reduceAdd, Int32.reduceSub, Int32.reduceMul, Int32.reduceLT, Int32.reduceLE, ↓reduceIte, and_self, si_1, si_2, sl_1, sl_2, false_and, and_false, dX3_does_0, dX3_does_1, dX3_does_2, dX3_does_5, dX3_does_6, dX3_does_7, dX3_does_10, dX3_does_13, dX3_does_16, dX3_does_17, dX3_does_20, dX3_does_21, dX3_does_24, dX3_does_25, dX3_does_28, dX3_does_29, dX3_does_32, dX3_does_33, dX3_does_34, dX3_does_35, dX3_does_37, dX3_does_40, dX3_does_41, dX3_does_44, dX3_does_47, dX3_does_49, dX3_does_50, dX3_does_51, dX3_does_52, dX3_does_53, dX3_does_56, dX3_does_57, dX3_does_60, dX3_does_61, dX3_does_62, dX3_does_63, dX3_does_66, dX3_does_67, dX3_does_68, dX3_does_69, dX3_does_72, dX3_does_75, dX3_does_76, dX3_does_79, dX3_does_80, ca_X3_does_32, ca_X3_does_46, ca_X3_does_76, ca_X3_does_94, e_aload_n0, e_callv, e_getfield, e_iadd, e_iload_n1, e_iload_n2, e_iload_n3, e_imul, e_ireturn, gf_X3_15_16, gf_X3_19_16, j_bp_10, j_bp_6, j_goto_29_4, j_goto_57_4, j_goto_76_4, j_ic_0, j_ic_1, j_ic_5, j_icmp_ge_13_19, j_icmp_lt_25_7, j_icmp_lt_53_7, j_icmp_ne_2_32, j_icmp_ne_37_25, j_if_eq_72_7, j_if_ne_63_16, pq_w18, sq_w18, kq_w18, jq_w18, hq_w18, mq_w18, eq_w18, gq_w18, lq_w18, qm_w18, dpq_w18, ab_rn, bi_0, bi_1, ite_not]
  unfold ds_X at h
  by_cases h0 : a = 5
  · simp only [if_pos h0] at h ⊢
    by_cases h1 : c < M.1 8 3
    · rw [if_pos h1]
      by_cases h2 : tf_X f c < b
      · rw [if_pos h2]
        rw [if_neg (fun hh => hh.2 h2)] at h
        exact h
      · rw [if_neg h2]
        rw [if_pos ⟨h1, h2⟩] at h
        exact h
    · rw [if_neg h1]
      rw [if_neg (fun hh => h1 hh.1)] at h
      exact h
  · simp only [if_neg h0] at h ⊢
    by_cases h1 : a = 6
    · simp only [if_pos h1] at h ⊢
      by_cases h2 : m < 10 * c + b
      · rw [if_pos h2] at h ⊢
        exact h
      · rw [if_neg h2] at h ⊢
        exact h
    · simp only [if_neg h1] at h ⊢
      by_cases h2 : c = 0
      · simp only [if_pos h2] at h ⊢
        by_cases h3 : (dp_X M (m, d, p, f) a b).1 = 0
        · rw [if_pos h3] at h ⊢
          exact h
        · rw [if_neg h3] at h ⊢
          exact h
      · simp only [if_neg h2] at h ⊢
        exact h
set_option maxRecDepth 20000 in
set_option maxHeartbeats 4000000 in
theorem c_X3_does {l : Launch} : ab_ctr l yX3_does cX3_does 4 (some .boolean) 4 95 s_X3_does := by
  refine ab_met x_X3_does (by decide) rfl fo_X3 ko_X3 so_X3 rfl (ab_cs_cons (ab_kV c_X2_menCount ml_X3_46 v_X2_menCount ⟨rfl, rfl⟩ r_X2_menCount) (ab_cs_cons (ab_kV c_X2_thornsOf ml_X3_76 v_X2_thornsOf ⟨rfl, rfl⟩ r_X2_thornsOf) (ab_cs_cons (ab_kV c_X2_mile ml_X3_32 v_X2_mile ⟨rfl, rfl⟩ r_X2_mile) (ab_cs_cons (ab_kV c_X3_doesPlain ml_X3_94 v_X3_doesPlain ⟨rfl, rfl⟩ r_X3_doesPlain) ab_cs_nil)))) ?_ ?_
  · intro as M Po h
    unfold s_X3_does at h
    split at h
    · simp [ab_e0]
    · exact h.elim
  · intro as M Po h G hG
    unfold s_X3_does at h
    split at h
    · simp only [ab_en, ab_e0, List.length_cons, List.length_nil, Nat.reduceAdd, Nat.reduceSub, List.replicate, List.cons_append, List.nil_append]
      have key := lp_X3_does hG (m := M.1 18 3) (d := M.1 18 4) (p := M.1 18 5) (f := M.1 19) h
      rw [show mw M 18 (M.1 18 3) (M.1 18 4) (M.1 18 5) (M.1 19) = M from mw_id] at key
      exact key
    · exact h.elim

