/-! METHODS: March, ease times, begin, follow, packed; Acts -/
def fi_5 (g f : Nat → Int32) : Nat → Int32 := fun i => if i < 5 then g i else f i
theorem up5 {f g : Nat → Int32} : fi_5 g f = up_f (up_f (up_f (up_f (up_f f 0 (g 0)) 1 (g 1)) 2 (g 2)) 3 (g 3)) 4 (g 4) := by
  funext i
  match i with
  | 0 => rfl
  | 1 => rfl
  | 2 => rfl
  | 3 => rfl
  | 4 => rfl
  | n + 5 =>
    have h5 : ¬ n + 5 < 5 := by omega
    simp [up_f, fi_5, h5]
theorem up5d {f g : Nat → Int32} : fi_5 g f = up_f (up_f (up_f (up_f (up_f f 4 (g 4)) 3 (g 3)) 2 (g 2)) 1 (g 1)) 0 (g 0) := by
  funext i
  match i with
  | 0 => rfl
  | 1 => rfl
  | 2 => rfl
  | 3 => rfl
  | 4 => rfl
  | n + 5 =>
    have h5 : ¬ n + 5 < 5 := by omega
    simp [up_f, fi_5, h5]
/-- a march in one number -/
def pk_1 (u : Int64) (x : Int32) : Int64 := (u <<< ((4 : Int32).toInt64 &&& 63)) ||| x.toInt64
def pk_X (d m : Int32) (f : Nat → Int32) : Int64 := pk_1 (pk_1 (pk_1 (pk_1 (pk_1 ((d.toInt64 <<< ((8 : Int32).toInt64 &&& 63)) ||| m.toInt64) (f 0)) (f 1)) (f 2)) (f 3)) (f 4)
def sh_4 (u : Int64) : Int64 := (u.toUInt64 >>> ((4 : Int32).toInt64.toUInt64 &&& Int64.toUInt64 63)).toInt64
def sh_8 (u : Int64) : Int64 := (u.toUInt64 >>> ((8 : Int32).toInt64.toUInt64 &&& Int64.toUInt64 63)).toInt64
def up_t (u : Int64) : Nat → Int32
  | 0 => (sh_4 (sh_4 (sh_4 (sh_4 u))) &&& 15).toInt32
  | 1 => (sh_4 (sh_4 (sh_4 u)) &&& 15).toInt32
  | 2 => (sh_4 (sh_4 u) &&& 15).toInt32
  | 3 => (sh_4 u &&& 15).toInt32
  | _ => (u &&& 15).toInt32
def up_m (u : Int64) : Int32 := (sh_4 (sh_4 (sh_4 (sh_4 (sh_4 u)))) &&& 255).toInt32
def up_d (u : Int64) : Int32 := (sh_8 (sh_4 (sh_4 (sh_4 (sh_4 (sh_4 u)))))).toInt32
def s_X2_follow : ab_Sem := fun as M Po => match as with
  | [.ref q, .ref r] => (q = 18 ∨ q = 23) ∧ r = 12 ∧ Po none (mw M q (M.1 12 3) (M.1 12 4) (-1) (fi_5 (M.1 13) (M.1 (q + 1))))
  | _ => False
theorem q_X2_follow {q r : Nat} {M : ab_M} {Po : ab_P} : s_X2_follow [.ref q, .ref r] M Po = ((q = 18 ∨ q = 23) ∧ r = 12 ∧ Po none (mw M q (M.1 12 3) (M.1 12 4) (-1) (fi_5 (M.1 13) (M.1 (q + 1))))) := rfl
abbrev x_X2_follow : ab_X := (none, fl_X2, [], kl_X2, gs_X2, ab_ros)
theorem r_X2_follow : ∀ (as : List Value) (M : ab_M) (Po : ab_P), s_X2_follow as M Po → ∃ (q : Nat) (as' : List Value) (ci : Nat) (T : u_T) (N : Nat) (fs : List ab_F), as = .ref q :: as' ∧ ab_sh[q]? = some (.inl (ci, fs)) ∧ vwCl[ci]? = some (yX2_follow.cls, T, N) := by
  intro as M Po h
  unfold s_X2_follow at h
  split at h
  · first | exact ⟨_, _, 2, _, _, _, rfl, rfl, rfl⟩ | (rcases h.1 with rfl | rfl <;> exact ⟨_, _, 2, _, _, _, rfl, rfl, rfl⟩)
  · exact h.elim
set_option maxRecDepth 20000 in
set_option maxHeartbeats 4000000 in
theorem lp_X2_follow {G : ab_K} {Po : ab_P} (hG : ab_Clo cX2_follow x_X2_follow Po G) {M : ab_M} {q : Nat} (hq : q = 18 ∨ q = 23) {m d p : Int32} {f : Nat → Int32} (h : Po none (mw M q (M.1 12 3) (M.1 12 4) (-1) (fi_5 (M.1 13) f))) : G 0 [some (.ref q), some (.ref 12), none] [] (mw M q m d p f) := by
  rw [up5] at h
  rcases hq with rfl | rfl
  all_goals
    refine ab_go hG [] 140 _ _ _ _ ?_
    simp (decide := true) only [ew_n, ew_0, Option.toList_some, Option.toList_none, List.cons_append, List.nil_append, true_and, and_true, List.length_cons, List.length_nil, Nat.reduceAdd, Nat.reduceLeDiff, Int32.reduceAdd, Int32.reduceSub, Int32.reduceMul, Int32.reduceLT, Int32.reduceLE, Int32.reduceToNatClampNeg, ↓reduceIte, and_self, si_1, si_2, sl_1, sl_2, false_and, and_false, dX2_follow_0, dX2_follow_1, dX2_follow_2, dX2_follow_5, dX2_follow_8, dX2_follow_9, dX2_follow_10, dX2_follow_13, dX2_follow_16, dX2_follow_17, dX2_follow_18, dX2_follow_21, dX2_follow_22, dX2_follow_23, dX2_follow_24, dX2_follow_25, dX2_follow_28, dX2_follow_29, dX2_follow_32, dX2_follow_33, dX2_follow_34, dX2_follow_37, dX2_follow_38, dX2_follow_41, dX2_follow_42, dX2_follow_45, dX2_follow_46, dX2_follow_47, dX2_follow_50, dX2_follow_51, dX2_follow_52, dX2_follow_53, dX2_follow_56, dX2_follow_59, e_alen, e_aload_n0, e_aload_n1, e_getfield, e_iaload, e_iastore, e_iload_n2, e_istore_n2i, e_istore_n2n, e_istore_n2r, e_putfield, e_return, ea_13, ea_19, ea_24, el_13, el_19, el_24, es_13, es_19, es_24, gf_X2_27_12, gf_X2_27_18, gf_X2_27_23, gf_X2_30_12, gf_X2_30_18, gf_X2_30_23, gf_X2_9_12, gf_X2_9_18, gf_X2_9_23, j_goto_56_m33, j_ic_0, j_ic_m1, j_icmp_ge_29_30, j_icmp_ge_38_21, j_ii_2_1, pf_X2_15_12, pf_X2_15_18, pf_X2_15_23, pf_X2_27_12, pf_X2_27_18, pf_X2_27_23, pf_X2_30_12, pf_X2_30_18, pf_X2_30_23, w_rt12, w_pc12, w_kd12, w_nm12, w_td12, w_sa12, w_go12, w_pr12, w_ea12, w_ld12, w_he12, w_th12, w_si12, w_wt12, w_o35_12, w_o34_12, w_o83_12, w_rt18, w_pc18, w_kd18, w_nm18, w_td18, w_sa18, w_go18, w_pr18, w_ea18, w_ld18, w_he18, w_th18, w_si18, w_wt18, w_o35_18, w_o34_18, w_o83_18, w_rt23, w_pc23, w_kd23, w_nm23, w_td23, w_sa23, w_go23, w_pr23, w_ea23, w_ld23, w_he23, w_th23, w_si23, w_wt23, w_o35_23, w_o34_23, w_o83_23, mw_3, mw_4, mw_5, mw_r3, mw_r4, mw_r5, pr_ite, ea_ite, show ∀ {M : ab_M} {m d p : Int32} {f : Nat → Int32}, (mw M 18 m d p f).1 12 3 = M.1 12 3 from rfl, show ∀ {M : ab_M} {m d p : Int32} {f : Nat → Int32}, (mw M 18 m d p f).1 12 4 = M.1 12 4 from rfl, show ∀ {M : ab_M} {m d p : Int32} {f : Nat → Int32}, (mw M 18 m d p f).1 13 = M.1 13 from rfl, show ∀ {M : ab_M} {m d p : Int32} {f : Nat → Int32}, (mw M 23 m d p f).1 12 3 = M.1 12 3 from rfl, show ∀ {M : ab_M} {m d p : Int32} {f : Nat → Int32}, (mw M 23 m d p f).1 12 4 = M.1 12 4 from rfl, show ∀ {M : ab_M} {m d p : Int32} {f : Nat → Int32}, (mw M 23 m d p f).1 13 = M.1 13 from rfl, ab_rn, bi_0, bi_1, ite_not]
    exact h
set_option maxRecDepth 20000 in
set_option maxHeartbeats 4000000 in
theorem c_X2_follow {l : Launch} : ab_ctr l yX2_follow cX2_follow 3 none 0 0 s_X2_follow := by
  refine ab_met x_X2_follow (by decide) rfl fo_X2 ko_X2 so_X2 rfl ab_cs_nil ?_ ?_
  · intro as M Po h
    unfold s_X2_follow at h
    split at h
    · simp [ab_e0]
    · exact h.elim
  · intro as M Po h G hG
    unfold s_X2_follow at h
    split at h
    · simp only [ab_en, ab_e0, List.length_cons, List.length_nil, Nat.reduceAdd, Nat.reduceSub, List.replicate, List.cons_append, List.nil_append]
      rename_i q r
      obtain ⟨hq, rfl, h⟩ := h
      have key := lp_X2_follow hG hq (m := M.1 q 3) (d := M.1 q 4) (p := M.1 q 5) (f := M.1 (q + 1)) h
      rw [mw_id] at key
      exact key
    · exact h.elim

def s_X2_followWith : ab_Sem := fun as M Po => match as with
  | [.ref 18, .ref 12, .int x] => Po none (mw M 18 (M.1 12 3) (M.1 12 4) x (fi_5 (M.1 13) (M.1 19)))
  | _ => False
theorem q_X2_followWith {x : Int32} {M : ab_M} {Po : ab_P} : s_X2_followWith [.ref 18, .ref 12, .int x] M Po = (Po none (mw M 18 (M.1 12 3) (M.1 12 4) x (fi_5 (M.1 13) (M.1 19)))) := rfl
abbrev x_X2_followWith : ab_X := (none, fl_X2, [(96, 2, s_X2_follow)], kl_X2, gs_X2, ab_ros)
theorem ca_X2_followWith_48 {v0 v1 : Value} {st : List Value} {M : ab_M} {k : List Value → ab_M → Prop} : ab_ca x_X2_followWith (2 * 48) (v1 :: v0 :: st) M k = (st.length ≤ 4 ∧ s_X2_follow [v0, v1] M (fun r M' => k (r.toList ++ st) M')) := rfl
theorem r_X2_followWith : ∀ (as : List Value) (M : ab_M) (Po : ab_P), s_X2_followWith as M Po → ∃ (q : Nat) (as' : List Value) (ci : Nat) (T : u_T) (N : Nat) (fs : List ab_F), as = .ref q :: as' ∧ ab_sh[q]? = some (.inl (ci, fs)) ∧ vwCl[ci]? = some (yX2_followWith.cls, T, N) := by
  intro as M Po h
  unfold s_X2_followWith at h
  split at h
  · first | exact ⟨_, _, 2, _, _, _, rfl, rfl, rfl⟩ | (rcases h.1 with rfl | rfl | rfl <;> exact ⟨_, _, 2, _, _, _, rfl, rfl, rfl⟩)
  · exact h.elim
set_option maxRecDepth 20000 in
set_option maxHeartbeats 4000000 in
theorem c_X2_followWith {l : Launch} : ab_ctr l yX2_followWith cX2_followWith 3 none 1 22 s_X2_followWith := by
  refine ab_met x_X2_followWith (by decide) rfl fo_X2 ko_X2 so_X2 rfl (ab_cs_cons (ab_kV c_X2_follow ml_X2_48 v_X2_follow ⟨rfl, rfl⟩ r_X2_follow) ab_cs_nil) ?_ ?_
  · intro as M Po h
    unfold s_X2_followWith at h
    split at h
    · simp [ab_e0]
    · exact h.elim
  · intro as M Po h G hG
    unfold s_X2_followWith at h
    split at h
    · simp only [ab_en, ab_e0, List.length_cons, List.length_nil, Nat.reduceAdd, Nat.reduceSub, List.replicate, List.cons_append, List.nil_append]
      refine ab_go hG [] 80 _ _ _ _ ?_
      simp (decide := true) only [ew_n, ew_0, Option.toList_some, Option.toList_none, List.cons_append, List.nil_append, true_and, and_true, List.length_cons, List.length_nil, Nat.reduceAdd, Nat.reduceLeDiff, Int32.reduceAdd, Int32.reduceSub, Int32.reduceMul, Int32.reduceLT, Int32.reduceLE, Int32.reduceToNatClampNeg, ↓reduceIte, and_self, si_1, si_2, sl_1, sl_2, false_and, and_false, dX2_followWith_0, dX2_followWith_1, dX2_followWith_2, dX2_followWith_5, dX2_followWith_6, dX2_followWith_7, dX2_followWith_10, ca_X2_followWith_48, e_aload_n0, e_aload_n1, e_callv, e_iload_n2, e_putfield, e_return, pf_X2_15_12, pf_X2_15_18, pf_X2_15_23, q_X2_follow, mw_5, ab_rn, bi_0, bi_1, ite_not]
      exact h
    · exact h.elim

def s_X2_begin : ab_Sem := fun as M Po => match as with
  | [.ref q] => q = 12 ∧ Po none (mw M q 0 0 (M.1 q 5) (fi_5 (fun i => td_X M (nI i)) (M.1 (q + 1))))
  | _ => False
theorem q_X2_begin {q : Nat} {M : ab_M} {Po : ab_P} : s_X2_begin [.ref q] M Po = (q = 12 ∧ Po none (mw M q 0 0 (M.1 q 5) (fi_5 (fun i => td_X M (nI i)) (M.1 (q + 1))))) := rfl
abbrev x_X2_begin : ab_X := (none, fl_X2, [(88, 2, s_X7_toldThornsOf)], kl_X2, gs_X2, ab_ros)
theorem ca_X2_begin_44 {v0 v1 : Value} {st : List Value} {M : ab_M} {k : List Value → ab_M → Prop} : ab_ca x_X2_begin (2 * 44) (v1 :: v0 :: st) M k = (st.length ≤ 4 ∧ s_X7_toldThornsOf [v0, v1] M (fun r M' => k (r.toList ++ st) M')) := rfl
theorem r_X2_begin : ∀ (as : List Value) (M : ab_M) (Po : ab_P), s_X2_begin as M Po → ∃ (q : Nat) (as' : List Value) (ci : Nat) (T : u_T) (N : Nat) (fs : List ab_F), as = .ref q :: as' ∧ ab_sh[q]? = some (.inl (ci, fs)) ∧ vwCl[ci]? = some (yX2_begin.cls, T, N) := by
  intro as M Po h
  unfold s_X2_begin at h
  split at h
  · first | exact ⟨_, _, 2, _, _, _, rfl, rfl, rfl⟩ | (rcases h.1 with rfl; exact ⟨_, _, 2, _, _, _, rfl, rfl, rfl⟩)
  · exact h.elim
set_option maxRecDepth 20000 in
set_option maxHeartbeats 4000000 in
theorem lp_X2_begin {G : ab_K} {Po : ab_P} (hG : ab_Clo cX2_begin x_X2_begin Po G) {M : ab_M} {q : Nat} (hq : q = 12) {m d p : Int32} {f : Nat → Int32} (h : Po none (mw M q 0 0 p (fi_5 (fun i => td_X M (nI i)) f))) : G 0 [some (.ref q), none] [] (mw M q m d p f) := by
  rw [up5] at h
  subst hq
  refine ab_go hG [] 140 _ _ _ _ ?_
  simp (decide := true) only [ew_n, ew_0, Option.toList_some, Option.toList_none, List.cons_append, List.nil_append, true_and, and_true, List.length_cons, List.length_nil, Nat.reduceAdd, Nat.reduceLeDiff, Int32.reduceAdd, Int32.reduceSub, Int32.reduceMul, Int32.reduceLT, Int32.reduceLE, Int32.reduceToNatClampNeg, ↓reduceIte, and_self, si_1, si_2, sl_1, sl_2, false_and, and_false, dX2_begin_0, dX2_begin_1, dX2_begin_2, dX2_begin_5, dX2_begin_6, dX2_begin_7, dX2_begin_10, dX2_begin_11, dX2_begin_12, dX2_begin_13, dX2_begin_14, dX2_begin_17, dX2_begin_18, dX2_begin_21, dX2_begin_22, dX2_begin_25, dX2_begin_26, dX2_begin_27, dX2_begin_30, dX2_begin_31, dX2_begin_34, dX2_begin_35, dX2_begin_38, dX2_begin_41, ca_X2_begin_44, e_alen, e_aload_n0, e_callv, e_getfield, e_iastore, e_iload_n1, e_istore_n1i, e_istore_n1n, e_istore_n1r, e_putfield, e_return, el_13, el_19, el_24, es_13, es_19, es_24, gf_X2_23_12, gf_X2_23_18, gf_X2_23_23, gf_X2_9_12, gf_X2_9_18, gf_X2_9_23, j_goto_38_m26, j_ic_0, j_icmp_ge_18_23, j_ii_1_1, pf_X2_27_12, pf_X2_27_18, pf_X2_27_23, pf_X2_30_12, pf_X2_30_18, pf_X2_30_23, q_X7_toldThornsOf, w_rt12, w_pc12, w_kd12, w_nm12, w_td12, w_sa12, w_go12, w_pr12, w_ea12, w_ld12, w_he12, w_th12, w_si12, w_wt12, w_o35_12, w_o34_12, w_o83_12, w_rt18, w_pc18, w_kd18, w_nm18, w_td18, w_sa18, w_go18, w_pr18, w_ea18, w_ld18, w_he18, w_th18, w_si18, w_wt18, w_o35_18, w_o34_18, w_o83_18, w_rt23, w_pc23, w_kd23, w_nm23, w_td23, w_sa23, w_go23, w_pr23, w_ea23, w_ld23, w_he23, w_th23, w_si23, w_wt23, w_o35_23, w_o34_23, w_o83_23, mw_3, mw_4, mw_5, mw_r3, mw_r4, mw_r5, pr_ite, ea_ite, ab_rn, bi_0, bi_1, ite_not]
  exact h
set_option maxRecDepth 20000 in
set_option maxHeartbeats 4000000 in
theorem c_X2_begin {l : Launch} : ab_ctr l yX2_begin cX2_begin 2 none 2 42 s_X2_begin := by
  refine ab_met x_X2_begin (by decide) rfl fo_X2 ko_X2 so_X2 rfl (ab_cs_cons (ab_kV c_X7_toldThornsOf ml_X2_44 v_X7_toldThornsOf ⟨rfl, rfl⟩ r_X7_toldThornsOf) ab_cs_nil) ?_ ?_
  · intro as M Po h
    unfold s_X2_begin at h
    split at h
    · simp [ab_e0]
    · exact h.elim
  · intro as M Po h G hG
    unfold s_X2_begin at h
    split at h
    · simp only [ab_en, ab_e0, List.length_cons, List.length_nil, Nat.reduceAdd, Nat.reduceSub, List.replicate, List.cons_append, List.nil_append]
      rename_i q
      obtain ⟨hq, h⟩ := h
      have key := lp_X2_begin hG hq (m := M.1 q 3) (d := M.1 q 4) (p := M.1 q 5) (f := M.1 (q + 1)) h
      rw [mw_id] at key
      exact key
    · exact h.elim

def s_X2_packed : ab_Sem := fun as M Po => match as with
  | [.ref q] => q = 12 ∧ Po (some (.long (pk_X (M.1 q 4) (M.1 q 3) (M.1 (q + 1))))) M
  | _ => False
theorem q_X2_packed {q : Nat} {M : ab_M} {Po : ab_P} : s_X2_packed [.ref q] M Po = (q = 12 ∧ Po (some (.long (pk_X (M.1 q 4) (M.1 q 3) (M.1 (q + 1))))) M) := rfl
abbrev x_X2_packed : ab_X := (some .long, fl_X2, [], kl_X2, gs_X2, ab_ros)
theorem r_X2_packed : ∀ (as : List Value) (M : ab_M) (Po : ab_P), s_X2_packed as M Po → ∃ (q : Nat) (as' : List Value) (ci : Nat) (T : u_T) (N : Nat) (fs : List ab_F), as = .ref q :: as' ∧ ab_sh[q]? = some (.inl (ci, fs)) ∧ vwCl[ci]? = some (yX2_packed.cls, T, N) := by
  intro as M Po h
  unfold s_X2_packed at h
  split at h
  · first | exact ⟨_, _, 2, _, _, _, rfl, rfl, rfl⟩ | (rcases h.1 with rfl; exact ⟨_, _, 2, _, _, _, rfl, rfl, rfl⟩)
  · exact h.elim
set_option maxRecDepth 20000 in
set_option maxHeartbeats 4000000 in
theorem c_X2_packed {l : Launch} : ab_ctr l yX2_packed cX2_packed 4 (some .long) 0 0 s_X2_packed := by
  refine ab_met x_X2_packed (by decide) rfl fo_X2 ko_X2 so_X2 rfl ab_cs_nil ?_ ?_
  · intro as M Po h
    unfold s_X2_packed at h
    split at h
    · simp [ab_e0]
    · exact h.elim
  · intro as M Po h G hG
    unfold s_X2_packed at h
    split at h
    · simp only [ab_en, ab_e0, List.length_cons, List.length_nil, Nat.reduceAdd, Nat.reduceSub, List.replicate, List.cons_append, List.nil_append]
      obtain ⟨rfl, h⟩ := h
      refine ab_go hG [] 140 _ _ _ _ ?_
      simp (decide := true) only [ew_n, ew_0, Option.toList_some, Option.toList_none, List.cons_append, List.nil_append, true_and, and_true, List.length_cons, List.length_nil, Nat.reduceAdd, Nat.reduceLeDiff, Int32.reduceAdd, Int32.reduceSub, Int32.reduceMul, Int32.reduceLT, Int32.reduceLE, Int32.reduceToNatClampNeg, ↓reduceIte, and_self, si_1, si_2, sl_1, sl_2, false_and, and_false, dX2_packed_0, dX2_packed_1, dX2_packed_4, dX2_packed_5, dX2_packed_6, dX2_packed_7, dX2_packed_9, dX2_packed_10, dX2_packed_11, dX2_packed_14, dX2_packed_15, dX2_packed_16, dX2_packed_17, dX2_packed_18, dX2_packed_19, dX2_packed_20, dX2_packed_21, dX2_packed_24, dX2_packed_25, dX2_packed_28, dX2_packed_29, dX2_packed_30, dX2_packed_31, dX2_packed_32, dX2_packed_35, dX2_packed_36, dX2_packed_37, dX2_packed_38, dX2_packed_39, dX2_packed_40, dX2_packed_43, dX2_packed_46, dX2_packed_47, e_alen, e_aload_n0, e_getfield, e_i2l, e_iaload, e_iload_n3, e_istore_n3i, e_istore_n3n, e_istore_n3r, e_lload_n1, e_lor, e_lreturn, e_lshl, e_lstore1ii, e_lstore1il, e_lstore1in, e_lstore1ir, e_lstore1ni, e_lstore1nl, e_lstore1nn, e_lstore1nr, e_lstore1ri, e_lstore1rl, e_lstore1rn, e_lstore1rr, ea_13, ea_19, ea_24, el_13, el_19, el_24, gf_X2_27_12, gf_X2_27_18, gf_X2_27_23, gf_X2_30_12, gf_X2_30_18, gf_X2_30_23, gf_X2_9_12, gf_X2_9_18, gf_X2_9_23, j_bp_8, j_goto_43_m24, j_ic_0, j_ic_4, j_icmp_ge_25_21, j_ii_3_1, ab_rn, bi_0, bi_1, ite_not]
      exact h
    · exact h.elim

def s_X2_unpack : ab_Sem := fun as M Po => match as with
  | [.ref q, .long u] => q = 12 ∧ Po none (mw M q (up_m u) (up_d u) (M.1 q 5) (fi_5 (up_t u) (M.1 (q + 1))))
  | _ => False
theorem q_X2_unpack {q : Nat} {u : Int64} {M : ab_M} {Po : ab_P} : s_X2_unpack [.ref q, .long u] M Po = (q = 12 ∧ Po none (mw M q (up_m u) (up_d u) (M.1 q 5) (fi_5 (up_t u) (M.1 (q + 1))))) := rfl
abbrev x_X2_unpack : ab_X := (none, fl_X2, [], kl_X2, gs_X2, ab_ros)
theorem r_X2_unpack : ∀ (as : List Value) (M : ab_M) (Po : ab_P), s_X2_unpack as M Po → ∃ (q : Nat) (as' : List Value) (ci : Nat) (T : u_T) (N : Nat) (fs : List ab_F), as = .ref q :: as' ∧ ab_sh[q]? = some (.inl (ci, fs)) ∧ vwCl[ci]? = some (yX2_unpack.cls, T, N) := by
  intro as M Po h
  unfold s_X2_unpack at h
  split at h
  · first | exact ⟨_, _, 2, _, _, _, rfl, rfl, rfl⟩ | (rcases h.1 with rfl; exact ⟨_, _, 2, _, _, _, rfl, rfl, rfl⟩)
  · exact h.elim
set_option maxRecDepth 20000 in
set_option maxHeartbeats 4000000 in
theorem lp_X2_unpack {G : ab_K} {Po : ab_P} (hG : ab_Clo cX2_unpack x_X2_unpack Po G) {M : ab_M} {q : Nat} (hq : q = 12) {m d p : Int32} {f : Nat → Int32} {u : Int64} (h : Po none (mw M q (up_m u) (up_d u) p (fi_5 (up_t u) f))) : G 0 [some (.ref q), some (.long u), none, none, none, none] [] (mw M q m d p f) := by
  rw [up5d] at h
  subst hq
  refine ab_go hG [] 140 _ _ _ _ ?_
  simp (decide := true) only [ew_n, ew_0, Option.toList_some, Option.toList_none, List.cons_append, List.nil_append, true_and, and_true, List.length_cons, List.length_nil, Nat.reduceAdd, Nat.reduceLeDiff, Int32.reduceAdd, Int32.reduceSub, Int32.reduceMul, Int32.reduceLT, Int32.reduceLE, Int32.reduceToNatClampNeg, ↓reduceIte, and_self, si_1, si_2, sl_1, sl_2, false_and, and_false, dX2_unpack_0, dX2_unpack_1, dX2_unpack_2, dX2_unpack_3, dX2_unpack_6, dX2_unpack_7, dX2_unpack_8, dX2_unpack_9, dX2_unpack_11, dX2_unpack_13, dX2_unpack_16, dX2_unpack_17, dX2_unpack_20, dX2_unpack_22, dX2_unpack_23, dX2_unpack_26, dX2_unpack_27, dX2_unpack_28, dX2_unpack_29, dX2_unpack_30, dX2_unpack_31, dX2_unpack_32, dX2_unpack_33, dX2_unpack_36, dX2_unpack_39, dX2_unpack_40, dX2_unpack_41, dX2_unpack_44, dX2_unpack_45, dX2_unpack_46, dX2_unpack_49, dX2_unpack_50, dX2_unpack_51, dX2_unpack_53, dX2_unpack_54, dX2_unpack_55, dX2_unpack_58, e_alen, e_aload_n0, e_getfield, e_iastore, e_iload5, e_istore5i, e_istore5n, e_istore5r, e_isub, e_kl_X2_52, e_kl_X2_54, e_l2i, e_land, e_lload_n1, e_lload_n3, e_lstore3ii, e_lstore3il, e_lstore3in, e_lstore3ir, e_lstore3ni, e_lstore3nl, e_lstore3nn, e_lstore3nr, e_lstore3ri, e_lstore3rl, e_lstore3rn, e_lstore3rr, e_lushr, e_putfield, e_return, el_13, el_19, el_24, es_13, es_19, es_24, gf_X2_9_12, gf_X2_9_18, gf_X2_9_23, j_bp_8, j_goto_36_m25, j_ic_1, j_ic_4, j_if_lt_13_26, j_ii_5_m1, pf_X2_27_12, pf_X2_27_18, pf_X2_27_23, pf_X2_30_12, pf_X2_30_18, pf_X2_30_23, w_rt12, w_pc12, w_kd12, w_nm12, w_td12, w_sa12, w_go12, w_pr12, w_ea12, w_ld12, w_he12, w_th12, w_si12, w_wt12, w_o35_12, w_o34_12, w_o83_12, w_rt18, w_pc18, w_kd18, w_nm18, w_td18, w_sa18, w_go18, w_pr18, w_ea18, w_ld18, w_he18, w_th18, w_si18, w_wt18, w_o35_18, w_o34_18, w_o83_18, w_rt23, w_pc23, w_kd23, w_nm23, w_td23, w_sa23, w_go23, w_pr23, w_ea23, w_ld23, w_he23, w_th23, w_si23, w_wt23, w_o35_23, w_o34_23, w_o83_23, mw_3, mw_4, mw_5, mw_r3, mw_r4, mw_r5, pr_ite, ea_ite, ab_rn, bi_0, bi_1, ite_not]
  exact h
set_option maxRecDepth 20000 in
set_option maxHeartbeats 4000000 in
theorem c_X2_unpack {l : Launch} : ab_ctr l yX2_unpack cX2_unpack 6 none 0 0 s_X2_unpack := by
  refine ab_met x_X2_unpack (by decide) rfl fo_X2 ko_X2 so_X2 rfl ab_cs_nil ?_ ?_
  · intro as M Po h
    unfold s_X2_unpack at h
    split at h
    · simp [ab_e0]
    · exact h.elim
  · intro as M Po h G hG
    unfold s_X2_unpack at h
    split at h
    · simp only [ab_en, ab_e0, List.length_cons, List.length_nil, Nat.reduceAdd, Nat.reduceSub, List.replicate, List.cons_append, List.nil_append]
      rename_i q u
      obtain ⟨hq, h⟩ := h
      have key := lp_X2_unpack hG hq (m := M.1 q 3) (d := M.1 q 4) (p := M.1 q 5) (f := M.1 (q + 1)) h
      rw [mw_id] at key
      exact key
    · exact h.elim

