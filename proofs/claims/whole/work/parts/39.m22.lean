/-! METHODS: the model, a march -/
theorem c_2i {i : Nat} (h : i < 5) : (2 + nI i).toNatClampNeg = 2 + i ∧ (0 ≤ 2 + nI i ∧ 2 + nI i < 7) ∧ (nI i).toNatClampNeg = i ∧ (0 ≤ nI i ∧ nI i < 5) := by
  have key : ∀ i, i < 5 → (2 + nI i).toNatClampNeg = 2 + i ∧ (0 ≤ 2 + nI i ∧ 2 + nI i < 7) ∧ (nI i).toNatClampNeg = i ∧ (0 ≤ nI i ∧ nI i < 5) := by decide
  exact key i h
def sm_M (M : ab_M) (P : Nat → Int32) (i : Nat) : Int32 := sp_M (M.1 34 i) (M.1 35 i) (P (2 + i))
def s_X9_noMan : ab_Sem := fun as M Po => match as with
  | [.ref 30, .int x] => Po (some (.int (if ¬ x < 0 ∧ ¬ M.1 30 7 - 1 < x then 0 else 1))) M
  | _ => False
theorem q_X9_noMan {x : Int32} {M : ab_M} {Po : ab_P} : s_X9_noMan [.ref 30, .int x] M Po = (Po (some (.int (if ¬ x < 0 ∧ ¬ M.1 30 7 - 1 < x then 0 else 1))) M) := rfl
abbrev x_X9_noMan : ab_X := (some .boolean, fl_X9, [(145, 3, s_X9_in)], kl_X9, gs_X9, ab_ros)
theorem ca_X9_noMan_72 {v0 v1 v2 : Value} {st : List Value} {M : ab_M} {k : List Value → ab_M → Prop} : ab_ca x_X9_noMan (2 * 72 + 1) (v2 :: v1 :: v0 :: st) M k = (st.length ≤ 4 ∧ s_X9_in [v0, v1, v2] M (fun r M' => k (r.toList ++ st) M')) := rfl
theorem r_X9_noMan : ∀ (as : List Value) (M : ab_M) (Po : ab_P), s_X9_noMan as M Po → ∃ (q : Nat) (as' : List Value) (ci : Nat) (T : u_T) (N : Nat) (fs : List ab_F), as = .ref q :: as' ∧ ab_sh[q]? = some (.inl (ci, fs)) ∧ vwCl[ci]? = some (yX9_noMan.cls, T, N) := by
  intro as M Po h
  unfold s_X9_noMan at h
  split at h
  · first | exact ⟨_, _, 9, _, _, _, rfl, rfl, rfl⟩ | (rcases h.1 with rfl | rfl | rfl <;> exact ⟨_, _, 9, _, _, _, rfl, rfl, rfl⟩)
  · exact h.elim
set_option maxRecDepth 20000 in
set_option maxHeartbeats 4000000 in
theorem c_X9_noMan {l : Launch} : ab_ctr l yX9_noMan cX9_noMan 2 (some .boolean) 1 25 s_X9_noMan := by
  refine ab_met x_X9_noMan (by decide) rfl fo_X9 ko_X9 so_X9 rfl (ab_cs_cons (ab_kS c_X9_in ml_X9_72 v_X9_in ⟨rfl, rfl⟩) ab_cs_nil) ?_ ?_
  · intro as M Po h
    unfold s_X9_noMan at h
    split at h
    · simp [ab_e0]
    · exact h.elim
  · intro as M Po h G hG
    unfold s_X9_noMan at h
    split at h
    · refine ab_go hG [] 60 _ _ _ _ ?_
      simp only [ab_en, ab_e0, List.length_cons, List.length_nil, Nat.reduceAdd, Nat.reduceSub, List.replicate, List.cons_append, List.nil_append]
      simp (decide := true) only [ew_n, ew_0, Option.toList_some, Option.toList_none, List.cons_append, List.nil_append, true_and, and_true, List.length_cons, List.length_nil, Nat.reduceAdd, Nat.reduceLeDiff, Int32.reduceAdd, Int32.reduceSub, Int32.reduceMul, Int32.reduceLT, Int32.reduceLE, Int32.reduceToNatClampNeg, ↓reduceIte, and_self, si_1, si_2, sl_1, sl_2, false_and, and_false, dX9_noMan_0, dX9_noMan_1, dX9_noMan_2, dX9_noMan_3, dX9_noMan_4, dX9_noMan_7, dX9_noMan_8, dX9_noMan_9, dX9_noMan_10, dX9_noMan_13, dX9_noMan_16, dX9_noMan_17, dX9_noMan_20, dX9_noMan_21, ca_X9_noMan_72, e_aload_n0, e_calls, e_getfield, e_i2l, e_iload_n1, e_ireturn, e_isub, e_lconst0, gf_X9_69_30, j_goto_17_4, j_ic_0, j_ic_1, j_if_ne_13_7, q_X9_in, wi_0, wi_lt, wi_g255, wi_g40, wi_g20, wi_g4, wi_g3, wi_g9, wi_g10, wi_g30, wi_g1, wi_l255, wi_l40, wi_l20, wi_l4, wi_l3, wi_l9, wi_l10, wi_l30, wi_l1, ab_rn, bi_0, bi_1, ite_not]
      (repeat' split) <;> (try simp (decide := true) only [i0_le, *, not_false_eq_true, not_true_eq_false, and_self, true_and, and_true, or_false, false_or, or_true, true_or, false_and, and_false, not_and, ↓reduceIte] at h) <;> (try simp (decide := true) only [i0_le, *, not_false_eq_true, not_true_eq_false, and_self, true_and, and_true, or_false, false_or, or_true, true_or, false_and, and_false, not_and, ↓reduceIte]) <;> first | done | exact h | (exfalso; simp_all (decide := true) only [not_true_eq_false, not_false_eq_true, false_and, and_false, true_and, and_true]; done)
    · exact h.elim

def s_X9_speed : ab_Sem := fun as M Po => match as with
  | [.ref 30, .ref p, .int x] => (p = 38 ∨ p = 39 ∨ p = 40) ∧ ∃ i : Nat, i < 5 ∧ x = nI i ∧ Po (some (.int (sm_M M (M.1 p) i))) M
  | _ => False
theorem q_X9_speed {p : Nat} {x : Int32} {M : ab_M} {Po : ab_P} : s_X9_speed [.ref 30, .ref p, .int x] M Po = ((p = 38 ∨ p = 39 ∨ p = 40) ∧ ∃ i : Nat, i < 5 ∧ x = nI i ∧ Po (some (.int (sm_M M (M.1 p) i))) M) := rfl
abbrev x_X9_speed : ab_X := (some .int, fl_X9, [(235, 3, s_X9_speedBy)], kl_X9, gs_X9, ab_ros)
theorem ca_X9_speed_117 {v0 v1 v2 : Value} {st : List Value} {M : ab_M} {k : List Value → ab_M → Prop} : ab_ca x_X9_speed (2 * 117 + 1) (v2 :: v1 :: v0 :: st) M k = (st.length ≤ 4 ∧ s_X9_speedBy [v0, v1, v2] M (fun r M' => k (r.toList ++ st) M')) := rfl
theorem r_X9_speed : ∀ (as : List Value) (M : ab_M) (Po : ab_P), s_X9_speed as M Po → ∃ (q : Nat) (as' : List Value) (ci : Nat) (T : u_T) (N : Nat) (fs : List ab_F), as = .ref q :: as' ∧ ab_sh[q]? = some (.inl (ci, fs)) ∧ vwCl[ci]? = some (yX9_speed.cls, T, N) := by
  intro as M Po h
  unfold s_X9_speed at h
  split at h
  · first | exact ⟨_, _, 9, _, _, _, rfl, rfl, rfl⟩ | (rcases h.1 with rfl | rfl | rfl <;> exact ⟨_, _, 9, _, _, _, rfl, rfl, rfl⟩)
  · exact h.elim
set_option maxRecDepth 20000 in
set_option maxHeartbeats 4000000 in
theorem c_X9_speed {l : Launch} : ab_ctr l yX9_speed cX9_speed 3 (some .int) 1 23 s_X9_speed := by
  refine ab_met x_X9_speed (by decide) rfl fo_X9 ko_X9 so_X9 rfl (ab_cs_cons (ab_kS c_X9_speedBy ml_X9_117 v_X9_speedBy ⟨rfl, rfl⟩) ab_cs_nil) ?_ ?_
  · intro as M Po h
    unfold s_X9_speed at h
    split at h
    · simp [ab_e0]
    · exact h.elim
  · intro as M Po h G hG
    unfold s_X9_speed at h
    split at h
    · simp only [ab_en, ab_e0, List.length_cons, List.length_nil, Nat.reduceAdd, Nat.reduceSub, List.replicate, List.cons_append, List.nil_append]
      obtain ⟨hp, i, hi, rfl, h⟩ := h
      obtain ⟨e1, e2, e3, e4⟩ := c_2i hi
      unfold sm_M at h
      rcases hp with rfl | rfl | rfl
      all_goals
        refine ab_go hG [] 80 _ _ _ _ ?_
        simp (decide := true) only [ew_n, ew_0, Option.toList_some, Option.toList_none, List.cons_append, List.nil_append, true_and, and_true, List.length_cons, List.length_nil, Nat.reduceAdd, Nat.reduceLeDiff, Int32.reduceAdd, Int32.reduceSub, Int32.reduceMul, Int32.reduceLT, Int32.reduceLE, Int32.reduceToNatClampNeg, ↓reduceIte, and_self, si_1, si_2, sl_1, sl_2, false_and, and_false, dX9_speed_0, dX9_speed_1, dX9_speed_4, dX9_speed_5, dX9_speed_6, dX9_speed_7, dX9_speed_10, dX9_speed_11, dX9_speed_12, dX9_speed_13, dX9_speed_14, dX9_speed_15, dX9_speed_16, dX9_speed_17, dX9_speed_20, ca_X9_speed_117, e_aload_n0, e_aload_n1, e_calls, e_getfield, e_iadd, e_iaload, e_iload_n2, e_ireturn, ea_34, ea_35, ea_38, ea_39, ea_40, gf_X9_19_30, gf_X9_22_30, j_ic_2, q_X9_speedBy, e1, e3, ab_rn, bi_0, bi_1, ite_not]
        exact ⟨e4, e4, e2, h⟩
    · exact h.elim

def s_X9_allThorns : ab_Sem := fun as M Po => match as with
  | [.ref p] => (p = 38 ∨ p = 39 ∨ p = 40) ∧ Po (some (.int (M.1 p 2 + M.1 p 3 + M.1 p 4 + M.1 p 5 + M.1 p 6))) M
  | _ => False
theorem q_X9_allThorns {p : Nat} {M : ab_M} {Po : ab_P} : s_X9_allThorns [.ref p] M Po = ((p = 38 ∨ p = 39 ∨ p = 40) ∧ Po (some (.int (M.1 p 2 + M.1 p 3 + M.1 p 4 + M.1 p 5 + M.1 p 6))) M) := rfl
abbrev x_X9_allThorns : ab_X := (some .int, fl_X9, [], kl_X9, gs_X9, ab_ros)
set_option maxRecDepth 20000 in
set_option maxHeartbeats 4000000 in
theorem c_X9_allThorns {l : Launch} : ab_ctr l yX9_allThorns cX9_allThorns 1 (some .int) 0 0 s_X9_allThorns := by
  refine ab_met x_X9_allThorns (by decide) rfl fo_X9 ko_X9 so_X9 rfl ab_cs_nil ?_ ?_
  · intro as M Po h
    unfold s_X9_allThorns at h
    split at h
    · simp [ab_e0]
    · exact h.elim
  · intro as M Po h G hG
    unfold s_X9_allThorns at h
    split at h
    · simp only [ab_en, ab_e0, List.length_cons, List.length_nil, Nat.reduceAdd, Nat.reduceSub, List.replicate, List.cons_append, List.nil_append]
      obtain ⟨hp, h⟩ := h
      rcases hp with rfl | rfl | rfl
      all_goals
        refine ab_go hG [] 80 _ _ _ _ ?_
        simp (decide := true) only [ew_n, ew_0, Option.toList_some, Option.toList_none, List.cons_append, List.nil_append, true_and, and_true, List.length_cons, List.length_nil, Nat.reduceAdd, Nat.reduceLeDiff, Int32.reduceAdd, Int32.reduceSub, Int32.reduceMul, Int32.reduceLT, Int32.reduceLE, Int32.reduceToNatClampNeg, ↓reduceIte, and_self, si_1, si_2, sl_1, sl_2, false_and, and_false, dX9_allThorns_0, dX9_allThorns_1, dX9_allThorns_2, dX9_allThorns_3, dX9_allThorns_4, dX9_allThorns_5, dX9_allThorns_6, dX9_allThorns_7, dX9_allThorns_8, dX9_allThorns_9, dX9_allThorns_10, dX9_allThorns_11, dX9_allThorns_12, dX9_allThorns_13, dX9_allThorns_14, dX9_allThorns_15, dX9_allThorns_16, dX9_allThorns_18, dX9_allThorns_19, dX9_allThorns_20, e_aload_n0, e_iadd, e_iaload, e_ireturn, ea_38, ea_39, ea_40, j_bp_6, j_ic_2, j_ic_3, j_ic_4, j_ic_5, ab_rn, bi_0, bi_1, ite_not]
        exact h
    · exact h.elim

def up_M (P : Nat → Int32) (i : Nat) : Nat → Int32 := up_f P (2 + i) (P (2 + i) + (if P (2 + i) < 9 then 1 else 0))
def s_X9_prick : ab_Sem := fun as M Po => match as with
  | [.ref p, .int x] => (p = 38 ∨ p = 39 ∨ p = 40) ∧ ∃ i : Nat, i < 5 ∧ x = nI i ∧ Po none (wt M p (up_M (M.1 p) i))
  | _ => False
theorem q_X9_prick {p : Nat} {x : Int32} {M : ab_M} {Po : ab_P} : s_X9_prick [.ref p, .int x] M Po = ((p = 38 ∨ p = 39 ∨ p = 40) ∧ ∃ i : Nat, i < 5 ∧ x = nI i ∧ Po none (wt M p (up_M (M.1 p) i))) := rfl
abbrev x_X9_prick : ab_X := (none, fl_X9, [], kl_X9, gs_X9, ab_ros)
theorem si_wt {M : ab_M} {p k : Nat} {x : Int32} : ab_si M p k x = wt M p (up_f (M.1 p) k x) := by
  rw [← wt_s, wt_id]
set_option maxRecDepth 20000 in
set_option maxHeartbeats 4000000 in
theorem c_X9_prick {l : Launch} : ab_ctr l yX9_prick cX9_prick 2 none 0 0 s_X9_prick := by
  refine ab_met x_X9_prick (by decide) rfl fo_X9 ko_X9 so_X9 rfl ab_cs_nil ?_ ?_
  · intro as M Po h
    unfold s_X9_prick at h
    split at h
    · simp [ab_e0]
    · exact h.elim
  · intro as M Po h G hG
    unfold s_X9_prick at h
    split at h
    · simp only [ab_en, ab_e0, List.length_cons, List.length_nil, Nat.reduceAdd, Nat.reduceSub, List.replicate, List.cons_append, List.nil_append]
      obtain ⟨hp, i, hi, rfl, h⟩ := h
      obtain ⟨e1, e2, e3, e4⟩ := c_2i hi
      unfold up_M at h
      rw [← si_wt] at h
      rcases hp with rfl | rfl | rfl
      all_goals
        refine ab_go hG [] 80 _ _ _ _ ?_
        simp (decide := true) only [ew_n, ew_0, Option.toList_some, Option.toList_none, List.cons_append, List.nil_append, true_and, and_true, List.length_cons, List.length_nil, Nat.reduceAdd, Nat.reduceLeDiff, Int32.reduceAdd, Int32.reduceSub, Int32.reduceMul, Int32.reduceLT, Int32.reduceLE, Int32.reduceToNatClampNeg, ↓reduceIte, and_self, si_1, si_2, sl_1, sl_2, false_and, and_false, dX9_prick_0, dX9_prick_1, dX9_prick_2, dX9_prick_3, dX9_prick_4, dX9_prick_5, dX9_prick_6, dX9_prick_7, dX9_prick_8, dX9_prick_9, dX9_prick_10, dX9_prick_11, dX9_prick_13, dX9_prick_16, dX9_prick_17, dX9_prick_20, dX9_prick_21, dX9_prick_22, dX9_prick_23, e_aload_n0, e_dup2, e_iadd, e_iaload, e_iastore, e_iload_n1, e_return, ea_38, ea_39, ea_40, es_38, es_39, es_40, j_bp_9, j_goto_17_4, j_ic_0, j_ic_1, j_ic_2, j_icmp_ge_13_7, e1, ab_rn, bi_0, bi_1, ite_not]
        refine ⟨e2, e2, ?_⟩
        split
        · rename_i h2
          rw [if_pos h2] at h
          exact ⟨e2, h⟩
        · rename_i h2
          rw [if_neg h2] at h
          exact ⟨e2, h⟩
    · exact h.elim

def fv_M : Option Nat → Int32
  | none => -9
  | some j => nI j
/-- the one that leads, looked for from the last man on -/
def lm_1 (M : ab_M) (P : Nat → Int32) (w : Int32) (i : Nat) (f : Option Nat) : Option Nat := if (w >>> (nI i &&& 31)) &&& 1 = 1 then (match f with | none => some i | some j => if sm_M M P j < sm_M M P i then some j else some i) else f
def lm_l (M : ab_M) (P : Nat → Int32) (w : Int32) : Nat → Option Nat → Option Nat
  | 0, f => f
  | i + 1, f => lm_l M P w i (lm_1 M P w i f)
theorem m1_eq (x : Int32) : x - 1 = x + (-1) := Int32.sub_eq_add_neg x 1
theorem fv_ne {j : Nat} (h : j < 5) : ¬ nI j = -9 := by
  have key : ∀ j, j < 5 → ¬ nI j = -9 := by decide
  exact key j h
def s_X9_leader : ab_Sem := fun as M Po => match as with
  | [.ref 30, .ref p, .int w] => (p = 38 ∨ p = 39 ∨ p = 40) ∧ ∃ n : Nat, n ≤ 5 ∧ M.1 30 7 = nI n ∧ Po (some (.int (fv_M (lm_l M (M.1 p) w n none)))) M
  | _ => False
theorem q_X9_leader {p : Nat} {w : Int32} {M : ab_M} {Po : ab_P} : s_X9_leader [.ref 30, .ref p, .int w] M Po = ((p = 38 ∨ p = 39 ∨ p = 40) ∧ ∃ n : Nat, n ≤ 5 ∧ M.1 30 7 = nI n ∧ Po (some (.int (fv_M (lm_l M (M.1 p) w n none)))) M) := rfl
abbrev x_X9_leader : ab_X := (some .int, fl_X9, [(243, 2, s_X9_has), (250, 3, s_X9_speed)], kl_X9, gs_X9, ab_ros)
theorem ca_X9_leader_121 {v0 v1 : Value} {st : List Value} {M : ab_M} {k : List Value → ab_M → Prop} : ab_ca x_X9_leader (2 * 121 + 1) (v1 :: v0 :: st) M k = (st.length ≤ 4 ∧ s_X9_has [v0, v1] M (fun r M' => k (r.toList ++ st) M')) := rfl
theorem ca_X9_leader_125 {v0 v1 v2 : Value} {st : List Value} {M : ab_M} {k : List Value → ab_M → Prop} : ab_ca x_X9_leader (2 * 125) (v2 :: v1 :: v0 :: st) M k = (st.length ≤ 4 ∧ s_X9_speed [v0, v1, v2] M (fun r M' => k (r.toList ++ st) M')) := rfl
theorem r_X9_leader : ∀ (as : List Value) (M : ab_M) (Po : ab_P), s_X9_leader as M Po → ∃ (q : Nat) (as' : List Value) (ci : Nat) (T : u_T) (N : Nat) (fs : List ab_F), as = .ref q :: as' ∧ ab_sh[q]? = some (.inl (ci, fs)) ∧ vwCl[ci]? = some (yX9_leader.cls, T, N) := by
  intro as M Po h
  unfold s_X9_leader at h
  split at h
  · first | exact ⟨_, _, 9, _, _, _, rfl, rfl, rfl⟩ | (rcases h.1 with rfl | rfl | rfl <;> exact ⟨_, _, 9, _, _, _, rfl, rfl, rfl⟩)
  · exact h.elim
set_option maxRecDepth 20000 in
set_option maxHeartbeats 4000000 in
theorem lq_X9_leader {G : ab_K} {Po : ab_P} (hG : ab_Clo cX9_leader x_X9_leader Po G) {M : ab_M} {p : Nat} {w : Int32} (hp : p = 38 ∨ p = 39 ∨ p = 40) : ∀ (i : Nat) (f : Option Nat), i ≤ 5 → (∀ j, f = some j → j < 5) → Po (some (.int (fv_M (lm_l M (M.1 p) w i f)))) M → G 11 [some (.ref 30), some (.ref p), some (.int w), some (.int (fv_M f)), some (.int (nI i + (-1)))] [] M := by
  intro i
  induction i with
  | zero =>
    intro f hi hf h
    rcases hp with rfl | rfl | rfl
    all_goals
      refine ab_go1 hG [11] 80 _ _ _ _ ?_
      simp (decide := true) only [ew_s, ew_0, Option.toList_some, Option.toList_none, List.cons_append, List.nil_append, true_and, and_true, List.length_cons, List.length_nil, Nat.reduceAdd, Nat.reduceLeDiff, Int32.reduceAdd, Int32.reduceSub, Int32.reduceMul, Int32.reduceLT, Int32.reduceLE, Int32.reduceToNatClampNeg, ↓reduceIte, and_self, si_1, si_2, sl_1, sl_2, false_and, and_false, dX9_leader_0, dX9_leader_2, dX9_leader_3, dX9_leader_4, dX9_leader_7, dX9_leader_8, dX9_leader_9, dX9_leader_11, dX9_leader_13, dX9_leader_16, dX9_leader_17, dX9_leader_19, dX9_leader_22, dX9_leader_25, dX9_leader_26, dX9_leader_28, dX9_leader_31, dX9_leader_32, dX9_leader_33, dX9_leader_35, dX9_leader_38, dX9_leader_39, dX9_leader_40, dX9_leader_41, dX9_leader_44, dX9_leader_47, dX9_leader_49, dX9_leader_52, dX9_leader_53, dX9_leader_54, dX9_leader_57, dX9_leader_60, dX9_leader_61, ca_X9_leader_121, ca_X9_leader_125, e_aload_n0, e_aload_n1, e_calls, e_callv, e_getfield, e_iload4, e_iload_n2, e_iload_n3, e_ireturn, e_istore4i, e_istore4n, e_istore4r, e_istore_n3i, e_istore_n3n, e_istore_n3r, e_isub, gf_X9_69_30, j_bp_m9, j_goto_49_4, j_goto_57_m46, j_ic_1, j_icmp_eq_28_19, j_icmp_gt_44_8, j_if_eq_22_30, j_if_lt_13_47, j_ii_4_m1, q_X9_has, q_X9_speed, show nI 0 + (-1) < 0 from by decide, if_true, ab_rn, bi_0, bi_1, ite_not]
      exact h
  | succ i ih =>
    intro f hi hf h
    unfold lm_l at h
    have hnn : ¬ nI i < 0 := nI_pos (by omega)
    rw [pk_m1]
    cases f with
    | none =>
      rcases hp with rfl | rfl | rfl
      all_goals
        refine ab_go1 hG [11] 80 _ _ _ _ ?_
        simp (decide := true) only [ew_s, ew_0, Option.toList_some, Option.toList_none, List.cons_append, List.nil_append, true_and, and_true, List.length_cons, List.length_nil, Nat.reduceAdd, Nat.reduceLeDiff, Int32.reduceAdd, Int32.reduceSub, Int32.reduceMul, Int32.reduceLT, Int32.reduceLE, Int32.reduceToNatClampNeg, ↓reduceIte, and_self, si_1, si_2, sl_1, sl_2, false_and, and_false, dX9_leader_0, dX9_leader_2, dX9_leader_3, dX9_leader_4, dX9_leader_7, dX9_leader_8, dX9_leader_9, dX9_leader_11, dX9_leader_13, dX9_leader_16, dX9_leader_17, dX9_leader_19, dX9_leader_22, dX9_leader_25, dX9_leader_26, dX9_leader_28, dX9_leader_31, dX9_leader_32, dX9_leader_33, dX9_leader_35, dX9_leader_38, dX9_leader_39, dX9_leader_40, dX9_leader_41, dX9_leader_44, dX9_leader_47, dX9_leader_49, dX9_leader_52, dX9_leader_53, dX9_leader_54, dX9_leader_57, dX9_leader_60, dX9_leader_61, ca_X9_leader_121, ca_X9_leader_125, e_aload_n0, e_aload_n1, e_calls, e_callv, e_getfield, e_iload4, e_iload_n2, e_iload_n3, e_ireturn, e_istore4i, e_istore4n, e_istore4r, e_istore_n3i, e_istore_n3n, e_istore_n3r, e_isub, gf_X9_69_30, j_bp_m9, j_goto_49_4, j_goto_57_m46, j_ic_1, j_icmp_eq_28_19, j_icmp_gt_44_8, j_if_eq_22_30, j_if_lt_13_47, j_ii_4_m1, q_X9_has, q_X9_speed, hnn, fv_M, ab_rn, bi_0, bi_1, ite_not]
        unfold lm_1 at h
        split
        · rename_i h2
          rw [if_pos h2] at h
          exact ih (some i) (by omega) (fun j e => by cases e; omega) h
        · rename_i h2
          rw [if_neg h2] at h
          exact ih none (by omega) hf h
    | some j =>
      have hj : j < 5 := hf j rfl
      have hne := fv_ne hj
      rcases hp with rfl | rfl | rfl
      all_goals
        refine ab_go1 hG [11] 80 _ _ _ _ ?_
        simp (decide := true) only [ew_s, ew_0, Option.toList_some, Option.toList_none, List.cons_append, List.nil_append, true_and, and_true, List.length_cons, List.length_nil, Nat.reduceAdd, Nat.reduceLeDiff, Int32.reduceAdd, Int32.reduceSub, Int32.reduceMul, Int32.reduceLT, Int32.reduceLE, Int32.reduceToNatClampNeg, ↓reduceIte, and_self, si_1, si_2, sl_1, sl_2, false_and, and_false, dX9_leader_0, dX9_leader_2, dX9_leader_3, dX9_leader_4, dX9_leader_7, dX9_leader_8, dX9_leader_9, dX9_leader_11, dX9_leader_13, dX9_leader_16, dX9_leader_17, dX9_leader_19, dX9_leader_22, dX9_leader_25, dX9_leader_26, dX9_leader_28, dX9_leader_31, dX9_leader_32, dX9_leader_33, dX9_leader_35, dX9_leader_38, dX9_leader_39, dX9_leader_40, dX9_leader_41, dX9_leader_44, dX9_leader_47, dX9_leader_49, dX9_leader_52, dX9_leader_53, dX9_leader_54, dX9_leader_57, dX9_leader_60, dX9_leader_61, ca_X9_leader_121, ca_X9_leader_125, e_aload_n0, e_aload_n1, e_calls, e_callv, e_getfield, e_iload4, e_iload_n2, e_iload_n3, e_ireturn, e_istore4i, e_istore4n, e_istore4r, e_istore_n3i, e_istore_n3n, e_istore_n3r, e_isub, gf_X9_69_30, j_bp_m9, j_goto_49_4, j_goto_57_m46, j_ic_1, j_icmp_eq_28_19, j_icmp_gt_44_8, j_if_eq_22_30, j_if_lt_13_47, j_ii_4_m1, q_X9_has, q_X9_speed, hnn, hne, fv_M, ab_rn, bi_0, bi_1, ite_not]
        unfold lm_1 at h
        split
        · rename_i h2
          rw [if_pos h2] at h
          refine ⟨i, by omega, rfl, j, hj, rfl, ?_⟩
          dsimp only at h
          split
          · rename_i h3
            rw [if_pos h3] at h
            exact ih (some j) (by omega) hf h
          · rename_i h3
            rw [if_neg h3] at h
            exact ih (some i) (by omega) (fun j e => by cases e; omega) h
        · rename_i h2
          rw [if_neg h2] at h
          exact ih (some j) (by omega) hf h
set_option maxRecDepth 20000 in
set_option maxHeartbeats 4000000 in
theorem c_X9_leader {l : Launch} : ab_ctr l yX9_leader cX9_leader 5 (some .int) 2 45 s_X9_leader := by
  refine ab_met x_X9_leader (by decide) rfl fo_X9 ko_X9 so_X9 rfl (ab_cs_cons (ab_kS c_X9_has ml_X9_121 v_X9_has ⟨rfl, rfl⟩) (ab_cs_cons (ab_kV c_X9_speed ml_X9_125 v_X9_speed ⟨rfl, rfl⟩ r_X9_speed) ab_cs_nil)) ?_ ?_
  · intro as M Po h
    unfold s_X9_leader at h
    split at h
    · simp [ab_e0]
    · exact h.elim
  · intro as M Po h G hG
    unfold s_X9_leader at h
    split at h
    · simp only [ab_en, ab_e0, List.length_cons, List.length_nil, Nat.reduceAdd, Nat.reduceSub, List.replicate, List.cons_append, List.nil_append]
      obtain ⟨hp, n, hn, hm, h⟩ := h
      have key := lq_X9_leader hG hp n none hn (fun j e => by cases e) h
      rcases hp with rfl | rfl | rfl
      all_goals
        refine ab_go hG [11] 80 _ _ _ _ ?_
        simp (decide := true) only [ew_s, ew_0, Option.toList_some, Option.toList_none, List.cons_append, List.nil_append, true_and, and_true, List.length_cons, List.length_nil, Nat.reduceAdd, Nat.reduceLeDiff, Int32.reduceAdd, Int32.reduceSub, Int32.reduceMul, Int32.reduceLT, Int32.reduceLE, Int32.reduceToNatClampNeg, ↓reduceIte, and_self, si_1, si_2, sl_1, sl_2, false_and, and_false, dX9_leader_0, dX9_leader_2, dX9_leader_3, dX9_leader_4, dX9_leader_7, dX9_leader_8, dX9_leader_9, dX9_leader_11, dX9_leader_13, dX9_leader_16, dX9_leader_17, dX9_leader_19, dX9_leader_22, dX9_leader_25, dX9_leader_26, dX9_leader_28, dX9_leader_31, dX9_leader_32, dX9_leader_33, dX9_leader_35, dX9_leader_38, dX9_leader_39, dX9_leader_40, dX9_leader_41, dX9_leader_44, dX9_leader_47, dX9_leader_49, dX9_leader_52, dX9_leader_53, dX9_leader_54, dX9_leader_57, dX9_leader_60, dX9_leader_61, ca_X9_leader_121, ca_X9_leader_125, e_aload_n0, e_aload_n1, e_calls, e_callv, e_getfield, e_iload4, e_iload_n2, e_iload_n3, e_ireturn, e_istore4i, e_istore4n, e_istore4r, e_istore_n3i, e_istore_n3n, e_istore_n3r, e_isub, gf_X9_69_30, j_bp_m9, j_goto_49_4, j_goto_57_m46, j_ic_1, j_icmp_eq_28_19, j_icmp_gt_44_8, j_if_eq_22_30, j_if_lt_13_47, j_ii_4_m1, q_X9_has, q_X9_speed, hm, m1_eq, ab_rn, bi_0, bi_1, ite_not]
        exact key
    · exact h.elim

