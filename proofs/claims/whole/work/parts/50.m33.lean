/-! METHODS: the model, doings judged, campaigns -/
theorem ib_0 {c : Prop} [Decidable c] : ((if c then (0 : Int32) else 1) = 0) = c := by
  by_cases h : c <;> simp [h]
theorem nmJ {M : ab_M} {n s d : Nat} (hc : ct_M M n s) (hd : d < 2 ^ 31) (Po : ab_P) : s_X9_noMan [.ref 30, .int (nI d)] M Po = Po (some (.int (if d < n then 0 else 1))) M := by
  by_cases h : d < n
  · rw [if_pos h]
    exact nm_y hc.1 hc.2.1 h Po
  · rw [if_neg h]
    refine nm_n hc.1 hc.2.1 (fun i hi e => ?_) Po
    have := hc.1
    have e2 := (nI_eq hd (by omega)).mp e
    omega
theorem jw_w (M : ab_M) (g : Nat → Int32) : jw M (M.1 30) g (M.1 40) (M.1 47) (M.1 48) = wt M 39 g := by
  rw [← jw_w39 (g := M.1 39), jw_id]
def s_X9_gravels : ab_Sem := fun as M Po => match as with
  | [.ref 30, .int x] => ∃ n s d : Nat, ct_M M n s ∧ d < 10 ∧ x = nI d ∧ (if d < n ∧ M.1 39 (2 + d) < 9 then Po (some (.int 1)) (wt M 39 (up_M (M.1 39) d)) else Po (some (.int 0)) M)
  | _ => False
theorem q_X9_gravels {x : Int32} {M : ab_M} {Po : ab_P} : s_X9_gravels [.ref 30, .int x] M Po = (∃ n s d : Nat, ct_M M n s ∧ d < 10 ∧ x = nI d ∧ (if d < n ∧ M.1 39 (2 + d) < 9 then Po (some (.int 1)) (wt M 39 (up_M (M.1 39) d)) else Po (some (.int 0)) M)) := rfl
abbrev x_X9_gravels : ab_X := (some .boolean, fl_X9, [(308, 2, s_X9_noMan), (279, 2, s_X9_prick)], kl_X9, gs_X9, ab_ros)
theorem ca_X9_gravels_154 {v0 v1 : Value} {st : List Value} {M : ab_M} {k : List Value → ab_M → Prop} : ab_ca x_X9_gravels (2 * 154) (v1 :: v0 :: st) M k = (st.length ≤ 4 ∧ s_X9_noMan [v0, v1] M (fun r M' => k (r.toList ++ st) M')) := rfl
theorem ca_X9_gravels_139 {v0 v1 : Value} {st : List Value} {M : ab_M} {k : List Value → ab_M → Prop} : ab_ca x_X9_gravels (2 * 139 + 1) (v1 :: v0 :: st) M k = (st.length ≤ 4 ∧ s_X9_prick [v0, v1] M (fun r M' => k (r.toList ++ st) M')) := rfl
theorem r_X9_gravels : ∀ (as : List Value) (M : ab_M) (Po : ab_P), s_X9_gravels as M Po → ∃ (q : Nat) (as' : List Value) (ci : Nat) (T : u_T) (N : Nat) (fs : List ab_F), as = .ref q :: as' ∧ ab_sh[q]? = some (.inl (ci, fs)) ∧ vwCl[ci]? = some (yX9_gravels.cls, T, N) := by
  intro as M Po h
  unfold s_X9_gravels at h
  split at h
  · first | exact ⟨_, _, 9, _, _, _, rfl, rfl, rfl⟩ | (rcases h.1 with rfl | rfl | rfl <;> exact ⟨_, _, 9, _, _, _, rfl, rfl, rfl⟩)
  · exact h.elim
set_option maxRecDepth 20000 in
set_option maxHeartbeats 4000000 in
theorem c_X9_gravels {l : Launch} : ab_ctr l yX9_gravels cX9_gravels 3 (some .boolean) 2 46 s_X9_gravels := by
  refine ab_met x_X9_gravels (by decide) rfl fo_X9 ko_X9 so_X9 rfl (ab_cs_cons (ab_kV c_X9_noMan ml_X9_154 v_X9_noMan ⟨rfl, rfl⟩ r_X9_noMan) (ab_cs_cons (ab_kS c_X9_prick ml_X9_139 v_X9_prick ⟨rfl, rfl⟩) ab_cs_nil)) ?_ ?_
  · intro as M Po h
    unfold s_X9_gravels at h
    split at h
    · simp [ab_e0]
    · exact h.elim
  · intro as M Po h G hG
    unfold s_X9_gravels at h
    split at h
    · simp only [ab_en, ab_e0, List.length_cons, List.length_nil, Nat.reduceAdd, Nat.reduceSub, List.replicate, List.cons_append, List.nil_append]
      obtain ⟨n, s, d, hc, hd, rfl, h⟩ := h
      have nm := nmJ hc (d := d) (by omega)
      by_cases h1 : d < n
      · have h5 : d < 5 := by have := hc.1; omega
        obtain ⟨e1, e2, e3, e4⟩ := c_2i h5
        by_cases h2 : M.1 39 (2 + d) < 9
        · rw [if_pos ⟨h1, h2⟩] at h
          refine ab_go hG [] 80 _ _ _ _ ?_
          simp (decide := true) only [ew_n, ew_0, Option.toList_some, Option.toList_none, List.cons_append, List.nil_append, true_and, and_true, List.length_cons, List.length_nil, Nat.reduceAdd, Nat.reduceLeDiff, Int32.reduceAdd, Int32.reduceSub, Int32.reduceMul, Int32.reduceLT, Int32.reduceLE, Int32.reduceToNatClampNeg, ↓reduceIte, and_self, si_1, si_2, sl_1, sl_2, false_and, and_false, dX9_gravels_0, dX9_gravels_1, dX9_gravels_2, dX9_gravels_5, dX9_gravels_8, dX9_gravels_9, dX9_gravels_12, dX9_gravels_13, dX9_gravels_14, dX9_gravels_15, dX9_gravels_16, dX9_gravels_18, dX9_gravels_21, dX9_gravels_22, dX9_gravels_25, dX9_gravels_26, dX9_gravels_27, dX9_gravels_28, dX9_gravels_31, dX9_gravels_32, dX9_gravels_35, dX9_gravels_36, dX9_gravels_39, dX9_gravels_40, ca_X9_gravels_139, ca_X9_gravels_154, e_aload_n0, e_calls, e_callv, e_getfield, e_iadd, e_iaload, e_iload_n1, e_iload_n2, e_ireturn, e_istore_n2i, e_istore_n2n, e_istore_n2r, ea_38, ea_39, ea_40, gf_X9_34_30, j_bp_9, j_goto_22_4, j_ic_0, j_ic_1, j_ic_2, j_icmp_ge_18_7, j_if_eq_28_11, j_if_ne_5_20, nm, h1, h2, e1, if_true, ab_rn, bi_0, bi_1, ite_not]
          refine ⟨e2, by decide, d, h5, rfl, ?_⟩
          simp (decide := true) only [ew_n, ew_0, Option.toList_some, Option.toList_none, List.cons_append, List.nil_append, true_and, and_true, List.length_cons, List.length_nil, Nat.reduceAdd, Nat.reduceLeDiff, Int32.reduceAdd, Int32.reduceSub, Int32.reduceMul, Int32.reduceLT, Int32.reduceLE, Int32.reduceToNatClampNeg, ↓reduceIte, and_self, si_1, si_2, sl_1, sl_2, false_and, and_false, dX9_gravels_0, dX9_gravels_1, dX9_gravels_2, dX9_gravels_5, dX9_gravels_8, dX9_gravels_9, dX9_gravels_12, dX9_gravels_13, dX9_gravels_14, dX9_gravels_15, dX9_gravels_16, dX9_gravels_18, dX9_gravels_21, dX9_gravels_22, dX9_gravels_25, dX9_gravels_26, dX9_gravels_27, dX9_gravels_28, dX9_gravels_31, dX9_gravels_32, dX9_gravels_35, dX9_gravels_36, dX9_gravels_39, dX9_gravels_40, ca_X9_gravels_139, ca_X9_gravels_154, e_aload_n0, e_calls, e_callv, e_getfield, e_iadd, e_iaload, e_iload_n1, e_iload_n2, e_ireturn, e_istore_n2i, e_istore_n2n, e_istore_n2r, ea_38, ea_39, ea_40, gf_X9_34_30, j_bp_9, j_goto_22_4, j_ic_0, j_ic_1, j_ic_2, j_icmp_ge_18_7, j_if_eq_28_11, j_if_ne_5_20, ab_rn, bi_0, bi_1]
          exact h
        · rw [if_neg (fun hx => h2 hx.2)] at h
          refine ab_go hG [] 80 _ _ _ _ ?_
          simp (decide := true) only [ew_n, ew_0, Option.toList_some, Option.toList_none, List.cons_append, List.nil_append, true_and, and_true, List.length_cons, List.length_nil, Nat.reduceAdd, Nat.reduceLeDiff, Int32.reduceAdd, Int32.reduceSub, Int32.reduceMul, Int32.reduceLT, Int32.reduceLE, Int32.reduceToNatClampNeg, ↓reduceIte, and_self, si_1, si_2, sl_1, sl_2, false_and, and_false, dX9_gravels_0, dX9_gravels_1, dX9_gravels_2, dX9_gravels_5, dX9_gravels_8, dX9_gravels_9, dX9_gravels_12, dX9_gravels_13, dX9_gravels_14, dX9_gravels_15, dX9_gravels_16, dX9_gravels_18, dX9_gravels_21, dX9_gravels_22, dX9_gravels_25, dX9_gravels_26, dX9_gravels_27, dX9_gravels_28, dX9_gravels_31, dX9_gravels_32, dX9_gravels_35, dX9_gravels_36, dX9_gravels_39, dX9_gravels_40, ca_X9_gravels_139, ca_X9_gravels_154, e_aload_n0, e_calls, e_callv, e_getfield, e_iadd, e_iaload, e_iload_n1, e_iload_n2, e_ireturn, e_istore_n2i, e_istore_n2n, e_istore_n2r, ea_38, ea_39, ea_40, gf_X9_34_30, j_bp_9, j_goto_22_4, j_ic_0, j_ic_1, j_ic_2, j_icmp_ge_18_7, j_if_eq_28_11, j_if_ne_5_20, nm, h1, h2, e1, if_true, ab_rn, bi_0, bi_1, ite_not]
          exact ⟨e2, h⟩
      · rw [if_neg (fun hx => h1 hx.1)] at h
        refine ab_go hG [] 80 _ _ _ _ ?_
        simp (decide := true) only [ew_n, ew_0, Option.toList_some, Option.toList_none, List.cons_append, List.nil_append, true_and, and_true, List.length_cons, List.length_nil, Nat.reduceAdd, Nat.reduceLeDiff, Int32.reduceAdd, Int32.reduceSub, Int32.reduceMul, Int32.reduceLT, Int32.reduceLE, Int32.reduceToNatClampNeg, ↓reduceIte, and_self, si_1, si_2, sl_1, sl_2, false_and, and_false, dX9_gravels_0, dX9_gravels_1, dX9_gravels_2, dX9_gravels_5, dX9_gravels_8, dX9_gravels_9, dX9_gravels_12, dX9_gravels_13, dX9_gravels_14, dX9_gravels_15, dX9_gravels_16, dX9_gravels_18, dX9_gravels_21, dX9_gravels_22, dX9_gravels_25, dX9_gravels_26, dX9_gravels_27, dX9_gravels_28, dX9_gravels_31, dX9_gravels_32, dX9_gravels_35, dX9_gravels_36, dX9_gravels_39, dX9_gravels_40, ca_X9_gravels_139, ca_X9_gravels_154, e_aload_n0, e_calls, e_callv, e_getfield, e_iadd, e_iaload, e_iload_n1, e_iload_n2, e_ireturn, e_istore_n2i, e_istore_n2n, e_istore_n2r, ea_38, ea_39, ea_40, gf_X9_34_30, j_bp_9, j_goto_22_4, j_ic_0, j_ic_1, j_ic_2, j_icmp_ge_18_7, j_if_eq_28_11, j_if_ne_5_20, nm, h1, ab_rn, bi_0, bi_1, ite_not]
        exact h
    · exact h.elim

def s_X9_isPulled : ab_Sem := fun as M Po => match as with
  | [.ref 30, .int x] => ∃ n s d : Nat, ct_M M n s ∧ d < 10 ∧ x = nI d ∧ (if d < n ∧ 0 < M.1 39 (2 + d) then Po (some (.int 1)) (wt M 39 (up_f (M.1 39) (2 + d) (M.1 39 (2 + d) - 1))) else Po (some (.int 0)) M)
  | _ => False
theorem q_X9_isPulled {x : Int32} {M : ab_M} {Po : ab_P} : s_X9_isPulled [.ref 30, .int x] M Po = (∃ n s d : Nat, ct_M M n s ∧ d < 10 ∧ x = nI d ∧ (if d < n ∧ 0 < M.1 39 (2 + d) then Po (some (.int 1)) (wt M 39 (up_f (M.1 39) (2 + d) (M.1 39 (2 + d) - 1))) else Po (some (.int 0)) M)) := rfl
abbrev x_X9_isPulled : ab_X := (some .boolean, fl_X9, [(308, 2, s_X9_noMan)], kl_X9, gs_X9, ab_ros)
theorem ca_X9_isPulled_154 {v0 v1 : Value} {st : List Value} {M : ab_M} {k : List Value → ab_M → Prop} : ab_ca x_X9_isPulled (2 * 154) (v1 :: v0 :: st) M k = (st.length ≤ 4 ∧ s_X9_noMan [v0, v1] M (fun r M' => k (r.toList ++ st) M')) := rfl
theorem r_X9_isPulled : ∀ (as : List Value) (M : ab_M) (Po : ab_P), s_X9_isPulled as M Po → ∃ (q : Nat) (as' : List Value) (ci : Nat) (T : u_T) (N : Nat) (fs : List ab_F), as = .ref q :: as' ∧ ab_sh[q]? = some (.inl (ci, fs)) ∧ vwCl[ci]? = some (yX9_isPulled.cls, T, N) := by
  intro as M Po h
  unfold s_X9_isPulled at h
  split at h
  · first | exact ⟨_, _, 9, _, _, _, rfl, rfl, rfl⟩ | (rcases h.1 with rfl | rfl | rfl <;> exact ⟨_, _, 9, _, _, _, rfl, rfl, rfl⟩)
  · exact h.elim
set_option maxRecDepth 20000 in
set_option maxHeartbeats 4000000 in
theorem c_X9_isPulled {l : Launch} : ab_ctr l yX9_isPulled cX9_isPulled 3 (some .boolean) 2 46 s_X9_isPulled := by
  refine ab_met x_X9_isPulled (by decide) rfl fo_X9 ko_X9 so_X9 rfl (ab_cs_cons (ab_kV c_X9_noMan ml_X9_154 v_X9_noMan ⟨rfl, rfl⟩ r_X9_noMan) ab_cs_nil) ?_ ?_
  · intro as M Po h
    unfold s_X9_isPulled at h
    split at h
    · simp [ab_e0]
    · exact h.elim
  · intro as M Po h G hG
    unfold s_X9_isPulled at h
    split at h
    · simp only [ab_en, ab_e0, List.length_cons, List.length_nil, Nat.reduceAdd, Nat.reduceSub, List.replicate, List.cons_append, List.nil_append]
      obtain ⟨n, s, d, hc, hd, rfl, h⟩ := h
      have nm := nmJ hc (d := d) (by omega)
      by_cases h1 : d < n
      · have h5 : d < 5 := by have := hc.1; omega
        obtain ⟨e1, e2, e3, e4⟩ := c_2i h5
        by_cases h2 : 0 < M.1 39 (2 + d)
        · rw [if_pos ⟨h1, h2⟩, ← si_wt] at h
          refine ab_go hG [] 80 _ _ _ _ ?_
          simp (decide := true) only [ew_n, ew_0, Option.toList_some, Option.toList_none, List.cons_append, List.nil_append, true_and, and_true, List.length_cons, List.length_nil, Nat.reduceAdd, Nat.reduceLeDiff, Int32.reduceAdd, Int32.reduceSub, Int32.reduceMul, Int32.reduceLT, Int32.reduceLE, Int32.reduceToNatClampNeg, ↓reduceIte, and_self, si_1, si_2, sl_1, sl_2, false_and, and_false, dX9_isPulled_0, dX9_isPulled_1, dX9_isPulled_2, dX9_isPulled_5, dX9_isPulled_8, dX9_isPulled_9, dX9_isPulled_12, dX9_isPulled_13, dX9_isPulled_14, dX9_isPulled_15, dX9_isPulled_16, dX9_isPulled_19, dX9_isPulled_20, dX9_isPulled_23, dX9_isPulled_24, dX9_isPulled_25, dX9_isPulled_26, dX9_isPulled_29, dX9_isPulled_30, dX9_isPulled_33, dX9_isPulled_34, dX9_isPulled_35, dX9_isPulled_36, dX9_isPulled_37, dX9_isPulled_38, dX9_isPulled_39, dX9_isPulled_40, dX9_isPulled_41, dX9_isPulled_42, ca_X9_isPulled_154, e_aload_n0, e_callv, e_dup2, e_getfield, e_iadd, e_iaload, e_iastore, e_iload_n1, e_iload_n2, e_ireturn, e_istore_n2i, e_istore_n2n, e_istore_n2r, e_isub, ea_38, ea_39, ea_40, es_38, es_39, es_40, gf_X9_34_30, j_goto_20_4, j_ic_0, j_ic_1, j_ic_2, j_if_eq_26_15, j_if_le_16_7, j_if_ne_5_18, nm, h1, h2, e1, if_true, ab_rn, bi_0, bi_1, ite_not]
          exact ⟨e2, e2, e2, h⟩
        · rw [if_neg (fun hx => h2 hx.2)] at h
          refine ab_go hG [] 80 _ _ _ _ ?_
          simp (decide := true) only [ew_n, ew_0, Option.toList_some, Option.toList_none, List.cons_append, List.nil_append, true_and, and_true, List.length_cons, List.length_nil, Nat.reduceAdd, Nat.reduceLeDiff, Int32.reduceAdd, Int32.reduceSub, Int32.reduceMul, Int32.reduceLT, Int32.reduceLE, Int32.reduceToNatClampNeg, ↓reduceIte, and_self, si_1, si_2, sl_1, sl_2, false_and, and_false, dX9_isPulled_0, dX9_isPulled_1, dX9_isPulled_2, dX9_isPulled_5, dX9_isPulled_8, dX9_isPulled_9, dX9_isPulled_12, dX9_isPulled_13, dX9_isPulled_14, dX9_isPulled_15, dX9_isPulled_16, dX9_isPulled_19, dX9_isPulled_20, dX9_isPulled_23, dX9_isPulled_24, dX9_isPulled_25, dX9_isPulled_26, dX9_isPulled_29, dX9_isPulled_30, dX9_isPulled_33, dX9_isPulled_34, dX9_isPulled_35, dX9_isPulled_36, dX9_isPulled_37, dX9_isPulled_38, dX9_isPulled_39, dX9_isPulled_40, dX9_isPulled_41, dX9_isPulled_42, ca_X9_isPulled_154, e_aload_n0, e_callv, e_dup2, e_getfield, e_iadd, e_iaload, e_iastore, e_iload_n1, e_iload_n2, e_ireturn, e_istore_n2i, e_istore_n2n, e_istore_n2r, e_isub, ea_38, ea_39, ea_40, es_38, es_39, es_40, gf_X9_34_30, j_goto_20_4, j_ic_0, j_ic_1, j_ic_2, j_if_eq_26_15, j_if_le_16_7, j_if_ne_5_18, nm, h1, h2, e1, if_true, ab_rn, bi_0, bi_1, ite_not]
          exact ⟨e2, h⟩
      · rw [if_neg (fun hx => h1 hx.1)] at h
        refine ab_go hG [] 80 _ _ _ _ ?_
        simp (decide := true) only [ew_n, ew_0, Option.toList_some, Option.toList_none, List.cons_append, List.nil_append, true_and, and_true, List.length_cons, List.length_nil, Nat.reduceAdd, Nat.reduceLeDiff, Int32.reduceAdd, Int32.reduceSub, Int32.reduceMul, Int32.reduceLT, Int32.reduceLE, Int32.reduceToNatClampNeg, ↓reduceIte, and_self, si_1, si_2, sl_1, sl_2, false_and, and_false, dX9_isPulled_0, dX9_isPulled_1, dX9_isPulled_2, dX9_isPulled_5, dX9_isPulled_8, dX9_isPulled_9, dX9_isPulled_12, dX9_isPulled_13, dX9_isPulled_14, dX9_isPulled_15, dX9_isPulled_16, dX9_isPulled_19, dX9_isPulled_20, dX9_isPulled_23, dX9_isPulled_24, dX9_isPulled_25, dX9_isPulled_26, dX9_isPulled_29, dX9_isPulled_30, dX9_isPulled_33, dX9_isPulled_34, dX9_isPulled_35, dX9_isPulled_36, dX9_isPulled_37, dX9_isPulled_38, dX9_isPulled_39, dX9_isPulled_40, dX9_isPulled_41, dX9_isPulled_42, ca_X9_isPulled_154, e_aload_n0, e_callv, e_dup2, e_getfield, e_iadd, e_iaload, e_iastore, e_iload_n1, e_iload_n2, e_ireturn, e_istore_n2i, e_istore_n2n, e_istore_n2r, e_isub, ea_38, ea_39, ea_40, es_38, es_39, es_40, gf_X9_34_30, j_goto_20_4, j_ic_0, j_ic_1, j_ic_2, j_if_eq_26_15, j_if_le_16_7, j_if_ne_5_18, nm, h1, ab_rn, bi_0, bi_1, ite_not]
        exact h
    · exact h.elim

theorem gvE {M : ab_M} {n s d : Nat} (hc : ct_M M n s) (hd : d < 10) (z g h p q : Nat → Int32) (Po : ab_P) : s_X9_gravels [.ref 30, .int (nI d)] (jw M z g h p q) Po = if d < n ∧ g (2 + d) < 9 then Po (some (.int 1)) (jw M z (up_M g d) h p q) else Po (some (.int 0)) (jw M z g h p q) := by
  refine propext ⟨fun h1 => ?_, fun h1 => ⟨n, s, d, hc, hd, rfl, ?_⟩⟩
  · obtain ⟨n', s', d', hc', hd', he, h2⟩ := h1
    obtain ⟨rfl, rfl⟩ := ct_u hc hc'
    have e : d = d' := (nI_eq (by omega) (by omega)).mp he
    subst e
    rw [jw_w39] at h2
    exact h2
  · rw [jw_w39]
    exact h1
theorem ipE {M : ab_M} {n s d : Nat} (hc : ct_M M n s) (hd : d < 10) (z g h p q : Nat → Int32) (Po : ab_P) : s_X9_isPulled [.ref 30, .int (nI d)] (jw M z g h p q) Po = if d < n ∧ 0 < g (2 + d) then Po (some (.int 1)) (jw M z (up_f g (2 + d) (g (2 + d) - 1)) h p q) else Po (some (.int 0)) (jw M z g h p q) := by
  refine propext ⟨fun h1 => ?_, fun h1 => ⟨n, s, d, hc, hd, rfl, ?_⟩⟩
  · obtain ⟨n', s', d', hc', hd', he, h2⟩ := h1
    obtain ⟨rfl, rfl⟩ := ct_u hc hc'
    have e : d = d' := (nI_eq (by omega) (by omega)).mp he
    subst e
    rw [jw_w39] at h2
    exact h2
  · rw [jw_w39]
    exact h1
/-- a doing of three figures, done on a page -/
def do_M (M : ab_M) (n s b : Nat) (P : Nat → Int32) : Int32 × (Nat → Int32) :=
  if b = 0 then (1, (dd_M M n s P 31).2)
  else if b = 100 then (1, hh_M M n P)
  else if b / 100 = 5 then (if b / 10 % 10 < n ∧ ¬ P (2 + b / 10 % 10) < nI (b % 10) then 1 else 0, P)
  else if b / 100 = 6 then (if P 0 < 10 * nI (b / 10 % 10) + nI (b % 10) then 0 else 1, P)
  else if ¬ b / 10 % 10 = 0 then (0, P)
  else if b / 100 = 2 then (if b % 10 < n ∧ P (2 + b % 10) < 9 then (1, up_M P (b % 10)) else (0, P))
  else if b / 100 = 3 then (if b % 10 < n ∧ 0 < P (2 + b % 10) then (1, up_f P (2 + b % 10) (P (2 + b % 10) - 1)) else (0, P))
  else if b / 100 = 4 then (if fv_M (lm_l M P 31 n none) = nI (b % 10) then 1 else 0, P)
  else (0, P)
theorem do_env {M N : ab_M} {n s : Nat} (h1 : dd_M N n s = dd_M M n s) (h2 : hk_M N = hk_M M) (h3 : lm_l N = lm_l M) {b : Nat} {P : Nat → Int32} : do_M N n s b P = do_M M n s b P := by
  unfold do_M hh_M
  rw [h1, h2, h3]
theorem do_e7 {M : ab_M} {n s b : Nat} (hn : n ≤ 5) {P Q : Nat → Int32} (h : e7 P Q) : (do_M M n s b P).1 = (do_M M n s b Q).1 ∧ e7 (do_M M n s b P).2 (do_M M n s b Q).2 := by
  unfold do_M
  rw [lm_e7 h 31 n none hn (fun j e => by cases e), h 0 (by omega)]
  by_cases c0 : b = 0
  · rw [if_pos c0, if_pos c0]
    exact ⟨rfl, (dd_e7 hn h 31).2⟩
  rw [if_neg c0, if_neg c0]
  by_cases c1 : b = 100
  · rw [if_pos c1, if_pos c1]
    refine ⟨rfl, ?_⟩
    have hh := hk_e7 (M := M) h n hn
    exact e7_up hh 1 (by rw [hh 1 (by omega)])
  rw [if_neg c1, if_neg c1]
  by_cases c5 : b / 100 = 5
  · rw [if_pos c5, if_pos c5]
    refine ⟨?_, h⟩
    by_cases c6 : b / 10 % 10 < n
    · simp only [h (2 + b / 10 % 10) (by omega)]
    · simp only [c6, false_and]
  rw [if_neg c5, if_neg c5]
  split
  · exact ⟨rfl, h⟩
  split
  · exact ⟨rfl, h⟩
  split
  · by_cases c6 : b % 10 < n
    · rw [h (2 + b % 10) (by omega)]
      split
      · exact ⟨rfl, e7_uM h (by omega)⟩
      · exact ⟨rfl, h⟩
    · simp only [c6, false_and, if_false]
      exact ⟨trivial, h⟩
  split
  · by_cases c6 : b % 10 < n
    · rw [h (2 + b % 10) (by omega)]
      split
      · exact ⟨rfl, e7_up h _ rfl⟩
      · exact ⟨rfl, h⟩
    · simp only [c6, false_and, if_false]
      exact ⟨trivial, h⟩
  split
  · exact ⟨rfl, h⟩
  · exact ⟨rfl, h⟩
def s_X9_does : ab_Sem := fun as M Po => match as with
  | [.ref 30, .int x] => ∃ n s b : Nat, ct_M M n s ∧ b < 1000 ∧ x = nI b ∧ Po (some (.int (do_M M n s b (M.1 39)).1)) (wt M 39 (do_M M n s b (M.1 39)).2)
  | _ => False
theorem q_X9_does {x : Int32} {M : ab_M} {Po : ab_P} : s_X9_does [.ref 30, .int x] M Po = (∃ n s b : Nat, ct_M M n s ∧ b < 1000 ∧ x = nI b ∧ Po (some (.int (do_M M n s b (M.1 39)).1)) (wt M 39 (do_M M n s b (M.1 39)).2)) := rfl
abbrev x_X9_does : ab_X := (some .boolean, fl_X9, [(322, 3, s_X9_goDay), (328, 2, s_X9_goHalt), (308, 2, s_X9_noMan), (400, 2, s_X9_gravels), (406, 2, s_X9_isPulled), (266, 3, s_X9_leader)], kl_X9, gs_X9, ab_ros)
theorem ca_X9_does_161 {v0 v1 v2 : Value} {st : List Value} {M : ab_M} {k : List Value → ab_M → Prop} : ab_ca x_X9_does (2 * 161) (v2 :: v1 :: v0 :: st) M k = (st.length ≤ 4 ∧ s_X9_goDay [v0, v1, v2] M (fun r M' => k (r.toList ++ st) M')) := rfl
theorem ca_X9_does_164 {v0 v1 : Value} {st : List Value} {M : ab_M} {k : List Value → ab_M → Prop} : ab_ca x_X9_does (2 * 164) (v1 :: v0 :: st) M k = (st.length ≤ 4 ∧ s_X9_goHalt [v0, v1] M (fun r M' => k (r.toList ++ st) M')) := rfl
theorem ca_X9_does_154 {v0 v1 : Value} {st : List Value} {M : ab_M} {k : List Value → ab_M → Prop} : ab_ca x_X9_does (2 * 154) (v1 :: v0 :: st) M k = (st.length ≤ 4 ∧ s_X9_noMan [v0, v1] M (fun r M' => k (r.toList ++ st) M')) := rfl
theorem ca_X9_does_200 {v0 v1 : Value} {st : List Value} {M : ab_M} {k : List Value → ab_M → Prop} : ab_ca x_X9_does (2 * 200) (v1 :: v0 :: st) M k = (st.length ≤ 4 ∧ s_X9_gravels [v0, v1] M (fun r M' => k (r.toList ++ st) M')) := rfl
theorem ca_X9_does_203 {v0 v1 : Value} {st : List Value} {M : ab_M} {k : List Value → ab_M → Prop} : ab_ca x_X9_does (2 * 203) (v1 :: v0 :: st) M k = (st.length ≤ 4 ∧ s_X9_isPulled [v0, v1] M (fun r M' => k (r.toList ++ st) M')) := rfl
theorem ca_X9_does_133 {v0 v1 v2 : Value} {st : List Value} {M : ab_M} {k : List Value → ab_M → Prop} : ab_ca x_X9_does (2 * 133) (v2 :: v1 :: v0 :: st) M k = (st.length ≤ 4 ∧ s_X9_leader [v0, v1, v2] M (fun r M' => k (r.toList ++ st) M')) := rfl
theorem r_X9_does : ∀ (as : List Value) (M : ab_M) (Po : ab_P), s_X9_does as M Po → ∃ (q : Nat) (as' : List Value) (ci : Nat) (T : u_T) (N : Nat) (fs : List ab_F), as = .ref q :: as' ∧ ab_sh[q]? = some (.inl (ci, fs)) ∧ vwCl[ci]? = some (yX9_does.cls, T, N) := by
  intro as M Po h
  unfold s_X9_does at h
  split at h
  · first | exact ⟨_, _, 9, _, _, _, rfl, rfl, rfl⟩ | (rcases h.1 with rfl | rfl | rfl <;> exact ⟨_, _, 9, _, _, _, rfl, rfl, rfl⟩)
  · exact h.elim
set_option maxRecDepth 20000 in
set_option maxHeartbeats 4000000 in
theorem lA_X9_does {G : ab_K} {Po : ab_P} (hG : ab_Clo cX9_does x_X9_does Po G) {N : ab_M} {n s b : Nat} {z g h p q : Nat → Int32} (hc : ct_M N n s) (hb : b < 1000) (hh : Po (some (.int (do_M N n s b g).1)) (jw N z (do_M N n s b g).2 h p q)) : G 0 [some (.ref 30), some (.int (nI b)), none, none, none] [] (jw N z g h p q) := by
  have gd := gdE hc
  have gh := ghE hc
  have ld := ldE hc
  have hn := hc.1
  have nm := fun (z g h p q : Nat → Int32) (Po : ab_P) => nmJ (M := jw N z g h p q) hc (d := b / 10 % 10) (by omega) Po
  have gv := gvE hc (d := b % 10) (by omega)
  have ip := ipE hc (d := b % 10) (by omega)
  have v1 : nI b / 100 = nI (b / 100) := pk_div (d := 100) (by omega) (by omega) (by omega)
  have v2 : nI b / 10 - nI b / 10 / 10 * 10 = nI (b / 10 % 10) := by
    rw [show nI b / 10 = nI (b / 10) from pk_div (d := 10) (by omega) (by omega) (by omega)]
    exact pk_rem (d := 10) (by omega) (by omega) (by omega)
  have v3 : nI b - nI b / 10 * 10 = nI (b % 10) := pk_rem (d := 10) (by omega) (by omega) (by omega)
  have g0 : (nI b = 0) = (b = 0) := nI_eqz (b := 0) (by omega) (by omega)
  have g1 : (nI b = 100) = (b = 100) := nI_eqz (b := 100) (by omega) (by omega)
  have w2 : (nI (b / 100) = 2) = (b / 100 = 2) := nI_eqz (b := 2) (by omega) (by omega)
  have w3 : (nI (b / 100) = 3) = (b / 100 = 3) := nI_eqz (b := 3) (by omega) (by omega)
  have w4 : (nI (b / 100) = 4) = (b / 100 = 4) := nI_eqz (b := 4) (by omega) (by omega)
  have w5 : (nI (b / 100) = 5) = (b / 100 = 5) := nI_eqz (b := 5) (by omega) (by omega)
  have w6 : (nI (b / 100) = 6) = (b / 100 = 6) := nI_eqz (b := 6) (by omega) (by omega)
  have u0 : (nI (b / 10 % 10) = 0) = (b / 10 % 10 = 0) := nI_eqz (b := 0) (by omega) (by omega)
  unfold do_M at hh
  by_cases c0 : b = 0
  · rw [if_pos c0] at hh
    refine ab_go hG [] 80 _ _ _ _ ?_
    simp (decide := true) only [ew_n, ew_0, Option.toList_some, Option.toList_none, List.cons_append, List.nil_append, true_and, and_true, List.length_cons, List.length_nil, Nat.reduceAdd, Nat.reduceLeDiff, Int32.reduceAdd, Int32.reduceSub, Int32.reduceMul, Int32.reduceLT, Int32.reduceLE, Int32.reduceToNatClampNeg, ↓reduceIte, and_self, si_1, si_2, sl_1, sl_2, false_and, and_false, dX9_does_0, dX9_does_1, dX9_does_3, dX9_does_4, dX9_does_5, dX9_does_6, dX9_does_8, dX9_does_9, dX9_does_11, dX9_does_12, dX9_does_13, dX9_does_14, dX9_does_16, dX9_does_17, dX9_does_19, dX9_does_20, dX9_does_23, dX9_does_24, dX9_does_25, dX9_does_28, dX9_does_30, dX9_does_33, dX9_does_34, dX9_does_35, dX9_does_36, dX9_does_37, dX9_does_39, dX9_does_42, dX9_does_43, dX9_does_44, dX9_does_47, dX9_does_50, dX9_does_51, dX9_does_52, dX9_does_53, dX9_does_54, dX9_does_55, dX9_does_58, dX9_does_59, dX9_does_60, dX9_does_63, dX9_does_66, dX9_does_67, dX9_does_70, dX9_does_71, dX9_does_72, dX9_does_73, dX9_does_74, dX9_does_76, dX9_does_79, dX9_does_80, dX9_does_83, dX9_does_84, dX9_does_85, dX9_does_86, dX9_does_88, dX9_does_91, dX9_does_92, dX9_does_95, dX9_does_96, dX9_does_97, dX9_does_99, dX9_does_100, dX9_does_101, dX9_does_103, dX9_does_104, dX9_does_107, dX9_does_108, dX9_does_111, dX9_does_112, dX9_does_113, dX9_does_114, dX9_does_117, dX9_does_118, dX9_does_119, dX9_does_120, dX9_does_121, dX9_does_124, dX9_does_125, dX9_does_127, dX9_does_130, dX9_does_133, dX9_does_134, dX9_does_135, dX9_does_138, dX9_does_139, dX9_does_141, dX9_does_144, dX9_does_147, dX9_does_148, dX9_does_149, dX9_does_152, dX9_does_153, dX9_does_154, dX9_does_157, dX9_does_159, dX9_does_162, dX9_does_164, dX9_does_167, dX9_does_168, dX9_does_171, dX9_does_172, ca_X9_does_133, ca_X9_does_154, ca_X9_does_161, ca_X9_does_164, ca_X9_does_200, ca_X9_does_203, e_aload_n0, e_callv, e_getfield, e_iadd, e_iaload, e_idiv, e_iload4, e_iload_n1, e_iload_n2, e_iload_n3, e_imul, e_irem, e_ireturn, e_istore4i, e_istore4n, e_istore4r, e_istore_n2i, e_istore_n2n, e_istore_n2r, e_istore_n3i, e_istore_n3n, e_istore_n3r, e_pop, ea_38, ea_39, ea_40, gf_X9_34_30, j_bp_10, j_bp_100, j_bp_31, j_bp_6, j_goto_108_4, j_goto_168_4, j_goto_80_4, j_ic_0, j_ic_1, j_ic_2, j_ic_3, j_ic_4, j_ic_5, j_icmp_lt_104_7, j_icmp_lt_76_7, j_icmp_ne_121_12, j_icmp_ne_135_12, j_icmp_ne_149_22, j_icmp_ne_164_7, j_icmp_ne_39_14, j_icmp_ne_55_30, j_icmp_ne_88_25, j_if_eq_114_5, j_if_ne_130_37, j_if_ne_144_23, j_if_ne_20_16, j_if_ne_63_20, jw_30_0, jw_30_2, jw_30_4, jw_30_7, jw_30_10, jw_30_19, jw_30_22, jw_30_27, jw_30_28, jw_30_29, jw_30_30, jw_30_31, jw_30_32, jw_30_35, jw_32, jw_32f, jw_33, jw_33f, jw_34, jw_34f, jw_35, jw_35f, jw_38, jw_38f, jw_41, jw_41f, jw_42, jw_42f, jw_43, jw_43f, jw_44, jw_44f, jw_45, jw_45f, jw_46, jw_46f, jw_39, jw_39f, jw_s39, jw_w39, jw_40, jw_40f, jw_s40, jw_w40, jw_47, jw_47f, jw_s47, jw_w47, jw_48, jw_48f, jw_s48, jw_w48, jw_z27, jw_z28, jw_z29, jw_z30, jw_z31, jw_z32, jw_z35, jw_l, uz_27_27, uz_27_28, uz_27_29, uz_27_30, uz_27_31, uz_27_32, uz_27_35, uz_28_27, uz_28_28, uz_28_29, uz_28_30, uz_28_31, uz_28_32, uz_28_35, uz_29_27, uz_29_28, uz_29_29, uz_29_30, uz_29_31, uz_29_32, uz_29_35, uz_30_27, uz_30_28, uz_30_29, uz_30_30, uz_30_31, uz_30_32, uz_30_35, uz_31_27, uz_31_28, uz_31_29, uz_31_30, uz_31_31, uz_31_32, uz_31_35, uz_32_27, uz_32_28, uz_32_29, uz_32_30, uz_32_31, uz_32_32, uz_32_35, uz_35_27, uz_35_28, uz_35_29, uz_35_30, uz_35_31, uz_35_32, uz_35_35, v1, v2, v3, g0, g1, w2, w3, w4, w5, w6, u0, gd, gh, nm, gv, ip, ld, if_true, if_false, ib_0, c0, ab_rn, bi_0, bi_1, ite_not]
    subst c0
    exact hh
  rw [if_neg c0] at hh
  by_cases c1 : b = 100
  · rw [if_pos c1] at hh
    refine ab_go hG [] 80 _ _ _ _ ?_
    simp (decide := true) only [ew_n, ew_0, Option.toList_some, Option.toList_none, List.cons_append, List.nil_append, true_and, and_true, List.length_cons, List.length_nil, Nat.reduceAdd, Nat.reduceLeDiff, Int32.reduceAdd, Int32.reduceSub, Int32.reduceMul, Int32.reduceLT, Int32.reduceLE, Int32.reduceToNatClampNeg, ↓reduceIte, and_self, si_1, si_2, sl_1, sl_2, false_and, and_false, dX9_does_0, dX9_does_1, dX9_does_3, dX9_does_4, dX9_does_5, dX9_does_6, dX9_does_8, dX9_does_9, dX9_does_11, dX9_does_12, dX9_does_13, dX9_does_14, dX9_does_16, dX9_does_17, dX9_does_19, dX9_does_20, dX9_does_23, dX9_does_24, dX9_does_25, dX9_does_28, dX9_does_30, dX9_does_33, dX9_does_34, dX9_does_35, dX9_does_36, dX9_does_37, dX9_does_39, dX9_does_42, dX9_does_43, dX9_does_44, dX9_does_47, dX9_does_50, dX9_does_51, dX9_does_52, dX9_does_53, dX9_does_54, dX9_does_55, dX9_does_58, dX9_does_59, dX9_does_60, dX9_does_63, dX9_does_66, dX9_does_67, dX9_does_70, dX9_does_71, dX9_does_72, dX9_does_73, dX9_does_74, dX9_does_76, dX9_does_79, dX9_does_80, dX9_does_83, dX9_does_84, dX9_does_85, dX9_does_86, dX9_does_88, dX9_does_91, dX9_does_92, dX9_does_95, dX9_does_96, dX9_does_97, dX9_does_99, dX9_does_100, dX9_does_101, dX9_does_103, dX9_does_104, dX9_does_107, dX9_does_108, dX9_does_111, dX9_does_112, dX9_does_113, dX9_does_114, dX9_does_117, dX9_does_118, dX9_does_119, dX9_does_120, dX9_does_121, dX9_does_124, dX9_does_125, dX9_does_127, dX9_does_130, dX9_does_133, dX9_does_134, dX9_does_135, dX9_does_138, dX9_does_139, dX9_does_141, dX9_does_144, dX9_does_147, dX9_does_148, dX9_does_149, dX9_does_152, dX9_does_153, dX9_does_154, dX9_does_157, dX9_does_159, dX9_does_162, dX9_does_164, dX9_does_167, dX9_does_168, dX9_does_171, dX9_does_172, ca_X9_does_133, ca_X9_does_154, ca_X9_does_161, ca_X9_does_164, ca_X9_does_200, ca_X9_does_203, e_aload_n0, e_callv, e_getfield, e_iadd, e_iaload, e_idiv, e_iload4, e_iload_n1, e_iload_n2, e_iload_n3, e_imul, e_irem, e_ireturn, e_istore4i, e_istore4n, e_istore4r, e_istore_n2i, e_istore_n2n, e_istore_n2r, e_istore_n3i, e_istore_n3n, e_istore_n3r, e_pop, ea_38, ea_39, ea_40, gf_X9_34_30, j_bp_10, j_bp_100, j_bp_31, j_bp_6, j_goto_108_4, j_goto_168_4, j_goto_80_4, j_ic_0, j_ic_1, j_ic_2, j_ic_3, j_ic_4, j_ic_5, j_icmp_lt_104_7, j_icmp_lt_76_7, j_icmp_ne_121_12, j_icmp_ne_135_12, j_icmp_ne_149_22, j_icmp_ne_164_7, j_icmp_ne_39_14, j_icmp_ne_55_30, j_icmp_ne_88_25, j_if_eq_114_5, j_if_ne_130_37, j_if_ne_144_23, j_if_ne_20_16, j_if_ne_63_20, jw_30_0, jw_30_2, jw_30_4, jw_30_7, jw_30_10, jw_30_19, jw_30_22, jw_30_27, jw_30_28, jw_30_29, jw_30_30, jw_30_31, jw_30_32, jw_30_35, jw_32, jw_32f, jw_33, jw_33f, jw_34, jw_34f, jw_35, jw_35f, jw_38, jw_38f, jw_41, jw_41f, jw_42, jw_42f, jw_43, jw_43f, jw_44, jw_44f, jw_45, jw_45f, jw_46, jw_46f, jw_39, jw_39f, jw_s39, jw_w39, jw_40, jw_40f, jw_s40, jw_w40, jw_47, jw_47f, jw_s47, jw_w47, jw_48, jw_48f, jw_s48, jw_w48, jw_z27, jw_z28, jw_z29, jw_z30, jw_z31, jw_z32, jw_z35, jw_l, uz_27_27, uz_27_28, uz_27_29, uz_27_30, uz_27_31, uz_27_32, uz_27_35, uz_28_27, uz_28_28, uz_28_29, uz_28_30, uz_28_31, uz_28_32, uz_28_35, uz_29_27, uz_29_28, uz_29_29, uz_29_30, uz_29_31, uz_29_32, uz_29_35, uz_30_27, uz_30_28, uz_30_29, uz_30_30, uz_30_31, uz_30_32, uz_30_35, uz_31_27, uz_31_28, uz_31_29, uz_31_30, uz_31_31, uz_31_32, uz_31_35, uz_32_27, uz_32_28, uz_32_29, uz_32_30, uz_32_31, uz_32_32, uz_32_35, uz_35_27, uz_35_28, uz_35_29, uz_35_30, uz_35_31, uz_35_32, uz_35_35, v1, v2, v3, g0, g1, w2, w3, w4, w5, w6, u0, gd, gh, nm, gv, ip, ld, if_true, if_false, ib_0, c0, c1, ab_rn, bi_0, bi_1, ite_not]
    subst c1
    exact hh
  rw [if_neg c1] at hh
  by_cases c5 : b / 100 = 5
  · rw [if_pos c5] at hh
    by_cases c7 : b / 10 % 10 < n
    · obtain ⟨e1, e2, e3, e4⟩ := c_2i (i := b / 10 % 10) (by omega)
      refine ab_go hG [] 80 _ _ _ _ ?_
      simp (decide := true) only [ew_n, ew_0, Option.toList_some, Option.toList_none, List.cons_append, List.nil_append, true_and, and_true, List.length_cons, List.length_nil, Nat.reduceAdd, Nat.reduceLeDiff, Int32.reduceAdd, Int32.reduceSub, Int32.reduceMul, Int32.reduceLT, Int32.reduceLE, Int32.reduceToNatClampNeg, ↓reduceIte, and_self, si_1, si_2, sl_1, sl_2, false_and, and_false, dX9_does_0, dX9_does_1, dX9_does_3, dX9_does_4, dX9_does_5, dX9_does_6, dX9_does_8, dX9_does_9, dX9_does_11, dX9_does_12, dX9_does_13, dX9_does_14, dX9_does_16, dX9_does_17, dX9_does_19, dX9_does_20, dX9_does_23, dX9_does_24, dX9_does_25, dX9_does_28, dX9_does_30, dX9_does_33, dX9_does_34, dX9_does_35, dX9_does_36, dX9_does_37, dX9_does_39, dX9_does_42, dX9_does_43, dX9_does_44, dX9_does_47, dX9_does_50, dX9_does_51, dX9_does_52, dX9_does_53, dX9_does_54, dX9_does_55, dX9_does_58, dX9_does_59, dX9_does_60, dX9_does_63, dX9_does_66, dX9_does_67, dX9_does_70, dX9_does_71, dX9_does_72, dX9_does_73, dX9_does_74, dX9_does_76, dX9_does_79, dX9_does_80, dX9_does_83, dX9_does_84, dX9_does_85, dX9_does_86, dX9_does_88, dX9_does_91, dX9_does_92, dX9_does_95, dX9_does_96, dX9_does_97, dX9_does_99, dX9_does_100, dX9_does_101, dX9_does_103, dX9_does_104, dX9_does_107, dX9_does_108, dX9_does_111, dX9_does_112, dX9_does_113, dX9_does_114, dX9_does_117, dX9_does_118, dX9_does_119, dX9_does_120, dX9_does_121, dX9_does_124, dX9_does_125, dX9_does_127, dX9_does_130, dX9_does_133, dX9_does_134, dX9_does_135, dX9_does_138, dX9_does_139, dX9_does_141, dX9_does_144, dX9_does_147, dX9_does_148, dX9_does_149, dX9_does_152, dX9_does_153, dX9_does_154, dX9_does_157, dX9_does_159, dX9_does_162, dX9_does_164, dX9_does_167, dX9_does_168, dX9_does_171, dX9_does_172, ca_X9_does_133, ca_X9_does_154, ca_X9_does_161, ca_X9_does_164, ca_X9_does_200, ca_X9_does_203, e_aload_n0, e_callv, e_getfield, e_iadd, e_iaload, e_idiv, e_iload4, e_iload_n1, e_iload_n2, e_iload_n3, e_imul, e_irem, e_ireturn, e_istore4i, e_istore4n, e_istore4r, e_istore_n2i, e_istore_n2n, e_istore_n2r, e_istore_n3i, e_istore_n3n, e_istore_n3r, e_pop, ea_38, ea_39, ea_40, gf_X9_34_30, j_bp_10, j_bp_100, j_bp_31, j_bp_6, j_goto_108_4, j_goto_168_4, j_goto_80_4, j_ic_0, j_ic_1, j_ic_2, j_ic_3, j_ic_4, j_ic_5, j_icmp_lt_104_7, j_icmp_lt_76_7, j_icmp_ne_121_12, j_icmp_ne_135_12, j_icmp_ne_149_22, j_icmp_ne_164_7, j_icmp_ne_39_14, j_icmp_ne_55_30, j_icmp_ne_88_25, j_if_eq_114_5, j_if_ne_130_37, j_if_ne_144_23, j_if_ne_20_16, j_if_ne_63_20, jw_30_0, jw_30_2, jw_30_4, jw_30_7, jw_30_10, jw_30_19, jw_30_22, jw_30_27, jw_30_28, jw_30_29, jw_30_30, jw_30_31, jw_30_32, jw_30_35, jw_32, jw_32f, jw_33, jw_33f, jw_34, jw_34f, jw_35, jw_35f, jw_38, jw_38f, jw_41, jw_41f, jw_42, jw_42f, jw_43, jw_43f, jw_44, jw_44f, jw_45, jw_45f, jw_46, jw_46f, jw_39, jw_39f, jw_s39, jw_w39, jw_40, jw_40f, jw_s40, jw_w40, jw_47, jw_47f, jw_s47, jw_w47, jw_48, jw_48f, jw_s48, jw_w48, jw_z27, jw_z28, jw_z29, jw_z30, jw_z31, jw_z32, jw_z35, jw_l, uz_27_27, uz_27_28, uz_27_29, uz_27_30, uz_27_31, uz_27_32, uz_27_35, uz_28_27, uz_28_28, uz_28_29, uz_28_30, uz_28_31, uz_28_32, uz_28_35, uz_29_27, uz_29_28, uz_29_29, uz_29_30, uz_29_31, uz_29_32, uz_29_35, uz_30_27, uz_30_28, uz_30_29, uz_30_30, uz_30_31, uz_30_32, uz_30_35, uz_31_27, uz_31_28, uz_31_29, uz_31_30, uz_31_31, uz_31_32, uz_31_35, uz_32_27, uz_32_28, uz_32_29, uz_32_30, uz_32_31, uz_32_32, uz_32_35, uz_35_27, uz_35_28, uz_35_29, uz_35_30, uz_35_31, uz_35_32, uz_35_35, v1, v2, v3, g0, g1, w2, w3, w4, w5, w6, u0, gd, gh, nm, gv, ip, ld, if_true, if_false, ib_0, c0, c1, c5, c7, e1, ab_rn, bi_0, bi_1, ite_not]
      simp only [c7, true_and] at hh
      refine ⟨e2, ?_⟩
      by_cases c8 : g (2 + b / 10 % 10) < nI (b % 10)
      · rw [if_pos c8]
        simp only [c8, not_true_eq_false, if_false] at hh
        exact hh
      · rw [if_neg c8]
        simp only [c8, not_false_eq_true, if_true] at hh
        exact hh
    · simp only [c7, false_and, if_false] at hh
      refine ab_go hG [] 80 _ _ _ _ ?_
      simp (decide := true) only [ew_n, ew_0, Option.toList_some, Option.toList_none, List.cons_append, List.nil_append, true_and, and_true, List.length_cons, List.length_nil, Nat.reduceAdd, Nat.reduceLeDiff, Int32.reduceAdd, Int32.reduceSub, Int32.reduceMul, Int32.reduceLT, Int32.reduceLE, Int32.reduceToNatClampNeg, ↓reduceIte, and_self, si_1, si_2, sl_1, sl_2, false_and, and_false, dX9_does_0, dX9_does_1, dX9_does_3, dX9_does_4, dX9_does_5, dX9_does_6, dX9_does_8, dX9_does_9, dX9_does_11, dX9_does_12, dX9_does_13, dX9_does_14, dX9_does_16, dX9_does_17, dX9_does_19, dX9_does_20, dX9_does_23, dX9_does_24, dX9_does_25, dX9_does_28, dX9_does_30, dX9_does_33, dX9_does_34, dX9_does_35, dX9_does_36, dX9_does_37, dX9_does_39, dX9_does_42, dX9_does_43, dX9_does_44, dX9_does_47, dX9_does_50, dX9_does_51, dX9_does_52, dX9_does_53, dX9_does_54, dX9_does_55, dX9_does_58, dX9_does_59, dX9_does_60, dX9_does_63, dX9_does_66, dX9_does_67, dX9_does_70, dX9_does_71, dX9_does_72, dX9_does_73, dX9_does_74, dX9_does_76, dX9_does_79, dX9_does_80, dX9_does_83, dX9_does_84, dX9_does_85, dX9_does_86, dX9_does_88, dX9_does_91, dX9_does_92, dX9_does_95, dX9_does_96, dX9_does_97, dX9_does_99, dX9_does_100, dX9_does_101, dX9_does_103, dX9_does_104, dX9_does_107, dX9_does_108, dX9_does_111, dX9_does_112, dX9_does_113, dX9_does_114, dX9_does_117, dX9_does_118, dX9_does_119, dX9_does_120, dX9_does_121, dX9_does_124, dX9_does_125, dX9_does_127, dX9_does_130, dX9_does_133, dX9_does_134, dX9_does_135, dX9_does_138, dX9_does_139, dX9_does_141, dX9_does_144, dX9_does_147, dX9_does_148, dX9_does_149, dX9_does_152, dX9_does_153, dX9_does_154, dX9_does_157, dX9_does_159, dX9_does_162, dX9_does_164, dX9_does_167, dX9_does_168, dX9_does_171, dX9_does_172, ca_X9_does_133, ca_X9_does_154, ca_X9_does_161, ca_X9_does_164, ca_X9_does_200, ca_X9_does_203, e_aload_n0, e_callv, e_getfield, e_iadd, e_iaload, e_idiv, e_iload4, e_iload_n1, e_iload_n2, e_iload_n3, e_imul, e_irem, e_ireturn, e_istore4i, e_istore4n, e_istore4r, e_istore_n2i, e_istore_n2n, e_istore_n2r, e_istore_n3i, e_istore_n3n, e_istore_n3r, e_pop, ea_38, ea_39, ea_40, gf_X9_34_30, j_bp_10, j_bp_100, j_bp_31, j_bp_6, j_goto_108_4, j_goto_168_4, j_goto_80_4, j_ic_0, j_ic_1, j_ic_2, j_ic_3, j_ic_4, j_ic_5, j_icmp_lt_104_7, j_icmp_lt_76_7, j_icmp_ne_121_12, j_icmp_ne_135_12, j_icmp_ne_149_22, j_icmp_ne_164_7, j_icmp_ne_39_14, j_icmp_ne_55_30, j_icmp_ne_88_25, j_if_eq_114_5, j_if_ne_130_37, j_if_ne_144_23, j_if_ne_20_16, j_if_ne_63_20, jw_30_0, jw_30_2, jw_30_4, jw_30_7, jw_30_10, jw_30_19, jw_30_22, jw_30_27, jw_30_28, jw_30_29, jw_30_30, jw_30_31, jw_30_32, jw_30_35, jw_32, jw_32f, jw_33, jw_33f, jw_34, jw_34f, jw_35, jw_35f, jw_38, jw_38f, jw_41, jw_41f, jw_42, jw_42f, jw_43, jw_43f, jw_44, jw_44f, jw_45, jw_45f, jw_46, jw_46f, jw_39, jw_39f, jw_s39, jw_w39, jw_40, jw_40f, jw_s40, jw_w40, jw_47, jw_47f, jw_s47, jw_w47, jw_48, jw_48f, jw_s48, jw_w48, jw_z27, jw_z28, jw_z29, jw_z30, jw_z31, jw_z32, jw_z35, jw_l, uz_27_27, uz_27_28, uz_27_29, uz_27_30, uz_27_31, uz_27_32, uz_27_35, uz_28_27, uz_28_28, uz_28_29, uz_28_30, uz_28_31, uz_28_32, uz_28_35, uz_29_27, uz_29_28, uz_29_29, uz_29_30, uz_29_31, uz_29_32, uz_29_35, uz_30_27, uz_30_28, uz_30_29, uz_30_30, uz_30_31, uz_30_32, uz_30_35, uz_31_27, uz_31_28, uz_31_29, uz_31_30, uz_31_31, uz_31_32, uz_31_35, uz_32_27, uz_32_28, uz_32_29, uz_32_30, uz_32_31, uz_32_32, uz_32_35, uz_35_27, uz_35_28, uz_35_29, uz_35_30, uz_35_31, uz_35_32, uz_35_35, v1, v2, v3, g0, g1, w2, w3, w4, w5, w6, u0, gd, gh, nm, gv, ip, ld, if_true, if_false, ib_0, c0, c1, c5, c7, ab_rn, bi_0, bi_1, ite_not]
      exact hh
  rw [if_neg c5] at hh
  by_cases c6 : b / 100 = 6
  · rw [if_pos c6] at hh
    refine ab_go hG [] 80 _ _ _ _ ?_
    simp (decide := true) only [ew_n, ew_0, Option.toList_some, Option.toList_none, List.cons_append, List.nil_append, true_and, and_true, List.length_cons, List.length_nil, Nat.reduceAdd, Nat.reduceLeDiff, Int32.reduceAdd, Int32.reduceSub, Int32.reduceMul, Int32.reduceLT, Int32.reduceLE, Int32.reduceToNatClampNeg, ↓reduceIte, and_self, si_1, si_2, sl_1, sl_2, false_and, and_false, dX9_does_0, dX9_does_1, dX9_does_3, dX9_does_4, dX9_does_5, dX9_does_6, dX9_does_8, dX9_does_9, dX9_does_11, dX9_does_12, dX9_does_13, dX9_does_14, dX9_does_16, dX9_does_17, dX9_does_19, dX9_does_20, dX9_does_23, dX9_does_24, dX9_does_25, dX9_does_28, dX9_does_30, dX9_does_33, dX9_does_34, dX9_does_35, dX9_does_36, dX9_does_37, dX9_does_39, dX9_does_42, dX9_does_43, dX9_does_44, dX9_does_47, dX9_does_50, dX9_does_51, dX9_does_52, dX9_does_53, dX9_does_54, dX9_does_55, dX9_does_58, dX9_does_59, dX9_does_60, dX9_does_63, dX9_does_66, dX9_does_67, dX9_does_70, dX9_does_71, dX9_does_72, dX9_does_73, dX9_does_74, dX9_does_76, dX9_does_79, dX9_does_80, dX9_does_83, dX9_does_84, dX9_does_85, dX9_does_86, dX9_does_88, dX9_does_91, dX9_does_92, dX9_does_95, dX9_does_96, dX9_does_97, dX9_does_99, dX9_does_100, dX9_does_101, dX9_does_103, dX9_does_104, dX9_does_107, dX9_does_108, dX9_does_111, dX9_does_112, dX9_does_113, dX9_does_114, dX9_does_117, dX9_does_118, dX9_does_119, dX9_does_120, dX9_does_121, dX9_does_124, dX9_does_125, dX9_does_127, dX9_does_130, dX9_does_133, dX9_does_134, dX9_does_135, dX9_does_138, dX9_does_139, dX9_does_141, dX9_does_144, dX9_does_147, dX9_does_148, dX9_does_149, dX9_does_152, dX9_does_153, dX9_does_154, dX9_does_157, dX9_does_159, dX9_does_162, dX9_does_164, dX9_does_167, dX9_does_168, dX9_does_171, dX9_does_172, ca_X9_does_133, ca_X9_does_154, ca_X9_does_161, ca_X9_does_164, ca_X9_does_200, ca_X9_does_203, e_aload_n0, e_callv, e_getfield, e_iadd, e_iaload, e_idiv, e_iload4, e_iload_n1, e_iload_n2, e_iload_n3, e_imul, e_irem, e_ireturn, e_istore4i, e_istore4n, e_istore4r, e_istore_n2i, e_istore_n2n, e_istore_n2r, e_istore_n3i, e_istore_n3n, e_istore_n3r, e_pop, ea_38, ea_39, ea_40, gf_X9_34_30, j_bp_10, j_bp_100, j_bp_31, j_bp_6, j_goto_108_4, j_goto_168_4, j_goto_80_4, j_ic_0, j_ic_1, j_ic_2, j_ic_3, j_ic_4, j_ic_5, j_icmp_lt_104_7, j_icmp_lt_76_7, j_icmp_ne_121_12, j_icmp_ne_135_12, j_icmp_ne_149_22, j_icmp_ne_164_7, j_icmp_ne_39_14, j_icmp_ne_55_30, j_icmp_ne_88_25, j_if_eq_114_5, j_if_ne_130_37, j_if_ne_144_23, j_if_ne_20_16, j_if_ne_63_20, jw_30_0, jw_30_2, jw_30_4, jw_30_7, jw_30_10, jw_30_19, jw_30_22, jw_30_27, jw_30_28, jw_30_29, jw_30_30, jw_30_31, jw_30_32, jw_30_35, jw_32, jw_32f, jw_33, jw_33f, jw_34, jw_34f, jw_35, jw_35f, jw_38, jw_38f, jw_41, jw_41f, jw_42, jw_42f, jw_43, jw_43f, jw_44, jw_44f, jw_45, jw_45f, jw_46, jw_46f, jw_39, jw_39f, jw_s39, jw_w39, jw_40, jw_40f, jw_s40, jw_w40, jw_47, jw_47f, jw_s47, jw_w47, jw_48, jw_48f, jw_s48, jw_w48, jw_z27, jw_z28, jw_z29, jw_z30, jw_z31, jw_z32, jw_z35, jw_l, uz_27_27, uz_27_28, uz_27_29, uz_27_30, uz_27_31, uz_27_32, uz_27_35, uz_28_27, uz_28_28, uz_28_29, uz_28_30, uz_28_31, uz_28_32, uz_28_35, uz_29_27, uz_29_28, uz_29_29, uz_29_30, uz_29_31, uz_29_32, uz_29_35, uz_30_27, uz_30_28, uz_30_29, uz_30_30, uz_30_31, uz_30_32, uz_30_35, uz_31_27, uz_31_28, uz_31_29, uz_31_30, uz_31_31, uz_31_32, uz_31_35, uz_32_27, uz_32_28, uz_32_29, uz_32_30, uz_32_31, uz_32_32, uz_32_35, uz_35_27, uz_35_28, uz_35_29, uz_35_30, uz_35_31, uz_35_32, uz_35_35, v1, v2, v3, g0, g1, w2, w3, w4, w5, w6, u0, gd, gh, nm, gv, ip, ld, if_true, if_false, ib_0, c0, c1, c5, c6, ab_rn, bi_0, bi_1, ite_not]
    by_cases c8 : g 0 < 10 * nI (b / 10 % 10) + nI (b % 10)
    · rw [if_pos c8]
      simp only [c8, if_true] at hh
      exact hh
    · rw [if_neg c8]
      simp only [c8, if_false] at hh
      exact hh
  rw [if_neg c6] at hh
  by_cases c9 : b / 10 % 10 = 0
  · rw [if_neg (fun hx => hx c9)] at hh
    by_cases c2 : b / 100 = 2
    · rw [if_pos c2] at hh
      have c3 : ¬ b / 100 = 3 := by omega
      have c4 : ¬ b / 100 = 4 := by omega
      refine ab_go hG [] 80 _ _ _ _ ?_
      simp (decide := true) only [ew_n, ew_0, Option.toList_some, Option.toList_none, List.cons_append, List.nil_append, true_and, and_true, List.length_cons, List.length_nil, Nat.reduceAdd, Nat.reduceLeDiff, Int32.reduceAdd, Int32.reduceSub, Int32.reduceMul, Int32.reduceLT, Int32.reduceLE, Int32.reduceToNatClampNeg, ↓reduceIte, and_self, si_1, si_2, sl_1, sl_2, false_and, and_false, dX9_does_0, dX9_does_1, dX9_does_3, dX9_does_4, dX9_does_5, dX9_does_6, dX9_does_8, dX9_does_9, dX9_does_11, dX9_does_12, dX9_does_13, dX9_does_14, dX9_does_16, dX9_does_17, dX9_does_19, dX9_does_20, dX9_does_23, dX9_does_24, dX9_does_25, dX9_does_28, dX9_does_30, dX9_does_33, dX9_does_34, dX9_does_35, dX9_does_36, dX9_does_37, dX9_does_39, dX9_does_42, dX9_does_43, dX9_does_44, dX9_does_47, dX9_does_50, dX9_does_51, dX9_does_52, dX9_does_53, dX9_does_54, dX9_does_55, dX9_does_58, dX9_does_59, dX9_does_60, dX9_does_63, dX9_does_66, dX9_does_67, dX9_does_70, dX9_does_71, dX9_does_72, dX9_does_73, dX9_does_74, dX9_does_76, dX9_does_79, dX9_does_80, dX9_does_83, dX9_does_84, dX9_does_85, dX9_does_86, dX9_does_88, dX9_does_91, dX9_does_92, dX9_does_95, dX9_does_96, dX9_does_97, dX9_does_99, dX9_does_100, dX9_does_101, dX9_does_103, dX9_does_104, dX9_does_107, dX9_does_108, dX9_does_111, dX9_does_112, dX9_does_113, dX9_does_114, dX9_does_117, dX9_does_118, dX9_does_119, dX9_does_120, dX9_does_121, dX9_does_124, dX9_does_125, dX9_does_127, dX9_does_130, dX9_does_133, dX9_does_134, dX9_does_135, dX9_does_138, dX9_does_139, dX9_does_141, dX9_does_144, dX9_does_147, dX9_does_148, dX9_does_149, dX9_does_152, dX9_does_153, dX9_does_154, dX9_does_157, dX9_does_159, dX9_does_162, dX9_does_164, dX9_does_167, dX9_does_168, dX9_does_171, dX9_does_172, ca_X9_does_133, ca_X9_does_154, ca_X9_does_161, ca_X9_does_164, ca_X9_does_200, ca_X9_does_203, e_aload_n0, e_callv, e_getfield, e_iadd, e_iaload, e_idiv, e_iload4, e_iload_n1, e_iload_n2, e_iload_n3, e_imul, e_irem, e_ireturn, e_istore4i, e_istore4n, e_istore4r, e_istore_n2i, e_istore_n2n, e_istore_n2r, e_istore_n3i, e_istore_n3n, e_istore_n3r, e_pop, ea_38, ea_39, ea_40, gf_X9_34_30, j_bp_10, j_bp_100, j_bp_31, j_bp_6, j_goto_108_4, j_goto_168_4, j_goto_80_4, j_ic_0, j_ic_1, j_ic_2, j_ic_3, j_ic_4, j_ic_5, j_icmp_lt_104_7, j_icmp_lt_76_7, j_icmp_ne_121_12, j_icmp_ne_135_12, j_icmp_ne_149_22, j_icmp_ne_164_7, j_icmp_ne_39_14, j_icmp_ne_55_30, j_icmp_ne_88_25, j_if_eq_114_5, j_if_ne_130_37, j_if_ne_144_23, j_if_ne_20_16, j_if_ne_63_20, jw_30_0, jw_30_2, jw_30_4, jw_30_7, jw_30_10, jw_30_19, jw_30_22, jw_30_27, jw_30_28, jw_30_29, jw_30_30, jw_30_31, jw_30_32, jw_30_35, jw_32, jw_32f, jw_33, jw_33f, jw_34, jw_34f, jw_35, jw_35f, jw_38, jw_38f, jw_41, jw_41f, jw_42, jw_42f, jw_43, jw_43f, jw_44, jw_44f, jw_45, jw_45f, jw_46, jw_46f, jw_39, jw_39f, jw_s39, jw_w39, jw_40, jw_40f, jw_s40, jw_w40, jw_47, jw_47f, jw_s47, jw_w47, jw_48, jw_48f, jw_s48, jw_w48, jw_z27, jw_z28, jw_z29, jw_z30, jw_z31, jw_z32, jw_z35, jw_l, uz_27_27, uz_27_28, uz_27_29, uz_27_30, uz_27_31, uz_27_32, uz_27_35, uz_28_27, uz_28_28, uz_28_29, uz_28_30, uz_28_31, uz_28_32, uz_28_35, uz_29_27, uz_29_28, uz_29_29, uz_29_30, uz_29_31, uz_29_32, uz_29_35, uz_30_27, uz_30_28, uz_30_29, uz_30_30, uz_30_31, uz_30_32, uz_30_35, uz_31_27, uz_31_28, uz_31_29, uz_31_30, uz_31_31, uz_31_32, uz_31_35, uz_32_27, uz_32_28, uz_32_29, uz_32_30, uz_32_31, uz_32_32, uz_32_35, uz_35_27, uz_35_28, uz_35_29, uz_35_30, uz_35_31, uz_35_32, uz_35_35, v1, v2, v3, g0, g1, w2, w3, w4, w5, w6, u0, gd, gh, nm, gv, ip, ld, if_true, if_false, ib_0, c0, c1, c5, c6, c9, c2, c3, c4, ab_rn, bi_0, bi_1, ite_not]
      by_cases c8 : b % 10 < n ∧ g (2 + b % 10) < 9
      · simp only [c8, and_self, if_true] at hh ⊢
        exact hh
      · simp only [c8, if_false] at hh ⊢
        exact hh
    rw [if_neg c2] at hh
    by_cases c3 : b / 100 = 3
    · rw [if_pos c3] at hh
      have c4 : ¬ b / 100 = 4 := by omega
      refine ab_go hG [] 80 _ _ _ _ ?_
      simp (decide := true) only [ew_n, ew_0, Option.toList_some, Option.toList_none, List.cons_append, List.nil_append, true_and, and_true, List.length_cons, List.length_nil, Nat.reduceAdd, Nat.reduceLeDiff, Int32.reduceAdd, Int32.reduceSub, Int32.reduceMul, Int32.reduceLT, Int32.reduceLE, Int32.reduceToNatClampNeg, ↓reduceIte, and_self, si_1, si_2, sl_1, sl_2, false_and, and_false, dX9_does_0, dX9_does_1, dX9_does_3, dX9_does_4, dX9_does_5, dX9_does_6, dX9_does_8, dX9_does_9, dX9_does_11, dX9_does_12, dX9_does_13, dX9_does_14, dX9_does_16, dX9_does_17, dX9_does_19, dX9_does_20, dX9_does_23, dX9_does_24, dX9_does_25, dX9_does_28, dX9_does_30, dX9_does_33, dX9_does_34, dX9_does_35, dX9_does_36, dX9_does_37, dX9_does_39, dX9_does_42, dX9_does_43, dX9_does_44, dX9_does_47, dX9_does_50, dX9_does_51, dX9_does_52, dX9_does_53, dX9_does_54, dX9_does_55, dX9_does_58, dX9_does_59, dX9_does_60, dX9_does_63, dX9_does_66, dX9_does_67, dX9_does_70, dX9_does_71, dX9_does_72, dX9_does_73, dX9_does_74, dX9_does_76, dX9_does_79, dX9_does_80, dX9_does_83, dX9_does_84, dX9_does_85, dX9_does_86, dX9_does_88, dX9_does_91, dX9_does_92, dX9_does_95, dX9_does_96, dX9_does_97, dX9_does_99, dX9_does_100, dX9_does_101, dX9_does_103, dX9_does_104, dX9_does_107, dX9_does_108, dX9_does_111, dX9_does_112, dX9_does_113, dX9_does_114, dX9_does_117, dX9_does_118, dX9_does_119, dX9_does_120, dX9_does_121, dX9_does_124, dX9_does_125, dX9_does_127, dX9_does_130, dX9_does_133, dX9_does_134, dX9_does_135, dX9_does_138, dX9_does_139, dX9_does_141, dX9_does_144, dX9_does_147, dX9_does_148, dX9_does_149, dX9_does_152, dX9_does_153, dX9_does_154, dX9_does_157, dX9_does_159, dX9_does_162, dX9_does_164, dX9_does_167, dX9_does_168, dX9_does_171, dX9_does_172, ca_X9_does_133, ca_X9_does_154, ca_X9_does_161, ca_X9_does_164, ca_X9_does_200, ca_X9_does_203, e_aload_n0, e_callv, e_getfield, e_iadd, e_iaload, e_idiv, e_iload4, e_iload_n1, e_iload_n2, e_iload_n3, e_imul, e_irem, e_ireturn, e_istore4i, e_istore4n, e_istore4r, e_istore_n2i, e_istore_n2n, e_istore_n2r, e_istore_n3i, e_istore_n3n, e_istore_n3r, e_pop, ea_38, ea_39, ea_40, gf_X9_34_30, j_bp_10, j_bp_100, j_bp_31, j_bp_6, j_goto_108_4, j_goto_168_4, j_goto_80_4, j_ic_0, j_ic_1, j_ic_2, j_ic_3, j_ic_4, j_ic_5, j_icmp_lt_104_7, j_icmp_lt_76_7, j_icmp_ne_121_12, j_icmp_ne_135_12, j_icmp_ne_149_22, j_icmp_ne_164_7, j_icmp_ne_39_14, j_icmp_ne_55_30, j_icmp_ne_88_25, j_if_eq_114_5, j_if_ne_130_37, j_if_ne_144_23, j_if_ne_20_16, j_if_ne_63_20, jw_30_0, jw_30_2, jw_30_4, jw_30_7, jw_30_10, jw_30_19, jw_30_22, jw_30_27, jw_30_28, jw_30_29, jw_30_30, jw_30_31, jw_30_32, jw_30_35, jw_32, jw_32f, jw_33, jw_33f, jw_34, jw_34f, jw_35, jw_35f, jw_38, jw_38f, jw_41, jw_41f, jw_42, jw_42f, jw_43, jw_43f, jw_44, jw_44f, jw_45, jw_45f, jw_46, jw_46f, jw_39, jw_39f, jw_s39, jw_w39, jw_40, jw_40f, jw_s40, jw_w40, jw_47, jw_47f, jw_s47, jw_w47, jw_48, jw_48f, jw_s48, jw_w48, jw_z27, jw_z28, jw_z29, jw_z30, jw_z31, jw_z32, jw_z35, jw_l, uz_27_27, uz_27_28, uz_27_29, uz_27_30, uz_27_31, uz_27_32, uz_27_35, uz_28_27, uz_28_28, uz_28_29, uz_28_30, uz_28_31, uz_28_32, uz_28_35, uz_29_27, uz_29_28, uz_29_29, uz_29_30, uz_29_31, uz_29_32, uz_29_35, uz_30_27, uz_30_28, uz_30_29, uz_30_30, uz_30_31, uz_30_32, uz_30_35, uz_31_27, uz_31_28, uz_31_29, uz_31_30, uz_31_31, uz_31_32, uz_31_35, uz_32_27, uz_32_28, uz_32_29, uz_32_30, uz_32_31, uz_32_32, uz_32_35, uz_35_27, uz_35_28, uz_35_29, uz_35_30, uz_35_31, uz_35_32, uz_35_35, v1, v2, v3, g0, g1, w2, w3, w4, w5, w6, u0, gd, gh, nm, gv, ip, ld, if_true, if_false, ib_0, c0, c1, c5, c6, c9, c2, c3, c4, ab_rn, bi_0, bi_1, ite_not]
      by_cases c8 : b % 10 < n ∧ 0 < g (2 + b % 10)
      · simp only [c8, and_self, if_true] at hh ⊢
        exact hh
      · simp only [c8, if_false] at hh ⊢
        exact hh
    rw [if_neg c3] at hh
    by_cases c4 : b / 100 = 4
    · rw [if_pos c4] at hh
      refine ab_go hG [] 80 _ _ _ _ ?_
      simp (decide := true) only [ew_n, ew_0, Option.toList_some, Option.toList_none, List.cons_append, List.nil_append, true_and, and_true, List.length_cons, List.length_nil, Nat.reduceAdd, Nat.reduceLeDiff, Int32.reduceAdd, Int32.reduceSub, Int32.reduceMul, Int32.reduceLT, Int32.reduceLE, Int32.reduceToNatClampNeg, ↓reduceIte, and_self, si_1, si_2, sl_1, sl_2, false_and, and_false, dX9_does_0, dX9_does_1, dX9_does_3, dX9_does_4, dX9_does_5, dX9_does_6, dX9_does_8, dX9_does_9, dX9_does_11, dX9_does_12, dX9_does_13, dX9_does_14, dX9_does_16, dX9_does_17, dX9_does_19, dX9_does_20, dX9_does_23, dX9_does_24, dX9_does_25, dX9_does_28, dX9_does_30, dX9_does_33, dX9_does_34, dX9_does_35, dX9_does_36, dX9_does_37, dX9_does_39, dX9_does_42, dX9_does_43, dX9_does_44, dX9_does_47, dX9_does_50, dX9_does_51, dX9_does_52, dX9_does_53, dX9_does_54, dX9_does_55, dX9_does_58, dX9_does_59, dX9_does_60, dX9_does_63, dX9_does_66, dX9_does_67, dX9_does_70, dX9_does_71, dX9_does_72, dX9_does_73, dX9_does_74, dX9_does_76, dX9_does_79, dX9_does_80, dX9_does_83, dX9_does_84, dX9_does_85, dX9_does_86, dX9_does_88, dX9_does_91, dX9_does_92, dX9_does_95, dX9_does_96, dX9_does_97, dX9_does_99, dX9_does_100, dX9_does_101, dX9_does_103, dX9_does_104, dX9_does_107, dX9_does_108, dX9_does_111, dX9_does_112, dX9_does_113, dX9_does_114, dX9_does_117, dX9_does_118, dX9_does_119, dX9_does_120, dX9_does_121, dX9_does_124, dX9_does_125, dX9_does_127, dX9_does_130, dX9_does_133, dX9_does_134, dX9_does_135, dX9_does_138, dX9_does_139, dX9_does_141, dX9_does_144, dX9_does_147, dX9_does_148, dX9_does_149, dX9_does_152, dX9_does_153, dX9_does_154, dX9_does_157, dX9_does_159, dX9_does_162, dX9_does_164, dX9_does_167, dX9_does_168, dX9_does_171, dX9_does_172, ca_X9_does_133, ca_X9_does_154, ca_X9_does_161, ca_X9_does_164, ca_X9_does_200, ca_X9_does_203, e_aload_n0, e_callv, e_getfield, e_iadd, e_iaload, e_idiv, e_iload4, e_iload_n1, e_iload_n2, e_iload_n3, e_imul, e_irem, e_ireturn, e_istore4i, e_istore4n, e_istore4r, e_istore_n2i, e_istore_n2n, e_istore_n2r, e_istore_n3i, e_istore_n3n, e_istore_n3r, e_pop, ea_38, ea_39, ea_40, gf_X9_34_30, j_bp_10, j_bp_100, j_bp_31, j_bp_6, j_goto_108_4, j_goto_168_4, j_goto_80_4, j_ic_0, j_ic_1, j_ic_2, j_ic_3, j_ic_4, j_ic_5, j_icmp_lt_104_7, j_icmp_lt_76_7, j_icmp_ne_121_12, j_icmp_ne_135_12, j_icmp_ne_149_22, j_icmp_ne_164_7, j_icmp_ne_39_14, j_icmp_ne_55_30, j_icmp_ne_88_25, j_if_eq_114_5, j_if_ne_130_37, j_if_ne_144_23, j_if_ne_20_16, j_if_ne_63_20, jw_30_0, jw_30_2, jw_30_4, jw_30_7, jw_30_10, jw_30_19, jw_30_22, jw_30_27, jw_30_28, jw_30_29, jw_30_30, jw_30_31, jw_30_32, jw_30_35, jw_32, jw_32f, jw_33, jw_33f, jw_34, jw_34f, jw_35, jw_35f, jw_38, jw_38f, jw_41, jw_41f, jw_42, jw_42f, jw_43, jw_43f, jw_44, jw_44f, jw_45, jw_45f, jw_46, jw_46f, jw_39, jw_39f, jw_s39, jw_w39, jw_40, jw_40f, jw_s40, jw_w40, jw_47, jw_47f, jw_s47, jw_w47, jw_48, jw_48f, jw_s48, jw_w48, jw_z27, jw_z28, jw_z29, jw_z30, jw_z31, jw_z32, jw_z35, jw_l, uz_27_27, uz_27_28, uz_27_29, uz_27_30, uz_27_31, uz_27_32, uz_27_35, uz_28_27, uz_28_28, uz_28_29, uz_28_30, uz_28_31, uz_28_32, uz_28_35, uz_29_27, uz_29_28, uz_29_29, uz_29_30, uz_29_31, uz_29_32, uz_29_35, uz_30_27, uz_30_28, uz_30_29, uz_30_30, uz_30_31, uz_30_32, uz_30_35, uz_31_27, uz_31_28, uz_31_29, uz_31_30, uz_31_31, uz_31_32, uz_31_35, uz_32_27, uz_32_28, uz_32_29, uz_32_30, uz_32_31, uz_32_32, uz_32_35, uz_35_27, uz_35_28, uz_35_29, uz_35_30, uz_35_31, uz_35_32, uz_35_35, v1, v2, v3, g0, g1, w2, w3, w4, w5, w6, u0, gd, gh, nm, gv, ip, ld, if_true, if_false, ib_0, c0, c1, c5, c6, c9, c2, c3, c4, ab_rn, bi_0, bi_1, ite_not]
      by_cases c8 : fv_M (lm_l N g 31 n none) = nI (b % 10)
      · simp only [c8, if_true] at hh ⊢
        exact hh
      · simp only [c8, if_false] at hh ⊢
        exact hh
    · rw [if_neg c4] at hh
      refine ab_go hG [] 80 _ _ _ _ ?_
      simp (decide := true) only [ew_n, ew_0, Option.toList_some, Option.toList_none, List.cons_append, List.nil_append, true_and, and_true, List.length_cons, List.length_nil, Nat.reduceAdd, Nat.reduceLeDiff, Int32.reduceAdd, Int32.reduceSub, Int32.reduceMul, Int32.reduceLT, Int32.reduceLE, Int32.reduceToNatClampNeg, ↓reduceIte, and_self, si_1, si_2, sl_1, sl_2, false_and, and_false, dX9_does_0, dX9_does_1, dX9_does_3, dX9_does_4, dX9_does_5, dX9_does_6, dX9_does_8, dX9_does_9, dX9_does_11, dX9_does_12, dX9_does_13, dX9_does_14, dX9_does_16, dX9_does_17, dX9_does_19, dX9_does_20, dX9_does_23, dX9_does_24, dX9_does_25, dX9_does_28, dX9_does_30, dX9_does_33, dX9_does_34, dX9_does_35, dX9_does_36, dX9_does_37, dX9_does_39, dX9_does_42, dX9_does_43, dX9_does_44, dX9_does_47, dX9_does_50, dX9_does_51, dX9_does_52, dX9_does_53, dX9_does_54, dX9_does_55, dX9_does_58, dX9_does_59, dX9_does_60, dX9_does_63, dX9_does_66, dX9_does_67, dX9_does_70, dX9_does_71, dX9_does_72, dX9_does_73, dX9_does_74, dX9_does_76, dX9_does_79, dX9_does_80, dX9_does_83, dX9_does_84, dX9_does_85, dX9_does_86, dX9_does_88, dX9_does_91, dX9_does_92, dX9_does_95, dX9_does_96, dX9_does_97, dX9_does_99, dX9_does_100, dX9_does_101, dX9_does_103, dX9_does_104, dX9_does_107, dX9_does_108, dX9_does_111, dX9_does_112, dX9_does_113, dX9_does_114, dX9_does_117, dX9_does_118, dX9_does_119, dX9_does_120, dX9_does_121, dX9_does_124, dX9_does_125, dX9_does_127, dX9_does_130, dX9_does_133, dX9_does_134, dX9_does_135, dX9_does_138, dX9_does_139, dX9_does_141, dX9_does_144, dX9_does_147, dX9_does_148, dX9_does_149, dX9_does_152, dX9_does_153, dX9_does_154, dX9_does_157, dX9_does_159, dX9_does_162, dX9_does_164, dX9_does_167, dX9_does_168, dX9_does_171, dX9_does_172, ca_X9_does_133, ca_X9_does_154, ca_X9_does_161, ca_X9_does_164, ca_X9_does_200, ca_X9_does_203, e_aload_n0, e_callv, e_getfield, e_iadd, e_iaload, e_idiv, e_iload4, e_iload_n1, e_iload_n2, e_iload_n3, e_imul, e_irem, e_ireturn, e_istore4i, e_istore4n, e_istore4r, e_istore_n2i, e_istore_n2n, e_istore_n2r, e_istore_n3i, e_istore_n3n, e_istore_n3r, e_pop, ea_38, ea_39, ea_40, gf_X9_34_30, j_bp_10, j_bp_100, j_bp_31, j_bp_6, j_goto_108_4, j_goto_168_4, j_goto_80_4, j_ic_0, j_ic_1, j_ic_2, j_ic_3, j_ic_4, j_ic_5, j_icmp_lt_104_7, j_icmp_lt_76_7, j_icmp_ne_121_12, j_icmp_ne_135_12, j_icmp_ne_149_22, j_icmp_ne_164_7, j_icmp_ne_39_14, j_icmp_ne_55_30, j_icmp_ne_88_25, j_if_eq_114_5, j_if_ne_130_37, j_if_ne_144_23, j_if_ne_20_16, j_if_ne_63_20, jw_30_0, jw_30_2, jw_30_4, jw_30_7, jw_30_10, jw_30_19, jw_30_22, jw_30_27, jw_30_28, jw_30_29, jw_30_30, jw_30_31, jw_30_32, jw_30_35, jw_32, jw_32f, jw_33, jw_33f, jw_34, jw_34f, jw_35, jw_35f, jw_38, jw_38f, jw_41, jw_41f, jw_42, jw_42f, jw_43, jw_43f, jw_44, jw_44f, jw_45, jw_45f, jw_46, jw_46f, jw_39, jw_39f, jw_s39, jw_w39, jw_40, jw_40f, jw_s40, jw_w40, jw_47, jw_47f, jw_s47, jw_w47, jw_48, jw_48f, jw_s48, jw_w48, jw_z27, jw_z28, jw_z29, jw_z30, jw_z31, jw_z32, jw_z35, jw_l, uz_27_27, uz_27_28, uz_27_29, uz_27_30, uz_27_31, uz_27_32, uz_27_35, uz_28_27, uz_28_28, uz_28_29, uz_28_30, uz_28_31, uz_28_32, uz_28_35, uz_29_27, uz_29_28, uz_29_29, uz_29_30, uz_29_31, uz_29_32, uz_29_35, uz_30_27, uz_30_28, uz_30_29, uz_30_30, uz_30_31, uz_30_32, uz_30_35, uz_31_27, uz_31_28, uz_31_29, uz_31_30, uz_31_31, uz_31_32, uz_31_35, uz_32_27, uz_32_28, uz_32_29, uz_32_30, uz_32_31, uz_32_32, uz_32_35, uz_35_27, uz_35_28, uz_35_29, uz_35_30, uz_35_31, uz_35_32, uz_35_35, v1, v2, v3, g0, g1, w2, w3, w4, w5, w6, u0, gd, gh, nm, gv, ip, ld, if_true, if_false, ib_0, c0, c1, c5, c6, c9, c2, c3, c4, ab_rn, bi_0, bi_1, ite_not]
      exact hh
  · rw [if_pos c9] at hh
    refine ab_go hG [] 80 _ _ _ _ ?_
    simp (decide := true) only [ew_n, ew_0, Option.toList_some, Option.toList_none, List.cons_append, List.nil_append, true_and, and_true, List.length_cons, List.length_nil, Nat.reduceAdd, Nat.reduceLeDiff, Int32.reduceAdd, Int32.reduceSub, Int32.reduceMul, Int32.reduceLT, Int32.reduceLE, Int32.reduceToNatClampNeg, ↓reduceIte, and_self, si_1, si_2, sl_1, sl_2, false_and, and_false, dX9_does_0, dX9_does_1, dX9_does_3, dX9_does_4, dX9_does_5, dX9_does_6, dX9_does_8, dX9_does_9, dX9_does_11, dX9_does_12, dX9_does_13, dX9_does_14, dX9_does_16, dX9_does_17, dX9_does_19, dX9_does_20, dX9_does_23, dX9_does_24, dX9_does_25, dX9_does_28, dX9_does_30, dX9_does_33, dX9_does_34, dX9_does_35, dX9_does_36, dX9_does_37, dX9_does_39, dX9_does_42, dX9_does_43, dX9_does_44, dX9_does_47, dX9_does_50, dX9_does_51, dX9_does_52, dX9_does_53, dX9_does_54, dX9_does_55, dX9_does_58, dX9_does_59, dX9_does_60, dX9_does_63, dX9_does_66, dX9_does_67, dX9_does_70, dX9_does_71, dX9_does_72, dX9_does_73, dX9_does_74, dX9_does_76, dX9_does_79, dX9_does_80, dX9_does_83, dX9_does_84, dX9_does_85, dX9_does_86, dX9_does_88, dX9_does_91, dX9_does_92, dX9_does_95, dX9_does_96, dX9_does_97, dX9_does_99, dX9_does_100, dX9_does_101, dX9_does_103, dX9_does_104, dX9_does_107, dX9_does_108, dX9_does_111, dX9_does_112, dX9_does_113, dX9_does_114, dX9_does_117, dX9_does_118, dX9_does_119, dX9_does_120, dX9_does_121, dX9_does_124, dX9_does_125, dX9_does_127, dX9_does_130, dX9_does_133, dX9_does_134, dX9_does_135, dX9_does_138, dX9_does_139, dX9_does_141, dX9_does_144, dX9_does_147, dX9_does_148, dX9_does_149, dX9_does_152, dX9_does_153, dX9_does_154, dX9_does_157, dX9_does_159, dX9_does_162, dX9_does_164, dX9_does_167, dX9_does_168, dX9_does_171, dX9_does_172, ca_X9_does_133, ca_X9_does_154, ca_X9_does_161, ca_X9_does_164, ca_X9_does_200, ca_X9_does_203, e_aload_n0, e_callv, e_getfield, e_iadd, e_iaload, e_idiv, e_iload4, e_iload_n1, e_iload_n2, e_iload_n3, e_imul, e_irem, e_ireturn, e_istore4i, e_istore4n, e_istore4r, e_istore_n2i, e_istore_n2n, e_istore_n2r, e_istore_n3i, e_istore_n3n, e_istore_n3r, e_pop, ea_38, ea_39, ea_40, gf_X9_34_30, j_bp_10, j_bp_100, j_bp_31, j_bp_6, j_goto_108_4, j_goto_168_4, j_goto_80_4, j_ic_0, j_ic_1, j_ic_2, j_ic_3, j_ic_4, j_ic_5, j_icmp_lt_104_7, j_icmp_lt_76_7, j_icmp_ne_121_12, j_icmp_ne_135_12, j_icmp_ne_149_22, j_icmp_ne_164_7, j_icmp_ne_39_14, j_icmp_ne_55_30, j_icmp_ne_88_25, j_if_eq_114_5, j_if_ne_130_37, j_if_ne_144_23, j_if_ne_20_16, j_if_ne_63_20, jw_30_0, jw_30_2, jw_30_4, jw_30_7, jw_30_10, jw_30_19, jw_30_22, jw_30_27, jw_30_28, jw_30_29, jw_30_30, jw_30_31, jw_30_32, jw_30_35, jw_32, jw_32f, jw_33, jw_33f, jw_34, jw_34f, jw_35, jw_35f, jw_38, jw_38f, jw_41, jw_41f, jw_42, jw_42f, jw_43, jw_43f, jw_44, jw_44f, jw_45, jw_45f, jw_46, jw_46f, jw_39, jw_39f, jw_s39, jw_w39, jw_40, jw_40f, jw_s40, jw_w40, jw_47, jw_47f, jw_s47, jw_w47, jw_48, jw_48f, jw_s48, jw_w48, jw_z27, jw_z28, jw_z29, jw_z30, jw_z31, jw_z32, jw_z35, jw_l, uz_27_27, uz_27_28, uz_27_29, uz_27_30, uz_27_31, uz_27_32, uz_27_35, uz_28_27, uz_28_28, uz_28_29, uz_28_30, uz_28_31, uz_28_32, uz_28_35, uz_29_27, uz_29_28, uz_29_29, uz_29_30, uz_29_31, uz_29_32, uz_29_35, uz_30_27, uz_30_28, uz_30_29, uz_30_30, uz_30_31, uz_30_32, uz_30_35, uz_31_27, uz_31_28, uz_31_29, uz_31_30, uz_31_31, uz_31_32, uz_31_35, uz_32_27, uz_32_28, uz_32_29, uz_32_30, uz_32_31, uz_32_32, uz_32_35, uz_35_27, uz_35_28, uz_35_29, uz_35_30, uz_35_31, uz_35_32, uz_35_35, v1, v2, v3, g0, g1, w2, w3, w4, w5, w6, u0, gd, gh, nm, gv, ip, ld, if_true, if_false, ib_0, c0, c1, c5, c6, c9, ab_rn, bi_0, bi_1, ite_not]
    exact hh
set_option maxRecDepth 20000 in
set_option maxHeartbeats 4000000 in
theorem c_X9_does {l : Launch} : ab_ctr l yX9_does cX9_does 5 (some .boolean) 4 96 s_X9_does := by
  refine ab_met x_X9_does (by decide) rfl fo_X9 ko_X9 so_X9 rfl (ab_cs_cons (ab_kV c_X9_goDay ml_X9_161 v_X9_goDay ⟨rfl, rfl⟩ r_X9_goDay) (ab_cs_cons (ab_kV c_X9_goHalt ml_X9_164 v_X9_goHalt ⟨rfl, rfl⟩ r_X9_goHalt) (ab_cs_cons (ab_kV c_X9_noMan ml_X9_154 v_X9_noMan ⟨rfl, rfl⟩ r_X9_noMan) (ab_cs_cons (ab_kV c_X9_gravels ml_X9_200 v_X9_gravels ⟨rfl, rfl⟩ r_X9_gravels) (ab_cs_cons (ab_kV c_X9_isPulled ml_X9_203 v_X9_isPulled ⟨rfl, rfl⟩ r_X9_isPulled) (ab_cs_cons (ab_kV c_X9_leader ml_X9_133 v_X9_leader ⟨rfl, rfl⟩ r_X9_leader) ab_cs_nil)))))) ?_ ?_
  · intro as M Po h
    unfold s_X9_does at h
    split at h
    · simp [ab_e0]
    · exact h.elim
  · intro as M Po h G hG
    unfold s_X9_does at h
    split at h
    · simp only [ab_en, ab_e0, List.length_cons, List.length_nil, Nat.reduceAdd, Nat.reduceSub, List.replicate, List.cons_append, List.nil_append]
      obtain ⟨n, s, b, hc, hb, rfl, h⟩ := h
      have key := lA_X9_does hG (N := M) (z := M.1 30) (g := M.1 39) (h := M.1 40) (p := M.1 47) (q := M.1 48) hc hb (by
        rw [jw_w]
        exact h)
      rw [jw_id] at key
      exact key
    · exact h.elim

theorem doE {M : ab_M} {n s b : Nat} (hc : ct_M M n s) (hb : b < 1000) (z g h p q : Nat → Int32) (Po : ab_P) : s_X9_does [.ref 30, .int (nI b)] (jw M z g h p q) Po = Po (some (.int (do_M M n s b g).1)) (jw M z (do_M M n s b g).2 h p q) := by
  have e : ∀ (n s b : Nat), do_M (jw M z g h p q) n s b g = do_M M n s b g := fun n s b => do_env jw_dd jw_hk jw_lm
  refine propext ⟨fun h1 => ?_, fun h1 => ⟨n, s, b, hc, hb, rfl, ?_⟩⟩
  · obtain ⟨n', s', b', hc', hb', he, h2⟩ := h1
    obtain ⟨rfl, rfl⟩ := ct_u hc hc'
    have e2 : b = b' := (nI_eq (by omega) (by omega)).mp he
    subst e2
    rw [show (jw M z g h p q).1 39 = g from rfl, e, jw_w39] at h2
    exact h2
  · rw [show (jw M z g h p q).1 39 = g from rfl, e, jw_w39]
    exact h1
