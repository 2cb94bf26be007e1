/-! METHODS: the model, acts and days to come -/
theorem nt_r {N : ab_M} {a p : Nat} (h1 : p ≠ 30) (h2 : p ≠ 41) : (nt_M N a).1 p = N.1 p := by
  unfold nt_M
  split
  · funext b
    simp [ab_si, wt, h1, h2]
  · funext b
    simp [ab_si, wt, h1, h2]
theorem nt_n {N : ab_M} {a b : Nat} (h1 : b ≠ 19) : (nt_M N a).1 30 b = N.1 30 b := by
  unfold nt_M
  split
  · simp [ab_si, wt, h1]
  · simp [ab_si, wt, h1]
theorem nt_38 {N : ab_M} {a b : Nat} : (nt_M N a).1 38 b = N.1 38 b := by rw [nt_r (by decide) (by decide)]
theorem nt_38f {N : ab_M} {a : Nat} : (nt_M N a).1 38 = N.1 38 := nt_r (by decide) (by decide)
theorem nt_P {N : ab_M} {a k : Nat} {x : Int32} : ab_si (nt_M N a) 38 k x = wt (nt_M N a) 38 (up_f (N.1 38) k x) := by rw [si_wt, nt_38f]
theorem nt_dd {M : ab_M} {a n s : Nat} : dd_M (nt_M (t0 M) a) n s = dd_M M n s := (dd_env (M := t0 M) (N := nt_M (t0 M) a) (nt_n (by decide)) (nt_r (by decide) (by decide)) (nt_r (by decide) (by decide)) (nt_r (by decide) (by decide)) (nt_r (by decide) (by decide))).trans (dd_env (M := M) (N := t0 M) rfl rfl rfl rfl rfl)
theorem nt_hh {M : ab_M} {a n : Nat} : hh_M (nt_M (t0 M) a) n = hh_M M n := by
  have e : hk_M (nt_M (t0 M) a) = hk_M M := by
    funext P k
    exact (hk_env (M := t0 M) (N := nt_M (t0 M) a) (nt_r (by decide) (by decide)) P k).trans (hk_env (M := M) (N := t0 M) rfl P k)
  funext P
  simp only [hh_M, e]
theorem ac_u {a b : Nat} (ha : a ≤ 14) (hb : b ≤ 14) {x : Int32} (h1 : x = nI a) (h2 : x = nI b) : b = a := by
  rw [h1] at h2
  exact ((nI_eq (by omega) (by omega)).mp h2).symm
theorem noE {M : ab_M} {a : Nat} (ha : a ≤ 14) (hm : M.1 30 19 = nI a) (Po : ab_P) : s_X9_note [.ref 30] (t0 M) Po = Po none (nt_M (t0 M) a) := by
  refine propext ⟨fun h => ?_, fun h => ⟨a, ha, hm, h⟩⟩
  obtain ⟨b, hb, hm2, h⟩ := h
  have e := ac_u ha hb hm hm2
  subst e
  exact h
theorem gd38 {M : ab_M} {a n s : Nat} (hc : ct_M M n s) (w : Int32) (Po : ab_P) : s_X9_goDay [.ref 30, .ref 38, .int w] (nt_M (t0 M) a) Po = Po (some (.int (dd_M M n s (M.1 38) w).1)) (wt (nt_M (t0 M) a) 38 (dd_M M n s (M.1 38) w).2) := by
  have e7 : (nt_M (t0 M) a).1 30 7 = M.1 30 7 := nt_n (by decide)
  have e4 : (nt_M (t0 M) a).1 30 4 = M.1 30 4 := nt_n (by decide)
  refine propext ⟨fun h => ?_, fun h => ⟨by decide, n, s, hc.1, e7.trans hc.2.1, hc.2.2.1, e4.trans hc.2.2.2, ?_⟩⟩
  · obtain ⟨_, n', s', a1, a2, a3, a4, h⟩ := h
    obtain ⟨rfl, rfl⟩ := ct_u hc (n' := n') (s' := s') ⟨a1, e7.symm.trans a2, a3, e4.symm.trans a4⟩
    rw [nt_dd, nt_38f] at h
    exact h
  · rw [nt_dd, nt_38f]
    exact h
theorem gh38 {M : ab_M} {a n s : Nat} (hc : ct_M M n s) (Po : ab_P) : s_X9_goHalt [.ref 30, .ref 38] (nt_M (t0 M) a) Po = Po (some (.int (al_M (hh_M M n (M.1 38))))) (wt (nt_M (t0 M) a) 38 (hh_M M n (M.1 38))) := by
  have e7 : (nt_M (t0 M) a).1 30 7 = M.1 30 7 := nt_n (by decide)
  refine propext ⟨fun h => ?_, fun h => ⟨by decide, n, hc.1, e7.trans hc.2.1, ?_⟩⟩
  · obtain ⟨_, n', a1, a2, h⟩ := h
    obtain ⟨rfl, _⟩ := ct_u hc (n' := n') (s' := s) ⟨a1, e7.symm.trans a2, hc.2.2⟩
    rw [nt_hh, nt_38f] at h
    exact h
  · rw [nt_hh, nt_38f]
    exact h
theorem pr38 {M : ab_M} {a i : Nat} (hi : i < 5) (Po : ab_P) : s_X9_prick [.ref 38, .int (nI i)] (nt_M (t0 M) a) Po = Po none (wt (nt_M (t0 M) a) 38 (up_M (M.1 38) i)) := by
  refine propext ⟨fun h => ?_, fun h => ⟨by decide, i, hi, rfl, ?_⟩⟩
  · obtain ⟨_, j, hj, he, h⟩ := h
    have e : i = j := (nI_eq (by omega) (by omega)).mp he
    subst e
    rw [nt_38f] at h
    exact h
  · rw [nt_38f]
    exact h
/-- a row with the first k of another -/
def cpk (g f : Nat → Int32) (k : Nat) : Nat → Int32 := fun i => if i < k then g i else f i
theorem cpk_0 {g f : Nat → Int32} : cpk g f 0 = f := by funext i; simp [cpk]
theorem cpk_s {g f : Nat → Int32} {k : Nat} : up_f (cpk g f k) k (g k) = cpk g f (k + 1) := by
  funext i
  simp only [up_f, cpk]
  by_cases h : i = k
  · subst h
    rw [if_pos rfl, if_pos (by omega)]
  · rw [if_neg h]
    by_cases h2 : i < k
    · rw [if_pos h2, if_pos (by omega)]
    · rw [if_neg h2, if_neg (by omega)]
def s_X9_day : ab_Sem := fun as M Po => match as with
  | [.ref 30] => ∃ a n s : Nat, a ≤ 14 ∧ M.1 30 19 = nI a ∧ ct_M M n s ∧ Po (some (.int ((dd_M M n s (M.1 38) 31).1))) (wt (nt_M (t0 M) a) 38 (dd_M M n s (M.1 38) 31).2)
  | _ => False
theorem q_X9_day {M : ab_M} {Po : ab_P} : s_X9_day [.ref 30] M Po = (∃ a n s : Nat, a ≤ 14 ∧ M.1 30 19 = nI a ∧ ct_M M n s ∧ Po (some (.int ((dd_M M n s (M.1 38) 31).1))) (wt (nt_M (t0 M) a) 38 (dd_M M n s (M.1 38) 31).2)) := rfl
abbrev x_X9_day : ab_X := (some .int, fl_X9, [(316, 1, s_X9_note), (322, 3, s_X9_goDay)], kl_X9, gs_X9, ab_ros)
theorem ca_X9_day_158 {v0 : Value} {st : List Value} {M : ab_M} {k : List Value → ab_M → Prop} : ab_ca x_X9_day (2 * 158) (v0 :: st) M k = (st.length ≤ 4 ∧ s_X9_note [v0] M (fun r M' => k (r.toList ++ st) M')) := rfl
theorem ca_X9_day_161 {v0 v1 v2 : Value} {st : List Value} {M : ab_M} {k : List Value → ab_M → Prop} : ab_ca x_X9_day (2 * 161) (v2 :: v1 :: v0 :: st) M k = (st.length ≤ 4 ∧ s_X9_goDay [v0, v1, v2] M (fun r M' => k (r.toList ++ st) M')) := rfl
theorem r_X9_day : ∀ (as : List Value) (M : ab_M) (Po : ab_P), s_X9_day as M Po → ∃ (q : Nat) (as' : List Value) (ci : Nat) (T : u_T) (N : Nat) (fs : List ab_F), as = .ref q :: as' ∧ ab_sh[q]? = some (.inl (ci, fs)) ∧ vwCl[ci]? = some (yX9_day.cls, T, N) := by
  intro as M Po h
  unfold s_X9_day at h
  split at h
  · first | exact ⟨_, _, 9, _, _, _, rfl, rfl, rfl⟩ | (rcases h.1 with rfl | rfl | rfl <;> exact ⟨_, _, 9, _, _, _, rfl, rfl, rfl⟩)
  · exact h.elim
set_option maxRecDepth 20000 in
set_option maxHeartbeats 4000000 in
theorem c_X9_day {l : Launch} : ab_ctr l yX9_day cX9_day 1 (some .int) 4 96 s_X9_day := by
  refine ab_met x_X9_day (by decide) rfl fo_X9 ko_X9 so_X9 rfl (ab_cs_cons (ab_kV c_X9_note ml_X9_158 v_X9_note ⟨rfl, rfl⟩ r_X9_note) (ab_cs_cons (ab_kV c_X9_goDay ml_X9_161 v_X9_goDay ⟨rfl, rfl⟩ r_X9_goDay) ab_cs_nil)) ?_ ?_
  · intro as M Po h
    unfold s_X9_day at h
    split at h
    · simp [ab_e0]
    · exact h.elim
  · intro as M Po h G hG
    unfold s_X9_day at h
    split at h
    · simp only [ab_en, ab_e0, List.length_cons, List.length_nil, Nat.reduceAdd, Nat.reduceSub, List.replicate, List.cons_append, List.nil_append]
      obtain ⟨a, n, s, ha, hm, hc, h⟩ := h
      have no := noE ha hm
      have gd := fun w Po => gd38 (a := a) hc w Po
      refine ab_go hG [] 80 _ _ _ _ ?_
      simp (decide := true) only [ew_n, ew_0, Option.toList_some, Option.toList_none, List.cons_append, List.nil_append, true_and, and_true, List.length_cons, List.length_nil, Nat.reduceAdd, Nat.reduceLeDiff, Int32.reduceAdd, Int32.reduceSub, Int32.reduceMul, Int32.reduceLT, Int32.reduceLE, Int32.reduceToNatClampNeg, ↓reduceIte, and_self, si_1, si_2, sl_1, sl_2, false_and, and_false, dX9_day_0, dX9_day_1, dX9_day_2, dX9_day_5, dX9_day_6, dX9_day_9, dX9_day_10, dX9_day_11, dX9_day_14, dX9_day_16, dX9_day_19, ca_X9_day_158, ca_X9_day_161, e_aload_n0, e_callv, e_getfield, e_ireturn, e_putfield, gf_X9_31_30, j_bp_31, j_ic_0, pf_X9_65_30, t0_r, no, gd, ab_rn, bi_0, bi_1, ite_not]
      exact h
    · exact h.elim

def s_X9_halt : ab_Sem := fun as M Po => match as with
  | [.ref 30] => ∃ a n s : Nat, a ≤ 14 ∧ M.1 30 19 = nI a ∧ ct_M M n s ∧ Po (some (.int (al_M (hh_M M n (M.1 38))))) (wt (nt_M (t0 M) a) 38 (hh_M M n (M.1 38)))
  | _ => False
theorem q_X9_halt {M : ab_M} {Po : ab_P} : s_X9_halt [.ref 30] M Po = (∃ a n s : Nat, a ≤ 14 ∧ M.1 30 19 = nI a ∧ ct_M M n s ∧ Po (some (.int (al_M (hh_M M n (M.1 38))))) (wt (nt_M (t0 M) a) 38 (hh_M M n (M.1 38)))) := rfl
abbrev x_X9_halt : ab_X := (some .int, fl_X9, [(316, 1, s_X9_note), (328, 2, s_X9_goHalt)], kl_X9, gs_X9, ab_ros)
theorem ca_X9_halt_158 {v0 : Value} {st : List Value} {M : ab_M} {k : List Value → ab_M → Prop} : ab_ca x_X9_halt (2 * 158) (v0 :: st) M k = (st.length ≤ 4 ∧ s_X9_note [v0] M (fun r M' => k (r.toList ++ st) M')) := rfl
theorem ca_X9_halt_164 {v0 v1 : Value} {st : List Value} {M : ab_M} {k : List Value → ab_M → Prop} : ab_ca x_X9_halt (2 * 164) (v1 :: v0 :: st) M k = (st.length ≤ 4 ∧ s_X9_goHalt [v0, v1] M (fun r M' => k (r.toList ++ st) M')) := rfl
theorem r_X9_halt : ∀ (as : List Value) (M : ab_M) (Po : ab_P), s_X9_halt as M Po → ∃ (q : Nat) (as' : List Value) (ci : Nat) (T : u_T) (N : Nat) (fs : List ab_F), as = .ref q :: as' ∧ ab_sh[q]? = some (.inl (ci, fs)) ∧ vwCl[ci]? = some (yX9_halt.cls, T, N) := by
  intro as M Po h
  unfold s_X9_halt at h
  split at h
  · first | exact ⟨_, _, 9, _, _, _, rfl, rfl, rfl⟩ | (rcases h.1 with rfl | rfl | rfl <;> exact ⟨_, _, 9, _, _, _, rfl, rfl, rfl⟩)
  · exact h.elim
set_option maxRecDepth 20000 in
set_option maxHeartbeats 4000000 in
theorem c_X9_halt {l : Launch} : ab_ctr l yX9_halt cX9_halt 1 (some .int) 2 43 s_X9_halt := by
  refine ab_met x_X9_halt (by decide) rfl fo_X9 ko_X9 so_X9 rfl (ab_cs_cons (ab_kV c_X9_note ml_X9_158 v_X9_note ⟨rfl, rfl⟩ r_X9_note) (ab_cs_cons (ab_kV c_X9_goHalt ml_X9_164 v_X9_goHalt ⟨rfl, rfl⟩ r_X9_goHalt) ab_cs_nil)) ?_ ?_
  · intro as M Po h
    unfold s_X9_halt at h
    split at h
    · simp [ab_e0]
    · exact h.elim
  · intro as M Po h G hG
    unfold s_X9_halt at h
    split at h
    · simp only [ab_en, ab_e0, List.length_cons, List.length_nil, Nat.reduceAdd, Nat.reduceSub, List.replicate, List.cons_append, List.nil_append]
      obtain ⟨a, n, s, ha, hm, hc, h⟩ := h
      have no := noE ha hm
      have gd := fun Po => gh38 (a := a) hc Po
      refine ab_go hG [] 80 _ _ _ _ ?_
      simp (decide := true) only [ew_n, ew_0, Option.toList_some, Option.toList_none, List.cons_append, List.nil_append, true_and, and_true, List.length_cons, List.length_nil, Nat.reduceAdd, Nat.reduceLeDiff, Int32.reduceAdd, Int32.reduceSub, Int32.reduceMul, Int32.reduceLT, Int32.reduceLE, Int32.reduceToNatClampNeg, ↓reduceIte, and_self, si_1, si_2, sl_1, sl_2, false_and, and_false, dX9_halt_0, dX9_halt_1, dX9_halt_2, dX9_halt_5, dX9_halt_6, dX9_halt_9, dX9_halt_10, dX9_halt_11, dX9_halt_14, dX9_halt_17, ca_X9_halt_158, ca_X9_halt_164, e_aload_n0, e_callv, e_getfield, e_ireturn, e_putfield, gf_X9_31_30, j_ic_0, pf_X9_65_30, t0_r, no, gd, ab_rn, bi_0, bi_1, ite_not]
      exact h
    · exact h.elim

def s_X9_gravel : ab_Sem := fun as M Po => match as with
  | [.ref 30, .int x] => ∃ a n s : Nat, a ≤ 14 ∧ M.1 30 19 = nI a ∧ ct_M M n s ∧ (∀ i, i < n → x = nI i → if M.1 38 (2 + i) = 9 then Po (some (.int (-4))) (t0 M) else Po (some (.int (up_M (M.1 38) i (2 + i)))) (wt (nt_M (t0 M) a) 38 (up_M (M.1 38) i))) ∧ ((∀ i, i < n → ¬ x = nI i) → Po (some (.int (-1))) (t0 M))
  | _ => False
theorem q_X9_gravel {x : Int32} {M : ab_M} {Po : ab_P} : s_X9_gravel [.ref 30, .int x] M Po = (∃ a n s : Nat, a ≤ 14 ∧ M.1 30 19 = nI a ∧ ct_M M n s ∧ (∀ i, i < n → x = nI i → if M.1 38 (2 + i) = 9 then Po (some (.int (-4))) (t0 M) else Po (some (.int (up_M (M.1 38) i (2 + i)))) (wt (nt_M (t0 M) a) 38 (up_M (M.1 38) i))) ∧ ((∀ i, i < n → ¬ x = nI i) → Po (some (.int (-1))) (t0 M))) := rfl
abbrev x_X9_gravel : ab_X := (some .int, fl_X9, [(308, 2, s_X9_noMan), (316, 1, s_X9_note), (279, 2, s_X9_prick)], kl_X9, gs_X9, ab_ros)
theorem ca_X9_gravel_154 {v0 v1 : Value} {st : List Value} {M : ab_M} {k : List Value → ab_M → Prop} : ab_ca x_X9_gravel (2 * 154) (v1 :: v0 :: st) M k = (st.length ≤ 4 ∧ s_X9_noMan [v0, v1] M (fun r M' => k (r.toList ++ st) M')) := rfl
theorem ca_X9_gravel_158 {v0 : Value} {st : List Value} {M : ab_M} {k : List Value → ab_M → Prop} : ab_ca x_X9_gravel (2 * 158) (v0 :: st) M k = (st.length ≤ 4 ∧ s_X9_note [v0] M (fun r M' => k (r.toList ++ st) M')) := rfl
theorem ca_X9_gravel_139 {v0 v1 : Value} {st : List Value} {M : ab_M} {k : List Value → ab_M → Prop} : ab_ca x_X9_gravel (2 * 139 + 1) (v1 :: v0 :: st) M k = (st.length ≤ 4 ∧ s_X9_prick [v0, v1] M (fun r M' => k (r.toList ++ st) M')) := rfl
theorem r_X9_gravel : ∀ (as : List Value) (M : ab_M) (Po : ab_P), s_X9_gravel as M Po → ∃ (q : Nat) (as' : List Value) (ci : Nat) (T : u_T) (N : Nat) (fs : List ab_F), as = .ref q :: as' ∧ ab_sh[q]? = some (.inl (ci, fs)) ∧ vwCl[ci]? = some (yX9_gravel.cls, T, N) := by
  intro as M Po h
  unfold s_X9_gravel at h
  split at h
  · first | exact ⟨_, _, 9, _, _, _, rfl, rfl, rfl⟩ | (rcases h.1 with rfl | rfl | rfl <;> exact ⟨_, _, 9, _, _, _, rfl, rfl, rfl⟩)
  · exact h.elim
set_option maxRecDepth 20000 in
set_option maxHeartbeats 4000000 in
theorem c_X9_gravel {l : Launch} : ab_ctr l yX9_gravel cX9_gravel 2 (some .int) 2 46 s_X9_gravel := by
  refine ab_met x_X9_gravel (by decide) rfl fo_X9 ko_X9 so_X9 rfl (ab_cs_cons (ab_kV c_X9_noMan ml_X9_154 v_X9_noMan ⟨rfl, rfl⟩ r_X9_noMan) (ab_cs_cons (ab_kV c_X9_note ml_X9_158 v_X9_note ⟨rfl, rfl⟩ r_X9_note) (ab_cs_cons (ab_kS c_X9_prick ml_X9_139 v_X9_prick ⟨rfl, rfl⟩) ab_cs_nil))) ?_ ?_
  · intro as M Po h
    unfold s_X9_gravel at h
    split at h
    · simp [ab_e0]
    · exact h.elim
  · intro as M Po h G hG
    unfold s_X9_gravel at h
    split at h
    · simp only [ab_en, ab_e0, List.length_cons, List.length_nil, Nat.reduceAdd, Nat.reduceSub, List.replicate, List.cons_append, List.nil_append]
      rename_i x
      obtain ⟨a, n, s, ha, hm, hc, hy, hz⟩ := h
      have no := noE ha hm
      by_cases hx : ∃ i, i < n ∧ x = nI i
      · obtain ⟨i, hi, rfl⟩ := hx
        have h := hy i hi rfl
        have h5 : i < 5 := by have := hc.1; omega
        have nm := nm_y (M := t0 M) hc.1 hc.2.1 hi
        have pr := fun Po => pr38 (M := M) (a := a) h5 Po
        obtain ⟨e1, e2, e3, e4⟩ := c_2i h5
        refine ab_go hG [] 80 _ _ _ _ ?_
        simp (decide := true) only [ew_n, ew_0, Option.toList_some, Option.toList_none, List.cons_append, List.nil_append, true_and, and_true, List.length_cons, List.length_nil, Nat.reduceAdd, Nat.reduceLeDiff, Int32.reduceAdd, Int32.reduceSub, Int32.reduceMul, Int32.reduceLT, Int32.reduceLE, Int32.reduceToNatClampNeg, ↓reduceIte, and_self, si_1, si_2, sl_1, sl_2, false_and, and_false, dX9_gravel_0, dX9_gravel_1, dX9_gravel_2, dX9_gravel_5, dX9_gravel_6, dX9_gravel_7, dX9_gravel_10, dX9_gravel_13, dX9_gravel_14, dX9_gravel_15, dX9_gravel_16, dX9_gravel_19, dX9_gravel_20, dX9_gravel_21, dX9_gravel_22, dX9_gravel_23, dX9_gravel_25, dX9_gravel_28, dX9_gravel_30, dX9_gravel_31, dX9_gravel_32, dX9_gravel_35, dX9_gravel_36, dX9_gravel_39, dX9_gravel_40, dX9_gravel_43, dX9_gravel_44, dX9_gravel_47, dX9_gravel_48, dX9_gravel_49, dX9_gravel_50, dX9_gravel_51, ca_X9_gravel_139, ca_X9_gravel_154, ca_X9_gravel_158, e_aload_n0, e_calls, e_callv, e_getfield, e_iadd, e_iaload, e_iload_n1, e_ireturn, e_putfield, ea_38, gf_X9_31_30, j_bp_9, j_bp_m4, j_ic_0, j_ic_2, j_ic_m1, j_icmp_ne_25_6, j_if_eq_10_5, pf_X9_65_30, t0_r, t0_l, t0_38f, t0_39f, t0_40f, t0_sm, t0_lm, t0_sa, t0_bg, t0_hk, t0_30_2, t0_30_3, t0_30_4, t0_30_7, t0_30_10, t0_30_11, t0_30_13, t0_30_19, t0_30_22, t0_30_26, t0_30_27, t0_30_28, t0_30_29, t0_30_30, t0_30_31, t0_30_32, t0_30_35, t0_31, t0_32, t0_33, t0_34, t0_35, t0_36, t0_37, t0_38, t0_39, t0_40, t0_41, t0_42, t0_43, t0_44, t0_45, t0_46, t0_47, t0_48, no, nm, pr, e1, hpp_38, ab_rn, bi_0, bi_1, ite_not]
        split
        · rename_i h2
          rw [if_pos h2] at h
          exact ⟨e2, h⟩
        · rename_i h2
          rw [if_neg h2] at h
          exact ⟨e2, e2, h⟩
      · have hx2 : ∀ i, i < n → ¬ x = nI i := fun i hi e => hx ⟨i, hi, e⟩
        have h := hz hx2
        have nm := nm_n (M := t0 M) hc.1 hc.2.1 hx2
        refine ab_go hG [] 80 _ _ _ _ ?_
        simp (decide := true) only [ew_n, ew_0, Option.toList_some, Option.toList_none, List.cons_append, List.nil_append, true_and, and_true, List.length_cons, List.length_nil, Nat.reduceAdd, Nat.reduceLeDiff, Int32.reduceAdd, Int32.reduceSub, Int32.reduceMul, Int32.reduceLT, Int32.reduceLE, Int32.reduceToNatClampNeg, ↓reduceIte, and_self, si_1, si_2, sl_1, sl_2, false_and, and_false, dX9_gravel_0, dX9_gravel_1, dX9_gravel_2, dX9_gravel_5, dX9_gravel_6, dX9_gravel_7, dX9_gravel_10, dX9_gravel_13, dX9_gravel_14, dX9_gravel_15, dX9_gravel_16, dX9_gravel_19, dX9_gravel_20, dX9_gravel_21, dX9_gravel_22, dX9_gravel_23, dX9_gravel_25, dX9_gravel_28, dX9_gravel_30, dX9_gravel_31, dX9_gravel_32, dX9_gravel_35, dX9_gravel_36, dX9_gravel_39, dX9_gravel_40, dX9_gravel_43, dX9_gravel_44, dX9_gravel_47, dX9_gravel_48, dX9_gravel_49, dX9_gravel_50, dX9_gravel_51, ca_X9_gravel_139, ca_X9_gravel_154, ca_X9_gravel_158, e_aload_n0, e_calls, e_callv, e_getfield, e_iadd, e_iaload, e_iload_n1, e_ireturn, e_putfield, ea_38, gf_X9_31_30, j_bp_9, j_bp_m4, j_ic_0, j_ic_2, j_ic_m1, j_icmp_ne_25_6, j_if_eq_10_5, pf_X9_65_30, t0_r, t0_l, t0_38f, t0_39f, t0_40f, t0_sm, t0_lm, t0_sa, t0_bg, t0_hk, t0_30_2, t0_30_3, t0_30_4, t0_30_7, t0_30_10, t0_30_11, t0_30_13, t0_30_19, t0_30_22, t0_30_26, t0_30_27, t0_30_28, t0_30_29, t0_30_30, t0_30_31, t0_30_32, t0_30_35, t0_31, t0_32, t0_33, t0_34, t0_35, t0_36, t0_37, t0_38, t0_39, t0_40, t0_41, t0_42, t0_43, t0_44, t0_45, t0_46, t0_47, t0_48, nm, ab_rn, bi_0, bi_1, ite_not]
        exact h
    · exact h.elim

def s_X9_pull : ab_Sem := fun as M Po => match as with
  | [.ref 30, .int x] => ∃ a n s : Nat, a ≤ 14 ∧ M.1 30 19 = nI a ∧ ct_M M n s ∧ (∀ i, i < n → x = nI i → if M.1 38 (2 + i) = 0 then Po (some (.int (-3))) (t0 M) else Po (some (.int (M.1 38 (2 + i) - 1))) (wt (nt_M (t0 M) a) 38 (up_f (M.1 38) (2 + i) (M.1 38 (2 + i) - 1)))) ∧ ((∀ i, i < n → ¬ x = nI i) → Po (some (.int (-1))) (t0 M))
  | _ => False
theorem q_X9_pull {x : Int32} {M : ab_M} {Po : ab_P} : s_X9_pull [.ref 30, .int x] M Po = (∃ a n s : Nat, a ≤ 14 ∧ M.1 30 19 = nI a ∧ ct_M M n s ∧ (∀ i, i < n → x = nI i → if M.1 38 (2 + i) = 0 then Po (some (.int (-3))) (t0 M) else Po (some (.int (M.1 38 (2 + i) - 1))) (wt (nt_M (t0 M) a) 38 (up_f (M.1 38) (2 + i) (M.1 38 (2 + i) - 1)))) ∧ ((∀ i, i < n → ¬ x = nI i) → Po (some (.int (-1))) (t0 M))) := rfl
abbrev x_X9_pull : ab_X := (some .int, fl_X9, [(308, 2, s_X9_noMan), (316, 1, s_X9_note)], kl_X9, gs_X9, ab_ros)
theorem ca_X9_pull_154 {v0 v1 : Value} {st : List Value} {M : ab_M} {k : List Value → ab_M → Prop} : ab_ca x_X9_pull (2 * 154) (v1 :: v0 :: st) M k = (st.length ≤ 4 ∧ s_X9_noMan [v0, v1] M (fun r M' => k (r.toList ++ st) M')) := rfl
theorem ca_X9_pull_158 {v0 : Value} {st : List Value} {M : ab_M} {k : List Value → ab_M → Prop} : ab_ca x_X9_pull (2 * 158) (v0 :: st) M k = (st.length ≤ 4 ∧ s_X9_note [v0] M (fun r M' => k (r.toList ++ st) M')) := rfl
theorem r_X9_pull : ∀ (as : List Value) (M : ab_M) (Po : ab_P), s_X9_pull as M Po → ∃ (q : Nat) (as' : List Value) (ci : Nat) (T : u_T) (N : Nat) (fs : List ab_F), as = .ref q :: as' ∧ ab_sh[q]? = some (.inl (ci, fs)) ∧ vwCl[ci]? = some (yX9_pull.cls, T, N) := by
  intro as M Po h
  unfold s_X9_pull at h
  split at h
  · first | exact ⟨_, _, 9, _, _, _, rfl, rfl, rfl⟩ | (rcases h.1 with rfl | rfl | rfl <;> exact ⟨_, _, 9, _, _, _, rfl, rfl, rfl⟩)
  · exact h.elim
set_option maxRecDepth 20000 in
set_option maxHeartbeats 4000000 in
theorem c_X9_pull {l : Launch} : ab_ctr l yX9_pull cX9_pull 2 (some .int) 2 46 s_X9_pull := by
  refine ab_met x_X9_pull (by decide) rfl fo_X9 ko_X9 so_X9 rfl (ab_cs_cons (ab_kV c_X9_noMan ml_X9_154 v_X9_noMan ⟨rfl, rfl⟩ r_X9_noMan) (ab_cs_cons (ab_kV c_X9_note ml_X9_158 v_X9_note ⟨rfl, rfl⟩ r_X9_note) ab_cs_nil)) ?_ ?_
  · intro as M Po h
    unfold s_X9_pull at h
    split at h
    · simp [ab_e0]
    · exact h.elim
  · intro as M Po h G hG
    unfold s_X9_pull at h
    split at h
    · simp only [ab_en, ab_e0, List.length_cons, List.length_nil, Nat.reduceAdd, Nat.reduceSub, List.replicate, List.cons_append, List.nil_append]
      rename_i x
      obtain ⟨a, n, s, ha, hm, hc, hy, hz⟩ := h
      have no := noE ha hm
      by_cases hx : ∃ i, i < n ∧ x = nI i
      · obtain ⟨i, hi, rfl⟩ := hx
        have h := hy i hi rfl
        have h5 : i < 5 := by have := hc.1; omega
        have nm := nm_y (M := t0 M) hc.1 hc.2.1 hi
        obtain ⟨e1, e2, e3, e4⟩ := c_2i h5
        refine ab_go hG [] 80 _ _ _ _ ?_
        simp (decide := true) only [ew_n, ew_0, Option.toList_some, Option.toList_none, List.cons_append, List.nil_append, true_and, and_true, List.length_cons, List.length_nil, Nat.reduceAdd, Nat.reduceLeDiff, Int32.reduceAdd, Int32.reduceSub, Int32.reduceMul, Int32.reduceLT, Int32.reduceLE, Int32.reduceToNatClampNeg, ↓reduceIte, and_self, si_1, si_2, sl_1, sl_2, false_and, and_false, dX9_pull_0, dX9_pull_1, dX9_pull_2, dX9_pull_5, dX9_pull_6, dX9_pull_7, dX9_pull_10, dX9_pull_13, dX9_pull_14, dX9_pull_15, dX9_pull_16, dX9_pull_19, dX9_pull_20, dX9_pull_21, dX9_pull_22, dX9_pull_23, dX9_pull_26, dX9_pull_28, dX9_pull_29, dX9_pull_30, dX9_pull_33, dX9_pull_34, dX9_pull_37, dX9_pull_38, dX9_pull_39, dX9_pull_40, dX9_pull_41, dX9_pull_42, dX9_pull_43, dX9_pull_44, dX9_pull_45, dX9_pull_46, dX9_pull_49, dX9_pull_50, dX9_pull_51, dX9_pull_52, dX9_pull_53, ca_X9_pull_154, ca_X9_pull_158, e_aload_n0, e_callv, e_dup2, e_getfield, e_iadd, e_iaload, e_iastore, e_iload_n1, e_ireturn, e_isub, e_putfield, ea_38, es_38, gf_X9_31_30, j_bp_m3, j_ic_0, j_ic_1, j_ic_2, j_ic_m1, j_if_eq_10_5, j_if_ne_23_6, pf_X9_65_30, t0_r, t0_l, t0_38f, t0_39f, t0_40f, t0_sm, t0_lm, t0_sa, t0_bg, t0_hk, t0_30_2, t0_30_3, t0_30_4, t0_30_7, t0_30_10, t0_30_11, t0_30_13, t0_30_19, t0_30_22, t0_30_26, t0_30_27, t0_30_28, t0_30_29, t0_30_30, t0_30_31, t0_30_32, t0_30_35, t0_31, t0_32, t0_33, t0_34, t0_35, t0_36, t0_37, t0_38, t0_39, t0_40, t0_41, t0_42, t0_43, t0_44, t0_45, t0_46, t0_47, t0_48, no, nm, e1, nt_38, nt_P, hpp_38, ab_rn, bi_0, bi_1, ite_not]
        split
        · rename_i h2
          rw [if_pos h2] at h
          exact ⟨e2, h⟩
        · rename_i h2
          rw [if_neg h2] at h
          exact ⟨e2, e2, e2, e2, h⟩
      · have hx2 : ∀ i, i < n → ¬ x = nI i := fun i hi e => hx ⟨i, hi, e⟩
        have h := hz hx2
        have nm := nm_n (M := t0 M) hc.1 hc.2.1 hx2
        refine ab_go hG [] 80 _ _ _ _ ?_
        simp (decide := true) only [ew_n, ew_0, Option.toList_some, Option.toList_none, List.cons_append, List.nil_append, true_and, and_true, List.length_cons, List.length_nil, Nat.reduceAdd, Nat.reduceLeDiff, Int32.reduceAdd, Int32.reduceSub, Int32.reduceMul, Int32.reduceLT, Int32.reduceLE, Int32.reduceToNatClampNeg, ↓reduceIte, and_self, si_1, si_2, sl_1, sl_2, false_and, and_false, dX9_pull_0, dX9_pull_1, dX9_pull_2, dX9_pull_5, dX9_pull_6, dX9_pull_7, dX9_pull_10, dX9_pull_13, dX9_pull_14, dX9_pull_15, dX9_pull_16, dX9_pull_19, dX9_pull_20, dX9_pull_21, dX9_pull_22, dX9_pull_23, dX9_pull_26, dX9_pull_28, dX9_pull_29, dX9_pull_30, dX9_pull_33, dX9_pull_34, dX9_pull_37, dX9_pull_38, dX9_pull_39, dX9_pull_40, dX9_pull_41, dX9_pull_42, dX9_pull_43, dX9_pull_44, dX9_pull_45, dX9_pull_46, dX9_pull_49, dX9_pull_50, dX9_pull_51, dX9_pull_52, dX9_pull_53, ca_X9_pull_154, ca_X9_pull_158, e_aload_n0, e_callv, e_dup2, e_getfield, e_iadd, e_iaload, e_iastore, e_iload_n1, e_ireturn, e_isub, e_putfield, ea_38, es_38, gf_X9_31_30, j_bp_m3, j_ic_0, j_ic_1, j_ic_2, j_ic_m1, j_if_eq_10_5, j_if_ne_23_6, pf_X9_65_30, t0_r, t0_l, t0_38f, t0_39f, t0_40f, t0_sm, t0_lm, t0_sa, t0_bg, t0_hk, t0_30_2, t0_30_3, t0_30_4, t0_30_7, t0_30_10, t0_30_11, t0_30_13, t0_30_19, t0_30_22, t0_30_26, t0_30_27, t0_30_28, t0_30_29, t0_30_30, t0_30_31, t0_30_32, t0_30_35, t0_31, t0_32, t0_33, t0_34, t0_35, t0_36, t0_37, t0_38, t0_39, t0_40, t0_41, t0_42, t0_43, t0_44, t0_45, t0_46, t0_47, t0_48, nm, ab_rn, bi_0, bi_1, ite_not]
        exact h
    · exact h.elim

theorem w38_41 {M : ab_M} {g : Nat → Int32} {b : Nat} : (wt M 38 g).1 41 b = M.1 41 b := rfl
theorem w38_42 {M : ab_M} {g : Nat → Int32} {b : Nat} : (wt M 38 g).1 42 b = M.1 42 b := rfl
theorem w38_30 {M : ab_M} {g : Nat → Int32} {b : Nat} : (wt M 38 g).1 30 b = M.1 30 b := rfl
theorem a19_19 {M : ab_M} {x : Int32} : (ab_si M 30 19 x).1 30 19 = x := rfl
theorem a19_41 {M : ab_M} {x : Int32} {b : Nat} : (ab_si M 30 19 x).1 41 b = M.1 41 b := rfl
/-- the memory with the last act undone -/
def ud_M (N : ab_M) (c : Nat) : ab_M := wt (ab_si N 30 19 (nI c)) 38 (cpk (fun i => N.1 41 (7 * c + i)) (N.1 38) 7)
def s_X9_undo : ab_Sem := fun as M Po => match as with
  | [.ref 30] => ∃ a : Nat, a ≤ 14 ∧ M.1 30 19 = nI a ∧ (if a = 0 then Po (some (.int (-3))) (t0 M) else Po (some (.int (nI (a - 1)))) (ud_M (t0 M) (a - 1)))
  | _ => False
theorem q_X9_undo {M : ab_M} {Po : ab_P} : s_X9_undo [.ref 30] M Po = (∃ a : Nat, a ≤ 14 ∧ M.1 30 19 = nI a ∧ (if a = 0 then Po (some (.int (-3))) (t0 M) else Po (some (.int (nI (a - 1)))) (ud_M (t0 M) (a - 1)))) := rfl
abbrev x_X9_undo : ab_X := (some .int, fl_X9, [], kl_X9, gs_X9, ab_ros)
theorem r_X9_undo : ∀ (as : List Value) (M : ab_M) (Po : ab_P), s_X9_undo as M Po → ∃ (q : Nat) (as' : List Value) (ci : Nat) (T : u_T) (N : Nat) (fs : List ab_F), as = .ref q :: as' ∧ ab_sh[q]? = some (.inl (ci, fs)) ∧ vwCl[ci]? = some (yX9_undo.cls, T, N) := by
  intro as M Po h
  unfold s_X9_undo at h
  split at h
  · first | exact ⟨_, _, 9, _, _, _, rfl, rfl, rfl⟩ | (rcases h.1 with rfl | rfl | rfl <;> exact ⟨_, _, 9, _, _, _, rfl, rfl, rfl⟩)
  · exact h.elim
set_option maxRecDepth 20000 in
set_option maxHeartbeats 4000000 in
theorem lq_X9_undo {G : ab_K} {Po : ab_P} (hG : ab_Clo cX9_undo x_X9_undo Po G) {N : ab_M} {c : Nat} {f : Nat → Int32} (hc : c < 14) (hm : N.1 30 19 = nI c) (h : Po (some (.int (nI c))) (wt N 38 (cpk (fun i => N.1 41 (7 * c + i)) f 7))) : ∀ j i : Nat, i + j = 7 → G 27 [some (.ref 30), some (.int (nI i))] [] (wt N 38 (cpk (fun i => N.1 41 (7 * c + i)) f i)) := by
  intro j
  induction j with
  | zero =>
    intro i hi
    have e : i = 7 := by omega
    subst e
    refine ab_go1 hG [27] 80 _ _ _ _ ?_
    simp (decide := true) only [ew_s, ew_0, Option.toList_some, Option.toList_none, List.cons_append, List.nil_append, true_and, and_true, List.length_cons, List.length_nil, Nat.reduceAdd, Nat.reduceLeDiff, Int32.reduceAdd, Int32.reduceSub, Int32.reduceMul, Int32.reduceLT, Int32.reduceLE, Int32.reduceToNatClampNeg, ↓reduceIte, and_self, si_1, si_2, sl_1, sl_2, false_and, and_false, dX9_undo_0, dX9_undo_1, dX9_undo_2, dX9_undo_5, dX9_undo_6, dX9_undo_9, dX9_undo_12, dX9_undo_14, dX9_undo_15, dX9_undo_16, dX9_undo_17, dX9_undo_20, dX9_undo_21, dX9_undo_22, dX9_undo_25, dX9_undo_26, dX9_undo_27, dX9_undo_28, dX9_undo_30, dX9_undo_33, dX9_undo_34, dX9_undo_37, dX9_undo_38, dX9_undo_39, dX9_undo_42, dX9_undo_44, dX9_undo_45, dX9_undo_48, dX9_undo_49, dX9_undo_50, dX9_undo_51, dX9_undo_52, dX9_undo_53, dX9_undo_56, dX9_undo_59, dX9_undo_60, dX9_undo_63, e_aload_n0, e_dupi, e_dupr, e_getfield, e_iadd, e_iaload, e_iastore, e_iload_n1, e_imul, e_ireturn, e_istore_n1i, e_istore_n1n, e_istore_n1r, e_isub, e_putfield, ea_38, ea_41, es_38, es_41, gf_X9_114_30, gf_X9_31_30, gf_X9_40_30, j_bp_7, j_bp_m3, j_goto_56_m29, j_ic_0, j_ic_1, j_icmp_ge_30_29, j_if_ne_9_6, j_ii_1_1, pf_X9_114_30, pf_X9_65_30, w38_30, hm, ab_rn, bi_0, bi_1, ite_not]
    exact h
  | succ j ih =>
    intro i hi
    obtain ⟨e1, e2⟩ := cI (i := i) (b := 7) (by omega) (by omega)
    obtain ⟨e3, e4⟩ := cI (i := 7 * c + i) (b := 98) (by omega) (by omega)
    have ih1 := ih (i + 1) (by omega)
    rw [← cpk_s] at ih1
    refine ab_go1 hG [27] 80 _ _ _ _ ?_
    simp (decide := true) only [ew_s, ew_0, Option.toList_some, Option.toList_none, List.cons_append, List.nil_append, true_and, and_true, List.length_cons, List.length_nil, Nat.reduceAdd, Nat.reduceLeDiff, Int32.reduceAdd, Int32.reduceSub, Int32.reduceMul, Int32.reduceLT, Int32.reduceLE, Int32.reduceToNatClampNeg, ↓reduceIte, and_self, si_1, si_2, sl_1, sl_2, false_and, and_false, dX9_undo_0, dX9_undo_1, dX9_undo_2, dX9_undo_5, dX9_undo_6, dX9_undo_9, dX9_undo_12, dX9_undo_14, dX9_undo_15, dX9_undo_16, dX9_undo_17, dX9_undo_20, dX9_undo_21, dX9_undo_22, dX9_undo_25, dX9_undo_26, dX9_undo_27, dX9_undo_28, dX9_undo_30, dX9_undo_33, dX9_undo_34, dX9_undo_37, dX9_undo_38, dX9_undo_39, dX9_undo_42, dX9_undo_44, dX9_undo_45, dX9_undo_48, dX9_undo_49, dX9_undo_50, dX9_undo_51, dX9_undo_52, dX9_undo_53, dX9_undo_56, dX9_undo_59, dX9_undo_60, dX9_undo_63, e_aload_n0, e_dupi, e_dupr, e_getfield, e_iadd, e_iaload, e_iastore, e_iload_n1, e_imul, e_ireturn, e_istore_n1i, e_istore_n1n, e_istore_n1r, e_isub, e_putfield, ea_38, ea_41, es_38, es_41, gf_X9_114_30, gf_X9_31_30, gf_X9_40_30, j_bp_7, j_bp_m3, j_goto_56_m29, j_ic_0, j_ic_1, j_icmp_ge_30_29, j_if_ne_9_6, j_ii_1_1, pf_X9_114_30, pf_X9_65_30, w38_30, w38_41, hm, i7_eq, e1, e3, wt_s, ab_rn, bi_0, bi_1, ite_not]
    rw [if_pos (show nI i < 7 from nI_lt (b := 7) (by omega) (by omega)), nI_1]
    exact ⟨e4, e2, ih1⟩
set_option maxRecDepth 20000 in
set_option maxHeartbeats 4000000 in
theorem c_X9_undo {l : Launch} : ab_ctr l yX9_undo cX9_undo 2 (some .int) 0 0 s_X9_undo := by
  refine ab_met x_X9_undo (by decide) rfl fo_X9 ko_X9 so_X9 rfl ab_cs_nil ?_ ?_
  · intro as M Po h
    unfold s_X9_undo at h
    split at h
    · simp [ab_e0]
    · exact h.elim
  · intro as M Po h G hG
    unfold s_X9_undo at h
    split at h
    · simp only [ab_en, ab_e0, List.length_cons, List.length_nil, Nat.reduceAdd, Nat.reduceSub, List.replicate, List.cons_append, List.nil_append]
      obtain ⟨a, ha, hm, h⟩ := h
      by_cases h0 : a = 0
      · rw [if_pos h0] at h
        subst h0
        rw [nI_0] at hm
        refine ab_go hG [27] 80 _ _ _ _ ?_
        simp (decide := true) only [ew_s, ew_0, Option.toList_some, Option.toList_none, List.cons_append, List.nil_append, true_and, and_true, List.length_cons, List.length_nil, Nat.reduceAdd, Nat.reduceLeDiff, Int32.reduceAdd, Int32.reduceSub, Int32.reduceMul, Int32.reduceLT, Int32.reduceLE, Int32.reduceToNatClampNeg, ↓reduceIte, and_self, si_1, si_2, sl_1, sl_2, false_and, and_false, dX9_undo_0, dX9_undo_1, dX9_undo_2, dX9_undo_5, dX9_undo_6, dX9_undo_9, dX9_undo_12, dX9_undo_14, dX9_undo_15, dX9_undo_16, dX9_undo_17, dX9_undo_20, dX9_undo_21, dX9_undo_22, dX9_undo_25, dX9_undo_26, dX9_undo_27, dX9_undo_28, dX9_undo_30, dX9_undo_33, dX9_undo_34, dX9_undo_37, dX9_undo_38, dX9_undo_39, dX9_undo_42, dX9_undo_44, dX9_undo_45, dX9_undo_48, dX9_undo_49, dX9_undo_50, dX9_undo_51, dX9_undo_52, dX9_undo_53, dX9_undo_56, dX9_undo_59, dX9_undo_60, dX9_undo_63, e_aload_n0, e_dupi, e_dupr, e_getfield, e_iadd, e_iaload, e_iastore, e_iload_n1, e_imul, e_ireturn, e_istore_n1i, e_istore_n1n, e_istore_n1r, e_isub, e_putfield, ea_38, ea_41, es_38, es_41, gf_X9_114_30, gf_X9_31_30, gf_X9_40_30, j_bp_7, j_bp_m3, j_goto_56_m29, j_ic_0, j_ic_1, j_icmp_ge_30_29, j_if_ne_9_6, j_ii_1_1, pf_X9_114_30, pf_X9_65_30, t0_r, t0_l, t0_38f, t0_39f, t0_40f, t0_sm, t0_lm, t0_sa, t0_bg, t0_hk, t0_30_2, t0_30_3, t0_30_4, t0_30_7, t0_30_10, t0_30_11, t0_30_13, t0_30_19, t0_30_22, t0_30_26, t0_30_27, t0_30_28, t0_30_29, t0_30_30, t0_30_31, t0_30_32, t0_30_35, t0_31, t0_32, t0_33, t0_34, t0_35, t0_36, t0_37, t0_38, t0_39, t0_40, t0_41, t0_42, t0_43, t0_44, t0_45, t0_46, t0_47, t0_48, hm, ab_rn, bi_0, bi_1, ite_not]
        exact h
      · rw [if_neg h0] at h
        obtain ⟨c, rfl⟩ : ∃ c, a = c + 1 := ⟨a - 1, by omega⟩
        rw [Nat.add_sub_cancel] at h
        have key := lq_X9_undo hG (N := ab_si (t0 M) 30 19 (nI c)) (c := c) (f := (t0 M).1 38) (by omega) rfl h 7 0 (by omega)
        rw [cpk_0, show wt (ab_si (t0 M) 30 19 (nI c)) 38 ((t0 M).1 38) = ab_si (t0 M) 30 19 (nI c) from wt_id (M := ab_si (t0 M) 30 19 (nI c)) (p := 38)] at key
        have hne : ¬ nI (c + 1) = 0 := nI_ne0 (by omega) (by omega)
        refine ab_go hG [27] 80 _ _ _ _ ?_
        simp (decide := true) only [ew_s, ew_0, Option.toList_some, Option.toList_none, List.cons_append, List.nil_append, true_and, and_true, List.length_cons, List.length_nil, Nat.reduceAdd, Nat.reduceLeDiff, Int32.reduceAdd, Int32.reduceSub, Int32.reduceMul, Int32.reduceLT, Int32.reduceLE, Int32.reduceToNatClampNeg, ↓reduceIte, and_self, si_1, si_2, sl_1, sl_2, false_and, and_false, dX9_undo_0, dX9_undo_1, dX9_undo_2, dX9_undo_5, dX9_undo_6, dX9_undo_9, dX9_undo_12, dX9_undo_14, dX9_undo_15, dX9_undo_16, dX9_undo_17, dX9_undo_20, dX9_undo_21, dX9_undo_22, dX9_undo_25, dX9_undo_26, dX9_undo_27, dX9_undo_28, dX9_undo_30, dX9_undo_33, dX9_undo_34, dX9_undo_37, dX9_undo_38, dX9_undo_39, dX9_undo_42, dX9_undo_44, dX9_undo_45, dX9_undo_48, dX9_undo_49, dX9_undo_50, dX9_undo_51, dX9_undo_52, dX9_undo_53, dX9_undo_56, dX9_undo_59, dX9_undo_60, dX9_undo_63, e_aload_n0, e_dupi, e_dupr, e_getfield, e_iadd, e_iaload, e_iastore, e_iload_n1, e_imul, e_ireturn, e_istore_n1i, e_istore_n1n, e_istore_n1r, e_isub, e_putfield, ea_38, ea_41, es_38, es_41, gf_X9_114_30, gf_X9_31_30, gf_X9_40_30, j_bp_7, j_bp_m3, j_goto_56_m29, j_ic_0, j_ic_1, j_icmp_ge_30_29, j_if_ne_9_6, j_ii_1_1, pf_X9_114_30, pf_X9_65_30, t0_r, t0_l, t0_38f, t0_39f, t0_40f, t0_sm, t0_lm, t0_sa, t0_bg, t0_hk, t0_30_2, t0_30_3, t0_30_4, t0_30_7, t0_30_10, t0_30_11, t0_30_13, t0_30_19, t0_30_22, t0_30_26, t0_30_27, t0_30_28, t0_30_29, t0_30_30, t0_30_31, t0_30_32, t0_30_35, t0_31, t0_32, t0_33, t0_34, t0_35, t0_36, t0_37, t0_38, t0_39, t0_40, t0_41, t0_42, t0_43, t0_44, t0_45, t0_46, t0_47, t0_48, hm, hne, nI_pred, ab_rn, bi_0, bi_1, ite_not]
        exact key
    · exact h.elim

def s_X9_later : ab_Sem := fun as M Po => match as with
  | [.ref 30, .int x, .int y] => ∃ n s : Nat, ct_M M n s ∧ (if ¬ x < 0 ∧ ¬ 40 < x then (if ¬ y < 0 ∧ ¬ 1 < y then (∀ N, jj (t0 M) N → if y = 0 then Po (some (.int (it_M (t0 M) n s 31 x.toNatClampNeg ((t0 M).1 38) 0))) N else Po (some (.int (fv_M (lm_l (t0 M) (it_M (t0 M) n s 31 x.toNatClampNeg ((t0 M).1 38)) 31 n none)))) N) else Po (some (.int (-2))) (t0 M)) else Po (some (.int (-2))) (t0 M))
  | _ => False
theorem q_X9_later {x y : Int32} {M : ab_M} {Po : ab_P} : s_X9_later [.ref 30, .int x, .int y] M Po = (∃ n s : Nat, ct_M M n s ∧ (if ¬ x < 0 ∧ ¬ 40 < x then (if ¬ y < 0 ∧ ¬ 1 < y then (∀ N, jj (t0 M) N → if y = 0 then Po (some (.int (it_M (t0 M) n s 31 x.toNatClampNeg ((t0 M).1 38) 0))) N else Po (some (.int (fv_M (lm_l (t0 M) (it_M (t0 M) n s 31 x.toNatClampNeg ((t0 M).1 38)) 31 n none)))) N) else Po (some (.int (-2))) (t0 M)) else Po (some (.int (-2))) (t0 M))) := rfl
abbrev x_X9_later : ab_X := (some .int, fl_X9, [(145, 3, s_X9_in), (338, 1, s_X9_begin), (344, 3, s_X9_goDays), (266, 3, s_X9_leader)], kl_X9, gs_X9, ab_ros)
theorem ca_X9_later_72 {v0 v1 v2 : Value} {st : List Value} {M : ab_M} {k : List Value → ab_M → Prop} : ab_ca x_X9_later (2 * 72 + 1) (v2 :: v1 :: v0 :: st) M k = (st.length ≤ 4 ∧ s_X9_in [v0, v1, v2] M (fun r M' => k (r.toList ++ st) M')) := rfl
theorem ca_X9_later_169 {v0 : Value} {st : List Value} {M : ab_M} {k : List Value → ab_M → Prop} : ab_ca x_X9_later (2 * 169) (v0 :: st) M k = (st.length ≤ 4 ∧ s_X9_begin [v0] M (fun r M' => k (r.toList ++ st) M')) := rfl
theorem ca_X9_later_172 {v0 v1 v2 : Value} {st : List Value} {M : ab_M} {k : List Value → ab_M → Prop} : ab_ca x_X9_later (2 * 172) (v2 :: v1 :: v0 :: st) M k = (st.length ≤ 4 ∧ s_X9_goDays [v0, v1, v2] M (fun r M' => k (r.toList ++ st) M')) := rfl
theorem ca_X9_later_133 {v0 v1 v2 : Value} {st : List Value} {M : ab_M} {k : List Value → ab_M → Prop} : ab_ca x_X9_later (2 * 133) (v2 :: v1 :: v0 :: st) M k = (st.length ≤ 4 ∧ s_X9_leader [v0, v1, v2] M (fun r M' => k (r.toList ++ st) M')) := rfl
theorem r_X9_later : ∀ (as : List Value) (M : ab_M) (Po : ab_P), s_X9_later as M Po → ∃ (q : Nat) (as' : List Value) (ci : Nat) (T : u_T) (N : Nat) (fs : List ab_F), as = .ref q :: as' ∧ ab_sh[q]? = some (.inl (ci, fs)) ∧ vwCl[ci]? = some (yX9_later.cls, T, N) := by
  intro as M Po h
  unfold s_X9_later at h
  split at h
  · first | exact ⟨_, _, 9, _, _, _, rfl, rfl, rfl⟩ | (rcases h.1 with rfl | rfl | rfl <;> exact ⟨_, _, 9, _, _, _, rfl, rfl, rfl⟩)
  · exact h.elim
set_option maxRecDepth 20000 in
set_option maxHeartbeats 4000000 in
theorem lA_X9_later {G : ab_K} {Po : ab_P} (hG : ab_Clo cX9_later x_X9_later Po G) {N : ab_M} {n s d : Nat} {y : Int32} {z g h p q : Nat → Int32} (hc : ct_M N n s) (hd : d < 2 ^ 31) (hh : ∀ N', jj N N' → if y = 0 then Po (some (.int (it_M N n s 31 d (N.1 38) 0))) N' else Po (some (.int (fv_M (lm_l N (it_M N n s 31 d (N.1 38)) 31 n none)))) N') : G 30 [some (.ref 30), some (.int (nI d)), some (.int y)] [] (jw N z g h p q) := by
  have gs := gsE hc d hd
  have ld := ldE hc
  have e0 := it_e7 (M := N) (s := s) hc.1 (e7_cp (f := g) (g := N.1 38)) 31 d
  have e1 := lm_e7 (M := N) e0 31 n none hc.1 (fun j e => by cases e)
  have e2 := e0 0 (by omega)
  refine ab_go hG [] 80 _ _ _ _ ?_
  simp (decide := true) only [ew_n, ew_0, Option.toList_some, Option.toList_none, List.cons_append, List.nil_append, true_and, and_true, List.length_cons, List.length_nil, Nat.reduceAdd, Nat.reduceLeDiff, Int32.reduceAdd, Int32.reduceSub, Int32.reduceMul, Int32.reduceLT, Int32.reduceLE, Int32.reduceToNatClampNeg, ↓reduceIte, and_self, si_1, si_2, sl_1, sl_2, false_and, and_false, dX9_later_0, dX9_later_1, dX9_later_2, dX9_later_5, dX9_later_6, dX9_later_7, dX9_later_8, dX9_later_11, dX9_later_14, dX9_later_17, dX9_later_18, dX9_later_19, dX9_later_20, dX9_later_21, dX9_later_24, dX9_later_27, dX9_later_29, dX9_later_30, dX9_later_31, dX9_later_34, dX9_later_35, dX9_later_36, dX9_later_38, dX9_later_41, dX9_later_42, dX9_later_45, dX9_later_46, dX9_later_49, dX9_later_50, dX9_later_51, dX9_later_54, dX9_later_55, dX9_later_56, dX9_later_59, dX9_later_61, dX9_later_64, ca_X9_later_133, ca_X9_later_169, ca_X9_later_172, ca_X9_later_72, e_aload_n0, e_calls, e_callv, e_getfield, e_i2l, e_iaload, e_iload_n1, e_iload_n2, e_ireturn, e_kl_X9_167, e_lconst0, e_lconst1, e_putfield, ea_38, ea_39, ea_40, gf_X9_34_30, j_bp_31, j_bp_m2, j_goto_51_13, j_ic_0, j_if_eq_14_13, j_if_ne_24_6, j_if_ne_42_12, pf_X9_65_30, q_X9_in, jw_30_0, jw_30_2, jw_30_4, jw_30_7, jw_30_10, jw_30_19, jw_30_22, jw_30_27, jw_30_28, jw_30_29, jw_30_30, jw_30_31, jw_30_32, jw_30_35, jw_32, jw_32f, jw_33, jw_33f, jw_34, jw_34f, jw_35, jw_35f, jw_38, jw_38f, jw_41, jw_41f, jw_42, jw_42f, jw_43, jw_43f, jw_44, jw_44f, jw_45, jw_45f, jw_46, jw_46f, jw_39, jw_39f, jw_s39, jw_w39, jw_40, jw_40f, jw_s40, jw_w40, jw_47, jw_47f, jw_s47, jw_w47, jw_48, jw_48f, jw_s48, jw_w48, jw_z27, jw_z28, jw_z29, jw_z30, jw_z31, jw_z32, jw_z35, jw_l, uz_27_27, uz_27_28, uz_27_29, uz_27_30, uz_27_31, uz_27_32, uz_27_35, uz_28_27, uz_28_28, uz_28_29, uz_28_30, uz_28_31, uz_28_32, uz_28_35, uz_29_27, uz_29_28, uz_29_29, uz_29_30, uz_29_31, uz_29_32, uz_29_35, uz_30_27, uz_30_28, uz_30_29, uz_30_30, uz_30_31, uz_30_32, uz_30_35, uz_31_27, uz_31_28, uz_31_29, uz_31_30, uz_31_31, uz_31_32, uz_31_35, uz_32_27, uz_32_28, uz_32_29, uz_32_30, uz_32_31, uz_32_32, uz_32_35, uz_35_27, uz_35_28, uz_35_29, uz_35_30, uz_35_31, uz_35_32, uz_35_35, bgE, gs, ld, e1, e2, ab_rn, bi_0, bi_1, ite_not]
  exact hh _ jj_i
set_option maxRecDepth 20000 in
set_option maxHeartbeats 4000000 in
theorem c_X9_later {l : Launch} : ab_ctr l yX9_later cX9_later 3 (some .int) 5 119 s_X9_later := by
  refine ab_met x_X9_later (by decide) rfl fo_X9 ko_X9 so_X9 rfl (ab_cs_cons (ab_kS c_X9_in ml_X9_72 v_X9_in ⟨rfl, rfl⟩) (ab_cs_cons (ab_kV c_X9_begin ml_X9_169 v_X9_begin ⟨rfl, rfl⟩ r_X9_begin) (ab_cs_cons (ab_kV c_X9_goDays ml_X9_172 v_X9_goDays ⟨rfl, rfl⟩ r_X9_goDays) (ab_cs_cons (ab_kV c_X9_leader ml_X9_133 v_X9_leader ⟨rfl, rfl⟩ r_X9_leader) ab_cs_nil)))) ?_ ?_
  · intro as M Po h
    unfold s_X9_later at h
    split at h
    · simp [ab_e0]
    · exact h.elim
  · intro as M Po h G hG
    unfold s_X9_later at h
    split at h
    · simp only [ab_en, ab_e0, List.length_cons, List.length_nil, Nat.reduceAdd, Nat.reduceSub, List.replicate, List.cons_append, List.nil_append]
      rename_i x y
      obtain ⟨n, s, hc, h⟩ := h
      by_cases h1 : ¬ x < 0 ∧ ¬ 40 < x
      · rw [if_pos h1] at h
        by_cases h2 : ¬ y < 0 ∧ ¬ 1 < y
        · rw [if_pos h2] at h
          obtain ⟨d, hd, rfl⟩ := nI_of h1.1
          rw [nI_clamp hd] at h
          have key := lA_X9_later hG (N := t0 M) (z := (t0 M).1 30) (g := (t0 M).1 39) (h := (t0 M).1 40) (p := (t0 M).1 47) (q := (t0 M).1 48) hc hd h
          rw [jw_id] at key
          refine ab_go hG [30] 80 _ _ _ _ ?_
          simp (decide := true) only [ew_s, ew_0, Option.toList_some, Option.toList_none, List.cons_append, List.nil_append, true_and, and_true, List.length_cons, List.length_nil, Nat.reduceAdd, Nat.reduceLeDiff, Int32.reduceAdd, Int32.reduceSub, Int32.reduceMul, Int32.reduceLT, Int32.reduceLE, Int32.reduceToNatClampNeg, ↓reduceIte, and_self, si_1, si_2, sl_1, sl_2, false_and, and_false, dX9_later_0, dX9_later_1, dX9_later_2, dX9_later_5, dX9_later_6, dX9_later_7, dX9_later_8, dX9_later_11, dX9_later_14, dX9_later_17, dX9_later_18, dX9_later_19, dX9_later_20, dX9_later_21, dX9_later_24, dX9_later_27, dX9_later_29, dX9_later_30, dX9_later_31, dX9_later_34, dX9_later_35, dX9_later_36, dX9_later_38, dX9_later_41, dX9_later_42, dX9_later_45, dX9_later_46, dX9_later_49, dX9_later_50, dX9_later_51, dX9_later_54, dX9_later_55, dX9_later_56, dX9_later_59, dX9_later_61, dX9_later_64, ca_X9_later_133, ca_X9_later_169, ca_X9_later_172, ca_X9_later_72, e_aload_n0, e_calls, e_callv, e_getfield, e_i2l, e_iaload, e_iload_n1, e_iload_n2, e_ireturn, e_kl_X9_167, e_lconst0, e_lconst1, e_putfield, ea_38, ea_39, ea_40, gf_X9_34_30, j_bp_31, j_bp_m2, j_goto_51_13, j_ic_0, j_if_eq_14_13, j_if_ne_24_6, j_if_ne_42_12, pf_X9_65_30, q_X9_in, wi_0, wi_lt, wi_g255, wi_g40, wi_g20, wi_g4, wi_g3, wi_g9, wi_g10, wi_g30, wi_g1, wi_l255, wi_l40, wi_l20, wi_l4, wi_l3, wi_l9, wi_l10, wi_l30, wi_l1, t0_r, ab_rn, bi_0, bi_1, ite_not]
          rw [if_pos h1, if_pos h2]
          exact key
        · rw [if_neg h2] at h
          refine ab_go hG [30] 80 _ _ _ _ ?_
          simp (decide := true) only [ew_s, ew_0, Option.toList_some, Option.toList_none, List.cons_append, List.nil_append, true_and, and_true, List.length_cons, List.length_nil, Nat.reduceAdd, Nat.reduceLeDiff, Int32.reduceAdd, Int32.reduceSub, Int32.reduceMul, Int32.reduceLT, Int32.reduceLE, Int32.reduceToNatClampNeg, ↓reduceIte, and_self, si_1, si_2, sl_1, sl_2, false_and, and_false, dX9_later_0, dX9_later_1, dX9_later_2, dX9_later_5, dX9_later_6, dX9_later_7, dX9_later_8, dX9_later_11, dX9_later_14, dX9_later_17, dX9_later_18, dX9_later_19, dX9_later_20, dX9_later_21, dX9_later_24, dX9_later_27, dX9_later_29, dX9_later_30, dX9_later_31, dX9_later_34, dX9_later_35, dX9_later_36, dX9_later_38, dX9_later_41, dX9_later_42, dX9_later_45, dX9_later_46, dX9_later_49, dX9_later_50, dX9_later_51, dX9_later_54, dX9_later_55, dX9_later_56, dX9_later_59, dX9_later_61, dX9_later_64, ca_X9_later_133, ca_X9_later_169, ca_X9_later_172, ca_X9_later_72, e_aload_n0, e_calls, e_callv, e_getfield, e_i2l, e_iaload, e_iload_n1, e_iload_n2, e_ireturn, e_kl_X9_167, e_lconst0, e_lconst1, e_putfield, ea_38, ea_39, ea_40, gf_X9_34_30, j_bp_31, j_bp_m2, j_goto_51_13, j_ic_0, j_if_eq_14_13, j_if_ne_24_6, j_if_ne_42_12, pf_X9_65_30, q_X9_in, wi_0, wi_lt, wi_g255, wi_g40, wi_g20, wi_g4, wi_g3, wi_g9, wi_g10, wi_g30, wi_g1, wi_l255, wi_l40, wi_l20, wi_l4, wi_l3, wi_l9, wi_l10, wi_l30, wi_l1, t0_r, ab_rn, bi_0, bi_1, ite_not]
          rw [if_pos h1, if_neg h2]
          exact h
      · rw [if_neg h1] at h
        refine ab_go hG [30] 80 _ _ _ _ ?_
        simp (decide := true) only [ew_s, ew_0, Option.toList_some, Option.toList_none, List.cons_append, List.nil_append, true_and, and_true, List.length_cons, List.length_nil, Nat.reduceAdd, Nat.reduceLeDiff, Int32.reduceAdd, Int32.reduceSub, Int32.reduceMul, Int32.reduceLT, Int32.reduceLE, Int32.reduceToNatClampNeg, ↓reduceIte, and_self, si_1, si_2, sl_1, sl_2, false_and, and_false, dX9_later_0, dX9_later_1, dX9_later_2, dX9_later_5, dX9_later_6, dX9_later_7, dX9_later_8, dX9_later_11, dX9_later_14, dX9_later_17, dX9_later_18, dX9_later_19, dX9_later_20, dX9_later_21, dX9_later_24, dX9_later_27, dX9_later_29, dX9_later_30, dX9_later_31, dX9_later_34, dX9_later_35, dX9_later_36, dX9_later_38, dX9_later_41, dX9_later_42, dX9_later_45, dX9_later_46, dX9_later_49, dX9_later_50, dX9_later_51, dX9_later_54, dX9_later_55, dX9_later_56, dX9_later_59, dX9_later_61, dX9_later_64, ca_X9_later_133, ca_X9_later_169, ca_X9_later_172, ca_X9_later_72, e_aload_n0, e_calls, e_callv, e_getfield, e_i2l, e_iaload, e_iload_n1, e_iload_n2, e_ireturn, e_kl_X9_167, e_lconst0, e_lconst1, e_putfield, ea_38, ea_39, ea_40, gf_X9_34_30, j_bp_31, j_bp_m2, j_goto_51_13, j_ic_0, j_if_eq_14_13, j_if_ne_24_6, j_if_ne_42_12, pf_X9_65_30, q_X9_in, wi_0, wi_lt, wi_g255, wi_g40, wi_g20, wi_g4, wi_g3, wi_g9, wi_g10, wi_g30, wi_g1, wi_l255, wi_l40, wi_l20, wi_l4, wi_l3, wi_l9, wi_l10, wi_l30, wi_l1, t0_r, ab_rn, bi_0, bi_1, ite_not]
        rw [if_neg h1]
        exact h
    · exact h.elim

def s_X9_comes : ab_Sem := fun as M Po => match as with
  | [.ref 30] => ∃ n s : Nat, ct_M M n s ∧ ∀ N, jj (t0 M) N → Po (some (.int (co_l (t0 M) n s 61 0 ((t0 M).1 38)))) N
  | _ => False
theorem q_X9_comes {M : ab_M} {Po : ab_P} : s_X9_comes [.ref 30] M Po = (∃ n s : Nat, ct_M M n s ∧ ∀ N, jj (t0 M) N → Po (some (.int (co_l (t0 M) n s 61 0 ((t0 M).1 38)))) N) := rfl
abbrev x_X9_comes : ab_X := (some .int, fl_X9, [(338, 1, s_X9_begin), (352, 1, s_X9_comesOf)], kl_X9, gs_X9, ab_ros)
theorem ca_X9_comes_169 {v0 : Value} {st : List Value} {M : ab_M} {k : List Value → ab_M → Prop} : ab_ca x_X9_comes (2 * 169) (v0 :: st) M k = (st.length ≤ 4 ∧ s_X9_begin [v0] M (fun r M' => k (r.toList ++ st) M')) := rfl
theorem ca_X9_comes_176 {v0 : Value} {st : List Value} {M : ab_M} {k : List Value → ab_M → Prop} : ab_ca x_X9_comes (2 * 176) (v0 :: st) M k = (st.length ≤ 4 ∧ s_X9_comesOf [v0] M (fun r M' => k (r.toList ++ st) M')) := rfl
theorem r_X9_comes : ∀ (as : List Value) (M : ab_M) (Po : ab_P), s_X9_comes as M Po → ∃ (q : Nat) (as' : List Value) (ci : Nat) (T : u_T) (N : Nat) (fs : List ab_F), as = .ref q :: as' ∧ ab_sh[q]? = some (.inl (ci, fs)) ∧ vwCl[ci]? = some (yX9_comes.cls, T, N) := by
  intro as M Po h
  unfold s_X9_comes at h
  split at h
  · first | exact ⟨_, _, 9, _, _, _, rfl, rfl, rfl⟩ | (rcases h.1 with rfl | rfl | rfl <;> exact ⟨_, _, 9, _, _, _, rfl, rfl, rfl⟩)
  · exact h.elim
set_option maxRecDepth 20000 in
set_option maxHeartbeats 4000000 in
theorem lA_X9_comes {G : ab_K} {Po : ab_P} (hG : ab_Clo cX9_comes x_X9_comes Po G) {N : ab_M} {n s : Nat} {z g h p q : Nat → Int32} (hc : ct_M N n s) (hh : ∀ N', jj N N' → Po (some (.int (co_l N n s 61 0 (N.1 38)))) N') : G 5 [some (.ref 30)] [] (jw N z g h p q) := by
  have cm := cmE hc
  have e1 := co_e7 (M := N) (s := s) hc.1 61 0 (e7_cp (f := g) (g := N.1 38))
  refine ab_go hG [] 80 _ _ _ _ ?_
  simp (decide := true) only [ew_n, ew_0, Option.toList_some, Option.toList_none, List.cons_append, List.nil_append, true_and, and_true, List.length_cons, List.length_nil, Nat.reduceAdd, Nat.reduceLeDiff, Int32.reduceAdd, Int32.reduceSub, Int32.reduceMul, Int32.reduceLT, Int32.reduceLE, Int32.reduceToNatClampNeg, ↓reduceIte, and_self, si_1, si_2, sl_1, sl_2, false_and, and_false, dX9_comes_0, dX9_comes_1, dX9_comes_2, dX9_comes_5, dX9_comes_6, dX9_comes_9, dX9_comes_10, dX9_comes_13, ca_X9_comes_169, ca_X9_comes_176, e_aload_n0, e_callv, e_ireturn, e_putfield, j_ic_0, pf_X9_65_30, jw_30_0, jw_30_2, jw_30_4, jw_30_7, jw_30_10, jw_30_19, jw_30_22, jw_30_27, jw_30_28, jw_30_29, jw_30_30, jw_30_31, jw_30_32, jw_30_35, jw_32, jw_32f, jw_33, jw_33f, jw_34, jw_34f, jw_35, jw_35f, jw_38, jw_38f, jw_41, jw_41f, jw_42, jw_42f, jw_43, jw_43f, jw_44, jw_44f, jw_45, jw_45f, jw_46, jw_46f, jw_39, jw_39f, jw_s39, jw_w39, jw_40, jw_40f, jw_s40, jw_w40, jw_47, jw_47f, jw_s47, jw_w47, jw_48, jw_48f, jw_s48, jw_w48, jw_z27, jw_z28, jw_z29, jw_z30, jw_z31, jw_z32, jw_z35, jw_l, uz_27_27, uz_27_28, uz_27_29, uz_27_30, uz_27_31, uz_27_32, uz_27_35, uz_28_27, uz_28_28, uz_28_29, uz_28_30, uz_28_31, uz_28_32, uz_28_35, uz_29_27, uz_29_28, uz_29_29, uz_29_30, uz_29_31, uz_29_32, uz_29_35, uz_30_27, uz_30_28, uz_30_29, uz_30_30, uz_30_31, uz_30_32, uz_30_35, uz_31_27, uz_31_28, uz_31_29, uz_31_30, uz_31_31, uz_31_32, uz_31_35, uz_32_27, uz_32_28, uz_32_29, uz_32_30, uz_32_31, uz_32_32, uz_32_35, uz_35_27, uz_35_28, uz_35_29, uz_35_30, uz_35_31, uz_35_32, uz_35_35, bgE, cm, e1, ab_rn, bi_0, bi_1, ite_not]
  exact fun f => hh _ jj_i
set_option maxRecDepth 20000 in
set_option maxHeartbeats 4000000 in
theorem c_X9_comes {l : Launch} : ab_ctr l yX9_comes cX9_comes 1 (some .int) 5 117 s_X9_comes := by
  refine ab_met x_X9_comes (by decide) rfl fo_X9 ko_X9 so_X9 rfl (ab_cs_cons (ab_kV c_X9_begin ml_X9_169 v_X9_begin ⟨rfl, rfl⟩ r_X9_begin) (ab_cs_cons (ab_kV c_X9_comesOf ml_X9_176 v_X9_comesOf ⟨rfl, rfl⟩ r_X9_comesOf) ab_cs_nil)) ?_ ?_
  · intro as M Po h
    unfold s_X9_comes at h
    split at h
    · simp [ab_e0]
    · exact h.elim
  · intro as M Po h G hG
    unfold s_X9_comes at h
    split at h
    · simp only [ab_en, ab_e0, List.length_cons, List.length_nil, Nat.reduceAdd, Nat.reduceSub, List.replicate, List.cons_append, List.nil_append]
      obtain ⟨n, s, hc, h⟩ := h
      have key := lA_X9_comes hG (N := t0 M) (z := (t0 M).1 30) (g := (t0 M).1 39) (h := (t0 M).1 40) (p := (t0 M).1 47) (q := (t0 M).1 48) hc h
      rw [jw_id] at key
      refine ab_go hG [5] 80 _ _ _ _ ?_
      simp (decide := true) only [ew_s, ew_0, Option.toList_some, Option.toList_none, List.cons_append, List.nil_append, true_and, and_true, List.length_cons, List.length_nil, Nat.reduceAdd, Nat.reduceLeDiff, Int32.reduceAdd, Int32.reduceSub, Int32.reduceMul, Int32.reduceLT, Int32.reduceLE, Int32.reduceToNatClampNeg, ↓reduceIte, and_self, si_1, si_2, sl_1, sl_2, false_and, and_false, dX9_comes_0, dX9_comes_1, dX9_comes_2, dX9_comes_5, dX9_comes_6, dX9_comes_9, dX9_comes_10, dX9_comes_13, ca_X9_comes_169, ca_X9_comes_176, e_aload_n0, e_callv, e_ireturn, e_putfield, j_ic_0, pf_X9_65_30, t0_r, ab_rn, bi_0, bi_1, ite_not]
      exact key
    · exact h.elim

/-- in how many days a man leads -/
def le_l (M : ab_M) (n s : Nat) (x : Int32) : Nat → Nat → (Nat → Int32) → Int32
  | 0, _, _ => -9
  | j + 1, i, P => if fv_M (lm_l M P 31 n none) = x then nI i else le_l M n s x j (i + 1) (dd_M M n s P 31).2
theorem le_e7 {M : ab_M} {n s : Nat} {x : Int32} (hn : n ≤ 5) : ∀ (j i : Nat) {P Q : Nat → Int32}, e7 P Q → le_l M n s x j i P = le_l M n s x j i Q
  | 0, _, _, _, _ => rfl
  | j + 1, i, P, Q, h => by
    simp only [le_l, lm_e7 h 31 n none hn (fun j e => by cases e), le_e7 hn j (i + 1) (dd_e7 hn h 31).2]
def s_X9_leads : ab_Sem := fun as M Po => match as with
  | [.ref 30, .int x] => ∃ n s : Nat, ct_M M n s ∧ (∀ i, i < n → x = nI i → ∀ N, jj (t0 M) N → Po (some (.int (le_l (t0 M) n s x 41 0 ((t0 M).1 38)))) N) ∧ ((∀ i, i < n → ¬ x = nI i) → Po (some (.int (-1))) (t0 M))
  | _ => False
theorem q_X9_leads {x : Int32} {M : ab_M} {Po : ab_P} : s_X9_leads [.ref 30, .int x] M Po = (∃ n s : Nat, ct_M M n s ∧ (∀ i, i < n → x = nI i → ∀ N, jj (t0 M) N → Po (some (.int (le_l (t0 M) n s x 41 0 ((t0 M).1 38)))) N) ∧ ((∀ i, i < n → ¬ x = nI i) → Po (some (.int (-1))) (t0 M))) := rfl
abbrev x_X9_leads : ab_X := (some .int, fl_X9, [(308, 2, s_X9_noMan), (338, 1, s_X9_begin), (266, 3, s_X9_leader), (322, 3, s_X9_goDay)], kl_X9, gs_X9, ab_ros)
theorem ca_X9_leads_154 {v0 v1 : Value} {st : List Value} {M : ab_M} {k : List Value → ab_M → Prop} : ab_ca x_X9_leads (2 * 154) (v1 :: v0 :: st) M k = (st.length ≤ 4 ∧ s_X9_noMan [v0, v1] M (fun r M' => k (r.toList ++ st) M')) := rfl
theorem ca_X9_leads_169 {v0 : Value} {st : List Value} {M : ab_M} {k : List Value → ab_M → Prop} : ab_ca x_X9_leads (2 * 169) (v0 :: st) M k = (st.length ≤ 4 ∧ s_X9_begin [v0] M (fun r M' => k (r.toList ++ st) M')) := rfl
theorem ca_X9_leads_133 {v0 v1 v2 : Value} {st : List Value} {M : ab_M} {k : List Value → ab_M → Prop} : ab_ca x_X9_leads (2 * 133) (v2 :: v1 :: v0 :: st) M k = (st.length ≤ 4 ∧ s_X9_leader [v0, v1, v2] M (fun r M' => k (r.toList ++ st) M')) := rfl
theorem ca_X9_leads_161 {v0 v1 v2 : Value} {st : List Value} {M : ab_M} {k : List Value → ab_M → Prop} : ab_ca x_X9_leads (2 * 161) (v2 :: v1 :: v0 :: st) M k = (st.length ≤ 4 ∧ s_X9_goDay [v0, v1, v2] M (fun r M' => k (r.toList ++ st) M')) := rfl
theorem r_X9_leads : ∀ (as : List Value) (M : ab_M) (Po : ab_P), s_X9_leads as M Po → ∃ (q : Nat) (as' : List Value) (ci : Nat) (T : u_T) (N : Nat) (fs : List ab_F), as = .ref q :: as' ∧ ab_sh[q]? = some (.inl (ci, fs)) ∧ vwCl[ci]? = some (yX9_leads.cls, T, N) := by
  intro as M Po h
  unfold s_X9_leads at h
  split at h
  · first | exact ⟨_, _, 9, _, _, _, rfl, rfl, rfl⟩ | (rcases h.1 with rfl | rfl | rfl <;> exact ⟨_, _, 9, _, _, _, rfl, rfl, rfl⟩)
  · exact h.elim
set_option maxRecDepth 20000 in
set_option maxHeartbeats 4000000 in
theorem lq_X9_leads {G : ab_K} {Po : ab_P} (hG : ab_Clo cX9_leads x_X9_leads Po G) {N : ab_M} {n s : Nat} {x : Int32} {z h p q : Nat → Int32} (hc : ct_M N n s) : ∀ (j i : Nat) (P : Nat → Int32), i + j = 41 → (∀ N', jj N N' → Po (some (.int (le_l N n s x j i P))) N') → G 21 [some (.ref 30), some (.int x), some (.int (nI i))] [] (jw N z P h p q) := by
  have gd := gdE hc
  have ld := ldE hc
  intro j
  induction j with
  | zero =>
    intro i P hi hh
    have e : i = 41 := by omega
    subst e
    unfold le_l at hh
    refine ab_go1 hG [21] 80 _ _ _ _ ?_
    simp (decide := true) only [ew_s, ew_0, Option.toList_some, Option.toList_none, List.cons_append, List.nil_append, true_and, and_true, List.length_cons, List.length_nil, Nat.reduceAdd, Nat.reduceLeDiff, Int32.reduceAdd, Int32.reduceSub, Int32.reduceMul, Int32.reduceLT, Int32.reduceLE, Int32.reduceToNatClampNeg, ↓reduceIte, and_self, si_1, si_2, sl_1, sl_2, false_and, and_false, dX9_leads_0, dX9_leads_1, dX9_leads_2, dX9_leads_5, dX9_leads_6, dX9_leads_7, dX9_leads_10, dX9_leads_13, dX9_leads_14, dX9_leads_15, dX9_leads_16, dX9_leads_19, dX9_leads_20, dX9_leads_21, dX9_leads_22, dX9_leads_24, dX9_leads_27, dX9_leads_28, dX9_leads_29, dX9_leads_32, dX9_leads_34, dX9_leads_37, dX9_leads_38, dX9_leads_41, dX9_leads_42, dX9_leads_43, dX9_leads_44, dX9_leads_45, dX9_leads_48, dX9_leads_50, dX9_leads_53, dX9_leads_54, dX9_leads_57, dX9_leads_60, dX9_leads_62, ca_X9_leads_133, ca_X9_leads_154, ca_X9_leads_161, ca_X9_leads_169, e_aload_n0, e_callv, e_getfield, e_iload_n1, e_iload_n2, e_ireturn, e_istore_n2i, e_istore_n2n, e_istore_n2r, e_pop, e_putfield, gf_X9_34_30, j_bp_31, j_bp_40, j_bp_m9, j_goto_57_m36, j_ic_0, j_ic_m1, j_icmp_gt_24_36, j_icmp_ne_38_5, j_if_eq_10_5, j_ii_2_1, pf_X9_65_30, jw_30_0, jw_30_2, jw_30_4, jw_30_7, jw_30_10, jw_30_19, jw_30_22, jw_30_27, jw_30_28, jw_30_29, jw_30_30, jw_30_31, jw_30_32, jw_30_35, jw_32, jw_32f, jw_33, jw_33f, jw_34, jw_34f, jw_35, jw_35f, jw_38, jw_38f, jw_41, jw_41f, jw_42, jw_42f, jw_43, jw_43f, jw_44, jw_44f, jw_45, jw_45f, jw_46, jw_46f, jw_39, jw_39f, jw_s39, jw_w39, jw_40, jw_40f, jw_s40, jw_w40, jw_47, jw_47f, jw_s47, jw_w47, jw_48, jw_48f, jw_s48, jw_w48, jw_z27, jw_z28, jw_z29, jw_z30, jw_z31, jw_z32, jw_z35, jw_l, uz_27_27, uz_27_28, uz_27_29, uz_27_30, uz_27_31, uz_27_32, uz_27_35, uz_28_27, uz_28_28, uz_28_29, uz_28_30, uz_28_31, uz_28_32, uz_28_35, uz_29_27, uz_29_28, uz_29_29, uz_29_30, uz_29_31, uz_29_32, uz_29_35, uz_30_27, uz_30_28, uz_30_29, uz_30_30, uz_30_31, uz_30_32, uz_30_35, uz_31_27, uz_31_28, uz_31_29, uz_31_30, uz_31_31, uz_31_32, uz_31_35, uz_32_27, uz_32_28, uz_32_29, uz_32_30, uz_32_31, uz_32_32, uz_32_35, uz_35_27, uz_35_28, uz_35_29, uz_35_30, uz_35_31, uz_35_32, uz_35_35, gd, ld, ab_rn, bi_0, bi_1, ite_not]
    exact hh _ jj_i
  | succ j ih =>
    intro i P hi hh
    unfold le_l at hh
    refine ab_go1 hG [21] 80 _ _ _ _ ?_
    simp (decide := true) only [ew_s, ew_0, Option.toList_some, Option.toList_none, List.cons_append, List.nil_append, true_and, and_true, List.length_cons, List.length_nil, Nat.reduceAdd, Nat.reduceLeDiff, Int32.reduceAdd, Int32.reduceSub, Int32.reduceMul, Int32.reduceLT, Int32.reduceLE, Int32.reduceToNatClampNeg, ↓reduceIte, and_self, si_1, si_2, sl_1, sl_2, false_and, and_false, dX9_leads_0, dX9_leads_1, dX9_leads_2, dX9_leads_5, dX9_leads_6, dX9_leads_7, dX9_leads_10, dX9_leads_13, dX9_leads_14, dX9_leads_15, dX9_leads_16, dX9_leads_19, dX9_leads_20, dX9_leads_21, dX9_leads_22, dX9_leads_24, dX9_leads_27, dX9_leads_28, dX9_leads_29, dX9_leads_32, dX9_leads_34, dX9_leads_37, dX9_leads_38, dX9_leads_41, dX9_leads_42, dX9_leads_43, dX9_leads_44, dX9_leads_45, dX9_leads_48, dX9_leads_50, dX9_leads_53, dX9_leads_54, dX9_leads_57, dX9_leads_60, dX9_leads_62, ca_X9_leads_133, ca_X9_leads_154, ca_X9_leads_161, ca_X9_leads_169, e_aload_n0, e_callv, e_getfield, e_iload_n1, e_iload_n2, e_ireturn, e_istore_n2i, e_istore_n2n, e_istore_n2r, e_pop, e_putfield, gf_X9_34_30, j_bp_31, j_bp_40, j_bp_m9, j_goto_57_m36, j_ic_0, j_ic_m1, j_icmp_gt_24_36, j_icmp_ne_38_5, j_if_eq_10_5, j_ii_2_1, pf_X9_65_30, jw_30_0, jw_30_2, jw_30_4, jw_30_7, jw_30_10, jw_30_19, jw_30_22, jw_30_27, jw_30_28, jw_30_29, jw_30_30, jw_30_31, jw_30_32, jw_30_35, jw_32, jw_32f, jw_33, jw_33f, jw_34, jw_34f, jw_35, jw_35f, jw_38, jw_38f, jw_41, jw_41f, jw_42, jw_42f, jw_43, jw_43f, jw_44, jw_44f, jw_45, jw_45f, jw_46, jw_46f, jw_39, jw_39f, jw_s39, jw_w39, jw_40, jw_40f, jw_s40, jw_w40, jw_47, jw_47f, jw_s47, jw_w47, jw_48, jw_48f, jw_s48, jw_w48, jw_z27, jw_z28, jw_z29, jw_z30, jw_z31, jw_z32, jw_z35, jw_l, uz_27_27, uz_27_28, uz_27_29, uz_27_30, uz_27_31, uz_27_32, uz_27_35, uz_28_27, uz_28_28, uz_28_29, uz_28_30, uz_28_31, uz_28_32, uz_28_35, uz_29_27, uz_29_28, uz_29_29, uz_29_30, uz_29_31, uz_29_32, uz_29_35, uz_30_27, uz_30_28, uz_30_29, uz_30_30, uz_30_31, uz_30_32, uz_30_35, uz_31_27, uz_31_28, uz_31_29, uz_31_30, uz_31_31, uz_31_32, uz_31_35, uz_32_27, uz_32_28, uz_32_29, uz_32_30, uz_32_31, uz_32_32, uz_32_35, uz_35_27, uz_35_28, uz_35_29, uz_35_30, uz_35_31, uz_35_32, uz_35_35, gd, ld, ab_rn, bi_0, bi_1, ite_not]
    rw [if_neg (show ¬ (40 : Int32) < nI i from nI_nlt (a := 40) (by omega) (by omega))]
    split
    · rename_i h2
      simp only [if_pos h2] at hh
      exact hh _ jj_i
    · rename_i h2
      simp only [if_neg h2] at hh
      rw [nI_1]
      exact ih (i + 1) _ (by omega) hh
set_option maxRecDepth 20000 in
set_option maxHeartbeats 4000000 in
theorem lA_X9_leads {G : ab_K} {Po : ab_P} (hG : ab_Clo cX9_leads x_X9_leads Po G) {N : ab_M} {n s : Nat} {x : Int32} {z g h p q : Nat → Int32} (hc : ct_M N n s) (hh : ∀ N', jj N N' → Po (some (.int (le_l N n s x 41 0 (N.1 38)))) N') : G 15 [some (.ref 30), some (.int x), none] [] (jw N z g h p q) := by
  rw [← le_e7 hc.1 41 0 (e7_cp (f := g) (g := N.1 38))] at hh
  have key := lq_X9_leads hG (z := z) (h := h) (p := p) (q := q) hc 41 0 _ (by omega) hh
  refine ab_go hG [21] 80 _ _ _ _ ?_
  simp (decide := true) only [ew_s, ew_0, Option.toList_some, Option.toList_none, List.cons_append, List.nil_append, true_and, and_true, List.length_cons, List.length_nil, Nat.reduceAdd, Nat.reduceLeDiff, Int32.reduceAdd, Int32.reduceSub, Int32.reduceMul, Int32.reduceLT, Int32.reduceLE, Int32.reduceToNatClampNeg, ↓reduceIte, and_self, si_1, si_2, sl_1, sl_2, false_and, and_false, dX9_leads_0, dX9_leads_1, dX9_leads_2, dX9_leads_5, dX9_leads_6, dX9_leads_7, dX9_leads_10, dX9_leads_13, dX9_leads_14, dX9_leads_15, dX9_leads_16, dX9_leads_19, dX9_leads_20, dX9_leads_21, dX9_leads_22, dX9_leads_24, dX9_leads_27, dX9_leads_28, dX9_leads_29, dX9_leads_32, dX9_leads_34, dX9_leads_37, dX9_leads_38, dX9_leads_41, dX9_leads_42, dX9_leads_43, dX9_leads_44, dX9_leads_45, dX9_leads_48, dX9_leads_50, dX9_leads_53, dX9_leads_54, dX9_leads_57, dX9_leads_60, dX9_leads_62, ca_X9_leads_133, ca_X9_leads_154, ca_X9_leads_161, ca_X9_leads_169, e_aload_n0, e_callv, e_getfield, e_iload_n1, e_iload_n2, e_ireturn, e_istore_n2i, e_istore_n2n, e_istore_n2r, e_pop, e_putfield, gf_X9_34_30, j_bp_31, j_bp_40, j_bp_m9, j_goto_57_m36, j_ic_0, j_ic_m1, j_icmp_gt_24_36, j_icmp_ne_38_5, j_if_eq_10_5, j_ii_2_1, pf_X9_65_30, jw_30_0, jw_30_2, jw_30_4, jw_30_7, jw_30_10, jw_30_19, jw_30_22, jw_30_27, jw_30_28, jw_30_29, jw_30_30, jw_30_31, jw_30_32, jw_30_35, jw_32, jw_32f, jw_33, jw_33f, jw_34, jw_34f, jw_35, jw_35f, jw_38, jw_38f, jw_41, jw_41f, jw_42, jw_42f, jw_43, jw_43f, jw_44, jw_44f, jw_45, jw_45f, jw_46, jw_46f, jw_39, jw_39f, jw_s39, jw_w39, jw_40, jw_40f, jw_s40, jw_w40, jw_47, jw_47f, jw_s47, jw_w47, jw_48, jw_48f, jw_s48, jw_w48, jw_z27, jw_z28, jw_z29, jw_z30, jw_z31, jw_z32, jw_z35, jw_l, uz_27_27, uz_27_28, uz_27_29, uz_27_30, uz_27_31, uz_27_32, uz_27_35, uz_28_27, uz_28_28, uz_28_29, uz_28_30, uz_28_31, uz_28_32, uz_28_35, uz_29_27, uz_29_28, uz_29_29, uz_29_30, uz_29_31, uz_29_32, uz_29_35, uz_30_27, uz_30_28, uz_30_29, uz_30_30, uz_30_31, uz_30_32, uz_30_35, uz_31_27, uz_31_28, uz_31_29, uz_31_30, uz_31_31, uz_31_32, uz_31_35, uz_32_27, uz_32_28, uz_32_29, uz_32_30, uz_32_31, uz_32_32, uz_32_35, uz_35_27, uz_35_28, uz_35_29, uz_35_30, uz_35_31, uz_35_32, uz_35_35, bgE, ab_rn, bi_0, bi_1, ite_not]
  exact key
set_option maxRecDepth 20000 in
set_option maxHeartbeats 4000000 in
theorem c_X9_leads {l : Launch} : ab_ctr l yX9_leads cX9_leads 3 (some .int) 4 96 s_X9_leads := by
  refine ab_met x_X9_leads (by decide) rfl fo_X9 ko_X9 so_X9 rfl (ab_cs_cons (ab_kV c_X9_noMan ml_X9_154 v_X9_noMan ⟨rfl, rfl⟩ r_X9_noMan) (ab_cs_cons (ab_kV c_X9_begin ml_X9_169 v_X9_begin ⟨rfl, rfl⟩ r_X9_begin) (ab_cs_cons (ab_kV c_X9_leader ml_X9_133 v_X9_leader ⟨rfl, rfl⟩ r_X9_leader) (ab_cs_cons (ab_kV c_X9_goDay ml_X9_161 v_X9_goDay ⟨rfl, rfl⟩ r_X9_goDay) ab_cs_nil)))) ?_ ?_
  · intro as M Po h
    unfold s_X9_leads at h
    split at h
    · simp [ab_e0]
    · exact h.elim
  · intro as M Po h G hG
    unfold s_X9_leads at h
    split at h
    · simp only [ab_en, ab_e0, List.length_cons, List.length_nil, Nat.reduceAdd, Nat.reduceSub, List.replicate, List.cons_append, List.nil_append]
      rename_i x
      obtain ⟨n, s, hc, hy, hz⟩ := h
      by_cases hx : ∃ i, i < n ∧ x = nI i
      · obtain ⟨i, hi, rfl⟩ := hx
        have h := hy i hi rfl
        have nm := nm_y (M := t0 M) hc.1 hc.2.1 hi
        have key := lA_X9_leads hG (N := t0 M) (z := (t0 M).1 30) (g := (t0 M).1 39) (h := (t0 M).1 40) (p := (t0 M).1 47) (q := (t0 M).1 48) hc h
        rw [jw_id] at key
        refine ab_go hG [15] 80 _ _ _ _ ?_
        simp (decide := true) only [ew_s, ew_0, Option.toList_some, Option.toList_none, List.cons_append, List.nil_append, true_and, and_true, List.length_cons, List.length_nil, Nat.reduceAdd, Nat.reduceLeDiff, Int32.reduceAdd, Int32.reduceSub, Int32.reduceMul, Int32.reduceLT, Int32.reduceLE, Int32.reduceToNatClampNeg, ↓reduceIte, and_self, si_1, si_2, sl_1, sl_2, false_and, and_false, dX9_leads_0, dX9_leads_1, dX9_leads_2, dX9_leads_5, dX9_leads_6, dX9_leads_7, dX9_leads_10, dX9_leads_13, dX9_leads_14, dX9_leads_15, dX9_leads_16, dX9_leads_19, dX9_leads_20, dX9_leads_21, dX9_leads_22, dX9_leads_24, dX9_leads_27, dX9_leads_28, dX9_leads_29, dX9_leads_32, dX9_leads_34, dX9_leads_37, dX9_leads_38, dX9_leads_41, dX9_leads_42, dX9_leads_43, dX9_leads_44, dX9_leads_45, dX9_leads_48, dX9_leads_50, dX9_leads_53, dX9_leads_54, dX9_leads_57, dX9_leads_60, dX9_leads_62, ca_X9_leads_133, ca_X9_leads_154, ca_X9_leads_161, ca_X9_leads_169, e_aload_n0, e_callv, e_getfield, e_iload_n1, e_iload_n2, e_ireturn, e_istore_n2i, e_istore_n2n, e_istore_n2r, e_pop, e_putfield, gf_X9_34_30, j_bp_31, j_bp_40, j_bp_m9, j_goto_57_m36, j_ic_0, j_ic_m1, j_icmp_gt_24_36, j_icmp_ne_38_5, j_if_eq_10_5, j_ii_2_1, pf_X9_65_30, t0_r, nm, ab_rn, bi_0, bi_1, ite_not]
        exact key
      · have hx2 : ∀ i, i < n → ¬ x = nI i := fun i hi e => hx ⟨i, hi, e⟩
        have h := hz hx2
        have nm := nm_n (M := t0 M) hc.1 hc.2.1 hx2
        refine ab_go hG [15] 80 _ _ _ _ ?_
        simp (decide := true) only [ew_s, ew_0, Option.toList_some, Option.toList_none, List.cons_append, List.nil_append, true_and, and_true, List.length_cons, List.length_nil, Nat.reduceAdd, Nat.reduceLeDiff, Int32.reduceAdd, Int32.reduceSub, Int32.reduceMul, Int32.reduceLT, Int32.reduceLE, Int32.reduceToNatClampNeg, ↓reduceIte, and_self, si_1, si_2, sl_1, sl_2, false_and, and_false, dX9_leads_0, dX9_leads_1, dX9_leads_2, dX9_leads_5, dX9_leads_6, dX9_leads_7, dX9_leads_10, dX9_leads_13, dX9_leads_14, dX9_leads_15, dX9_leads_16, dX9_leads_19, dX9_leads_20, dX9_leads_21, dX9_leads_22, dX9_leads_24, dX9_leads_27, dX9_leads_28, dX9_leads_29, dX9_leads_32, dX9_leads_34, dX9_leads_37, dX9_leads_38, dX9_leads_41, dX9_leads_42, dX9_leads_43, dX9_leads_44, dX9_leads_45, dX9_leads_48, dX9_leads_50, dX9_leads_53, dX9_leads_54, dX9_leads_57, dX9_leads_60, dX9_leads_62, ca_X9_leads_133, ca_X9_leads_154, ca_X9_leads_161, ca_X9_leads_169, e_aload_n0, e_callv, e_getfield, e_iload_n1, e_iload_n2, e_ireturn, e_istore_n2i, e_istore_n2n, e_istore_n2r, e_pop, e_putfield, gf_X9_34_30, j_bp_31, j_bp_40, j_bp_m9, j_goto_57_m36, j_ic_0, j_ic_m1, j_icmp_gt_24_36, j_icmp_ne_38_5, j_if_eq_10_5, j_ii_2_1, pf_X9_65_30, t0_r, nm, ab_rn, bi_0, bi_1, ite_not]
        exact h
    · exact h.elim

