/-! METHODS: LameLead, first half -/
def ap_X (M : ab_M) (x : Int32) : ab_M := if M.1 1 1 < 0 then M else if M.1 1 1 < 48 then ab_si (ab_si M 2 (M.1 1 1).toNatClampNeg x) 1 1 (M.1 1 1 + 1) else M
theorem apq {x : Int32} {M : ab_M} {Po : ab_P} : s_X5_append [.ref 1, .int x] M Po = Po none (ap_X M x) := rfl
def s_X8_write : ab_Sem := fun as M Po => match as with
  | [.ref 0, .int x] => if x < 0 then Po (some (.int (-2))) M else if 255 < x then Po (some (.int (-2))) M else if M.1 1 1 < 48 then Po (some (.int ((ap_X M x).1 1 1))) (ap_X M x) else Po (some (.int (-4))) M
  | _ => False
theorem q_X8_write {x : Int32} {M : ab_M} {Po : ab_P} : s_X8_write [.ref 0, .int x] M Po = (if x < 0 then Po (some (.int (-2))) M else if 255 < x then Po (some (.int (-2))) M else if M.1 1 1 < 48 then Po (some (.int ((ap_X M x).1 1 1))) (ap_X M x) else Po (some (.int (-4))) M) := rfl
abbrev x_X8_write : ab_X := (some .int, fl_X8, [(158, 1, s_X5_size), (166, 2, s_X5_append)], kl_X8, gs_X8, ab_ros)
theorem ca_X8_write_79 {v0 : Value} {st : List Value} {M : ab_M} {k : List Value → ab_M → Prop} : ab_ca x_X8_write (2 * 79) (v0 :: st) M k = (st.length ≤ 4 ∧ s_X5_size [v0] M (fun r M' => k (r.toList ++ st) M')) := rfl
theorem ca_X8_write_83 {v0 v1 : Value} {st : List Value} {M : ab_M} {k : List Value → ab_M → Prop} : ab_ca x_X8_write (2 * 83) (v1 :: v0 :: st) M k = (st.length ≤ 4 ∧ s_X5_append [v0, v1] M (fun r M' => k (r.toList ++ st) M')) := rfl
theorem r_X8_write : ∀ (as : List Value) (M : ab_M) (Po : ab_P), s_X8_write as M Po → ∃ (q : Nat) (as' : List Value) (ci : Nat) (T : u_T) (N : Nat) (fs : List ab_F), as = .ref q :: as' ∧ ab_sh[q]? = some (.inl (ci, fs)) ∧ vwCl[ci]? = some (yX8_write.cls, T, N) := by
  intro as M Po h
  unfold s_X8_write at h
  split at h
  · first | exact ⟨_, _, 8, _, _, _, rfl, rfl, rfl⟩ | (rcases h.1 with rfl | rfl | rfl <;> exact ⟨_, _, 8, _, _, _, rfl, rfl, rfl⟩)
  · exact h.elim
set_option maxRecDepth 20000 in
set_option maxHeartbeats 4000000 in
theorem c_X8_write {l : Launch} : ab_ctr l yX8_write cX8_write 2 (some .int) 1 21 s_X8_write := by
  refine ab_met x_X8_write (by decide) rfl fo_X8 ko_X8 so_X8 rfl (ab_cs_cons (ab_kV c_X5_size ml_X8_79 v_X5_size ⟨rfl, rfl⟩ r_X5_size) (ab_cs_cons (ab_kV c_X5_append ml_X8_83 v_X5_append ⟨rfl, rfl⟩ r_X5_append) ab_cs_nil)) ?_ ?_
  · intro as M Po h
    unfold s_X8_write at h
    split at h
    · simp [ab_e0]
    · exact h.elim
  · intro as M Po h G hG
    unfold s_X8_write at h
    split at h
    · simp only [ab_en, ab_e0, List.length_cons, List.length_nil, Nat.reduceAdd, Nat.reduceSub, List.replicate, List.cons_append, List.nil_append]
      refine ab_go hG [] 80 _ _ _ _ ?_
      simp (decide := true) only [ew_n, ew_0, Option.toList_some, Option.toList_none, List.cons_append, List.nil_append, true_and, and_true, List.length_cons, List.length_nil, Nat.reduceAdd, Nat.reduceLeDiff, Int32.reduceAdd, Int32.reduceSub, Int32.reduceMul, Int32.reduceLT, Int32.reduceLE, Int32.reduceToNatClampNeg, ↓reduceIte, and_self, si_1, si_2, sl_1, sl_2, false_and, and_false, dX8_write_0, dX8_write_1, dX8_write_4, dX8_write_5, dX8_write_8, dX8_write_11, dX8_write_13, dX8_write_14, dX8_write_15, dX8_write_18, dX8_write_21, dX8_write_23, dX8_write_26, dX8_write_28, dX8_write_29, dX8_write_30, dX8_write_33, dX8_write_34, dX8_write_37, dX8_write_38, dX8_write_41, dX8_write_44, ca_X8_write_79, ca_X8_write_83, e_aload_n0, e_callv, e_getfield, e_iload_n1, e_ireturn, gf_X8_10_0, j_bp_48, j_bp_m2, j_bp_m4, j_icmp_le_8_6, j_icmp_lt_23_6, j_if_lt_1_10, j_sp_255, q_X5_size, apq, ab_rn, bi_0, bi_1, ite_not]
      (repeat' split) <;> (try simp (decide := true) only [i0_le, *, not_false_eq_true, not_true_eq_false, and_self, true_and, and_true, or_false, false_or, or_true, true_or, false_and, and_false, not_and, ↓reduceIte] at h) <;> first | exact h | (exfalso; simp_all (decide := true) only [not_true_eq_false, not_false_eq_true, false_and, and_false, true_and, and_true]; done)
    · exact h.elim

def s_X8_wipe : ab_Sem := fun as M Po => match as with
  | [.ref 0] => Po (some (.int (M.1 1 1))) (ab_si M 1 1 0)
  | _ => False
theorem q_X8_wipe {M : ab_M} {Po : ab_P} : s_X8_wipe [.ref 0] M Po = (Po (some (.int (M.1 1 1))) (ab_si M 1 1 0)) := rfl
abbrev x_X8_wipe : ab_X := (some .int, fl_X8, [(158, 1, s_X5_size), (174, 1, s_X5_empty)], kl_X8, gs_X8, ab_ros)
theorem ca_X8_wipe_79 {v0 : Value} {st : List Value} {M : ab_M} {k : List Value → ab_M → Prop} : ab_ca x_X8_wipe (2 * 79) (v0 :: st) M k = (st.length ≤ 4 ∧ s_X5_size [v0] M (fun r M' => k (r.toList ++ st) M')) := rfl
theorem ca_X8_wipe_87 {v0 : Value} {st : List Value} {M : ab_M} {k : List Value → ab_M → Prop} : ab_ca x_X8_wipe (2 * 87) (v0 :: st) M k = (st.length ≤ 4 ∧ s_X5_empty [v0] M (fun r M' => k (r.toList ++ st) M')) := rfl
theorem r_X8_wipe : ∀ (as : List Value) (M : ab_M) (Po : ab_P), s_X8_wipe as M Po → ∃ (q : Nat) (as' : List Value) (ci : Nat) (T : u_T) (N : Nat) (fs : List ab_F), as = .ref q :: as' ∧ ab_sh[q]? = some (.inl (ci, fs)) ∧ vwCl[ci]? = some (yX8_wipe.cls, T, N) := by
  intro as M Po h
  unfold s_X8_wipe at h
  split at h
  · first | exact ⟨_, _, 8, _, _, _, rfl, rfl, rfl⟩ | (rcases h.1 with rfl | rfl | rfl <;> exact ⟨_, _, 8, _, _, _, rfl, rfl, rfl⟩)
  · exact h.elim
set_option maxRecDepth 20000 in
set_option maxHeartbeats 4000000 in
theorem c_X8_wipe {l : Launch} : ab_ctr l yX8_wipe cX8_wipe 2 (some .int) 1 20 s_X8_wipe := by
  refine ab_met x_X8_wipe (by decide) rfl fo_X8 ko_X8 so_X8 rfl (ab_cs_cons (ab_kV c_X5_size ml_X8_79 v_X5_size ⟨rfl, rfl⟩ r_X5_size) (ab_cs_cons (ab_kV c_X5_empty ml_X8_87 v_X5_empty ⟨rfl, rfl⟩ r_X5_empty) ab_cs_nil)) ?_ ?_
  · intro as M Po h
    unfold s_X8_wipe at h
    split at h
    · simp [ab_e0]
    · exact h.elim
  · intro as M Po h G hG
    unfold s_X8_wipe at h
    split at h
    · simp only [ab_en, ab_e0, List.length_cons, List.length_nil, Nat.reduceAdd, Nat.reduceSub, List.replicate, List.cons_append, List.nil_append]
      refine ab_go hG [] 80 _ _ _ _ ?_
      simp (decide := true) only [ew_n, ew_0, Option.toList_some, Option.toList_none, List.cons_append, List.nil_append, true_and, and_true, List.length_cons, List.length_nil, Nat.reduceAdd, Nat.reduceLeDiff, Int32.reduceAdd, Int32.reduceSub, Int32.reduceMul, Int32.reduceLT, Int32.reduceLE, Int32.reduceToNatClampNeg, ↓reduceIte, and_self, si_1, si_2, sl_1, sl_2, false_and, and_false, dX8_wipe_0, dX8_wipe_1, dX8_wipe_4, dX8_wipe_7, dX8_wipe_8, dX8_wipe_9, dX8_wipe_12, dX8_wipe_15, dX8_wipe_16, ca_X8_wipe_79, ca_X8_wipe_87, e_aload_n0, e_callv, e_getfield, e_iload_n1, e_ireturn, e_istore_n1i, e_istore_n1n, e_istore_n1r, gf_X8_10_0, q_X5_empty, q_X5_size, ab_rn, bi_0, bi_1, ite_not]
      (repeat' split) <;> (try simp (decide := true) only [i0_le, *, not_false_eq_true, not_true_eq_false, and_self, true_and, and_true, or_false, false_or, or_true, true_or, false_and, and_false, not_and, ↓reduceIte] at h) <;> first | exact h | (exfalso; simp_all (decide := true) only [not_true_eq_false, not_false_eq_true, false_and, and_false, true_and, and_true]; done)
    · exact h.elim

def s_X8_fault : ab_Sem := fun as M Po => match as with
  | [.ref 0] => Po (some (.int (fa_X M))) M
  | _ => False
theorem q_X8_fault {M : ab_M} {Po : ab_P} : s_X8_fault [.ref 0] M Po = (Po (some (.int (fa_X M))) M) := rfl
abbrev x_X8_fault : ab_X := (some .int, fl_X8, [(180, 1, s_X5_faultPlace)], kl_X8, gs_X8, ab_ros)
theorem ca_X8_fault_90 {v0 : Value} {st : List Value} {M : ab_M} {k : List Value → ab_M → Prop} : ab_ca x_X8_fault (2 * 90) (v0 :: st) M k = (st.length ≤ 4 ∧ s_X5_faultPlace [v0] M (fun r M' => k (r.toList ++ st) M')) := rfl
theorem r_X8_fault : ∀ (as : List Value) (M : ab_M) (Po : ab_P), s_X8_fault as M Po → ∃ (q : Nat) (as' : List Value) (ci : Nat) (T : u_T) (N : Nat) (fs : List ab_F), as = .ref q :: as' ∧ ab_sh[q]? = some (.inl (ci, fs)) ∧ vwCl[ci]? = some (yX8_fault.cls, T, N) := by
  intro as M Po h
  unfold s_X8_fault at h
  split at h
  · first | exact ⟨_, _, 8, _, _, _, rfl, rfl, rfl⟩ | (rcases h.1 with rfl | rfl | rfl <;> exact ⟨_, _, 8, _, _, _, rfl, rfl, rfl⟩)
  · exact h.elim
set_option maxRecDepth 20000 in
set_option maxHeartbeats 4000000 in
theorem c_X8_fault {l : Launch} : ab_ctr l yX8_fault cX8_fault 1 (some .int) 4 93 s_X8_fault := by
  refine ab_met x_X8_fault (by decide) rfl fo_X8 ko_X8 so_X8 rfl (ab_cs_cons (ab_kV c_X5_faultPlace ml_X8_90 v_X5_faultPlace ⟨rfl, rfl⟩ r_X5_faultPlace) ab_cs_nil) ?_ ?_
  · intro as M Po h
    unfold s_X8_fault at h
    split at h
    · simp [ab_e0]
    · exact h.elim
  · intro as M Po h G hG
    unfold s_X8_fault at h
    split at h
    · simp only [ab_en, ab_e0, List.length_cons, List.length_nil, Nat.reduceAdd, Nat.reduceSub, List.replicate, List.cons_append, List.nil_append]
      refine ab_go hG [] 80 _ _ _ _ ?_
      simp (decide := true) only [ew_n, ew_0, Option.toList_some, Option.toList_none, List.cons_append, List.nil_append, true_and, and_true, List.length_cons, List.length_nil, Nat.reduceAdd, Nat.reduceLeDiff, Int32.reduceAdd, Int32.reduceSub, Int32.reduceMul, Int32.reduceLT, Int32.reduceLE, Int32.reduceToNatClampNeg, ↓reduceIte, and_self, si_1, si_2, sl_1, sl_2, false_and, and_false, dX8_fault_0, dX8_fault_1, dX8_fault_4, dX8_fault_7, ca_X8_fault_90, e_aload_n0, e_callv, e_getfield, e_ireturn, gf_X8_10_0, q_X5_faultPlace, ab_rn, bi_0, bi_1, ite_not]
      (repeat' split) <;> (try simp (decide := true) only [i0_le, *, not_false_eq_true, not_true_eq_false, and_self, true_and, and_true, or_false, false_or, or_true, true_or, false_and, and_false, not_and, ↓reduceIte] at h) <;> first | exact h | (exfalso; simp_all (decide := true) only [not_true_eq_false, not_false_eq_true, false_and, and_false, true_and, and_true]; done)
    · exact h.elim

def s_X8_about : ab_Sem := fun as M Po => match as with
  | [.ref 0, .int x] => if x = 0 then Po (some (.int (M.1 3 4))) M else if x = 1 then Po (some (.int (M.1 8 3))) M else if x = 2 then Po (some (.int (M.1 3 5))) M else if x = 3 then Po (some (.int (M.1 12 3))) M else if x = 4 then Po (some (.int (M.1 12 4))) M else if x = 5 then Po (some (.int (ld_X M (M.1 12 5) (M.1 13)))) M else if x = 6 then Po (some (.int (if ld_X M (M.1 12 5) (M.1 13) = -9 then 0 else sp_X (pc_X M (ld_X M (M.1 12 5) (M.1 13))) (kd_X M (ld_X M (M.1 12 5) (M.1 13))) (th_X M 12 (ld_X M (M.1 12 5) (M.1 13)))))) M else if x = 7 then Po (some (.int (sa_X M (M.1 12 3)))) M else if x = 8 then Po (some (.int (0 + M.1 13 0 + M.1 13 1 + M.1 13 2 + M.1 13 3 + M.1 13 4))) M else if x = 9 then Po (some (.int (M.1 14 1))) M else if x = 10 then Po (some (.int (M.1 25 3))) M else if x = 11 then Po (some (.int (M.1 1 1))) M else Po (some (.int (-2))) M
  | _ => False
theorem q_X8_about {x : Int32} {M : ab_M} {Po : ab_P} : s_X8_about [.ref 0, .int x] M Po = (if x = 0 then Po (some (.int (M.1 3 4))) M else if x = 1 then Po (some (.int (M.1 8 3))) M else if x = 2 then Po (some (.int (M.1 3 5))) M else if x = 3 then Po (some (.int (M.1 12 3))) M else if x = 4 then Po (some (.int (M.1 12 4))) M else if x = 5 then Po (some (.int (ld_X M (M.1 12 5) (M.1 13)))) M else if x = 6 then Po (some (.int (if ld_X M (M.1 12 5) (M.1 13) = -9 then 0 else sp_X (pc_X M (ld_X M (M.1 12 5) (M.1 13))) (kd_X M (ld_X M (M.1 12 5) (M.1 13))) (th_X M 12 (ld_X M (M.1 12 5) (M.1 13)))))) M else if x = 7 then Po (some (.int (sa_X M (M.1 12 3)))) M else if x = 8 then Po (some (.int (0 + M.1 13 0 + M.1 13 1 + M.1 13 2 + M.1 13 3 + M.1 13 4))) M else if x = 9 then Po (some (.int (M.1 14 1))) M else if x = 10 then Po (some (.int (M.1 25 3))) M else if x = 11 then Po (some (.int (M.1 1 1))) M else Po (some (.int (-2))) M) := rfl
abbrev x_X8_about : ab_X := (some .int, fl_X8, [(204, 1, s_X4_count), (210, 1, s_X7_count), (212, 1, s_X4_end), (218, 1, s_X2_mile), (224, 1, s_X2_dayNumber), (230, 1, s_X2_leader), (236, 1, s_X2_leaderSpeed), (242, 2, s_X4_stretchAt), (250, 1, s_X2_allThorns), (256, 1, s_X0_count), (258, 1, s_X6_count), (158, 1, s_X5_size)], kl_X8, gs_X8, ab_ros)
theorem ca_X8_about_102 {v0 : Value} {st : List Value} {M : ab_M} {k : List Value → ab_M → Prop} : ab_ca x_X8_about (2 * 102) (v0 :: st) M k = (st.length ≤ 4 ∧ s_X4_count [v0] M (fun r M' => k (r.toList ++ st) M')) := rfl
theorem ca_X8_about_105 {v0 : Value} {st : List Value} {M : ab_M} {k : List Value → ab_M → Prop} : ab_ca x_X8_about (2 * 105) (v0 :: st) M k = (st.length ≤ 4 ∧ s_X7_count [v0] M (fun r M' => k (r.toList ++ st) M')) := rfl
theorem ca_X8_about_106 {v0 : Value} {st : List Value} {M : ab_M} {k : List Value → ab_M → Prop} : ab_ca x_X8_about (2 * 106) (v0 :: st) M k = (st.length ≤ 4 ∧ s_X4_end [v0] M (fun r M' => k (r.toList ++ st) M')) := rfl
theorem ca_X8_about_109 {v0 : Value} {st : List Value} {M : ab_M} {k : List Value → ab_M → Prop} : ab_ca x_X8_about (2 * 109) (v0 :: st) M k = (st.length ≤ 4 ∧ s_X2_mile [v0] M (fun r M' => k (r.toList ++ st) M')) := rfl
theorem ca_X8_about_112 {v0 : Value} {st : List Value} {M : ab_M} {k : List Value → ab_M → Prop} : ab_ca x_X8_about (2 * 112) (v0 :: st) M k = (st.length ≤ 4 ∧ s_X2_dayNumber [v0] M (fun r M' => k (r.toList ++ st) M')) := rfl
theorem ca_X8_about_115 {v0 : Value} {st : List Value} {M : ab_M} {k : List Value → ab_M → Prop} : ab_ca x_X8_about (2 * 115) (v0 :: st) M k = (st.length ≤ 4 ∧ s_X2_leader [v0] M (fun r M' => k (r.toList ++ st) M')) := rfl
theorem ca_X8_about_118 {v0 : Value} {st : List Value} {M : ab_M} {k : List Value → ab_M → Prop} : ab_ca x_X8_about (2 * 118) (v0 :: st) M k = (st.length ≤ 4 ∧ s_X2_leaderSpeed [v0] M (fun r M' => k (r.toList ++ st) M')) := rfl
theorem ca_X8_about_121 {v0 v1 : Value} {st : List Value} {M : ab_M} {k : List Value → ab_M → Prop} : ab_ca x_X8_about (2 * 121) (v1 :: v0 :: st) M k = (st.length ≤ 4 ∧ s_X4_stretchAt [v0, v1] M (fun r M' => k (r.toList ++ st) M')) := rfl
theorem ca_X8_about_125 {v0 : Value} {st : List Value} {M : ab_M} {k : List Value → ab_M → Prop} : ab_ca x_X8_about (2 * 125) (v0 :: st) M k = (st.length ≤ 4 ∧ s_X2_allThorns [v0] M (fun r M' => k (r.toList ++ st) M')) := rfl
theorem ca_X8_about_128 {v0 : Value} {st : List Value} {M : ab_M} {k : List Value → ab_M → Prop} : ab_ca x_X8_about (2 * 128) (v0 :: st) M k = (st.length ≤ 4 ∧ s_X0_count [v0] M (fun r M' => k (r.toList ++ st) M')) := rfl
theorem ca_X8_about_129 {v0 : Value} {st : List Value} {M : ab_M} {k : List Value → ab_M → Prop} : ab_ca x_X8_about (2 * 129) (v0 :: st) M k = (st.length ≤ 4 ∧ s_X6_count [v0] M (fun r M' => k (r.toList ++ st) M')) := rfl
theorem ca_X8_about_79 {v0 : Value} {st : List Value} {M : ab_M} {k : List Value → ab_M → Prop} : ab_ca x_X8_about (2 * 79) (v0 :: st) M k = (st.length ≤ 4 ∧ s_X5_size [v0] M (fun r M' => k (r.toList ++ st) M')) := rfl
theorem r_X8_about : ∀ (as : List Value) (M : ab_M) (Po : ab_P), s_X8_about as M Po → ∃ (q : Nat) (as' : List Value) (ci : Nat) (T : u_T) (N : Nat) (fs : List ab_F), as = .ref q :: as' ∧ ab_sh[q]? = some (.inl (ci, fs)) ∧ vwCl[ci]? = some (yX8_about.cls, T, N) := by
  intro as M Po h
  unfold s_X8_about at h
  split at h
  · first | exact ⟨_, _, 8, _, _, _, rfl, rfl, rfl⟩ | (rcases h.1 with rfl | rfl | rfl <;> exact ⟨_, _, 8, _, _, _, rfl, rfl, rfl⟩)
  · exact h.elim
set_option maxRecDepth 20000 in
set_option maxHeartbeats 4000000 in
theorem c_X8_about {l : Launch} : ab_ctr l yX8_about cX8_about 2 (some .int) 3 70 s_X8_about := by
  refine ab_met x_X8_about (by decide) rfl fo_X8 ko_X8 so_X8 rfl (ab_cs_cons (ab_kV c_X4_count ml_X8_102 v_X4_count ⟨rfl, rfl⟩ r_X4_count) (ab_cs_cons (ab_kV c_X7_count ml_X8_105 v_X7_count ⟨rfl, rfl⟩ r_X7_count) (ab_cs_cons (ab_kV c_X4_end ml_X8_106 v_X4_end ⟨rfl, rfl⟩ r_X4_end) (ab_cs_cons (ab_kV c_X2_mile ml_X8_109 v_X2_mile ⟨rfl, rfl⟩ r_X2_mile) (ab_cs_cons (ab_kV c_X2_dayNumber ml_X8_112 v_X2_dayNumber ⟨rfl, rfl⟩ r_X2_dayNumber) (ab_cs_cons (ab_kV c_X2_leader ml_X8_115 v_X2_leader ⟨rfl, rfl⟩ r_X2_leader) (ab_cs_cons (ab_kV c_X2_leaderSpeed ml_X8_118 v_X2_leaderSpeed ⟨rfl, rfl⟩ r_X2_leaderSpeed) (ab_cs_cons (ab_kV c_X4_stretchAt ml_X8_121 v_X4_stretchAt ⟨rfl, rfl⟩ r_X4_stretchAt) (ab_cs_cons (ab_kV c_X2_allThorns ml_X8_125 v_X2_allThorns ⟨rfl, rfl⟩ r_X2_allThorns) (ab_cs_cons (ab_kV c_X0_count ml_X8_128 v_X0_count ⟨rfl, rfl⟩ r_X0_count) (ab_cs_cons (ab_kV c_X6_count ml_X8_129 v_X6_count ⟨rfl, rfl⟩ r_X6_count) (ab_cs_cons (ab_kV c_X5_size ml_X8_79 v_X5_size ⟨rfl, rfl⟩ r_X5_size) ab_cs_nil)))))))))))) ?_ ?_
  · intro as M Po h
    unfold s_X8_about at h
    split at h
    · simp [ab_e0]
    · exact h.elim
  · intro as M Po h G hG
    unfold s_X8_about at h
    split at h
    · simp only [ab_en, ab_e0, List.length_cons, List.length_nil, Nat.reduceAdd, Nat.reduceSub, List.replicate, List.cons_append, List.nil_append]
      refine ab_go hG [] 80 _ _ _ _ ?_
      simp (decide := true) only [ew_n, ew_0, Option.toList_some, Option.toList_none, List.cons_append, List.nil_append, true_and, and_true, List.length_cons, List.length_nil, Nat.reduceAdd, Nat.reduceLeDiff, Int32.reduceAdd, Int32.reduceSub, Int32.reduceMul, Int32.reduceLT, Int32.reduceLE, Int32.reduceToNatClampNeg, ↓reduceIte, and_self, si_1, si_2, sl_1, sl_2, false_and, and_false, dX8_about_0, dX8_about_1, dX8_about_64, dX8_about_65, dX8_about_68, dX8_about_71, dX8_about_72, dX8_about_73, dX8_about_76, dX8_about_79, dX8_about_80, dX8_about_81, dX8_about_84, dX8_about_87, dX8_about_88, dX8_about_89, dX8_about_92, dX8_about_95, dX8_about_96, dX8_about_97, dX8_about_100, dX8_about_103, dX8_about_104, dX8_about_105, dX8_about_108, dX8_about_111, dX8_about_112, dX8_about_113, dX8_about_116, dX8_about_119, dX8_about_120, dX8_about_121, dX8_about_124, dX8_about_125, dX8_about_128, dX8_about_131, dX8_about_134, dX8_about_135, dX8_about_136, dX8_about_139, dX8_about_142, dX8_about_143, dX8_about_144, dX8_about_147, dX8_about_150, dX8_about_151, dX8_about_152, dX8_about_155, dX8_about_158, dX8_about_159, dX8_about_160, dX8_about_163, dX8_about_166, dX8_about_167, dX8_about_169, ca_X8_about_102, ca_X8_about_105, ca_X8_about_106, ca_X8_about_109, ca_X8_about_112, ca_X8_about_115, ca_X8_about_118, ca_X8_about_121, ca_X8_about_125, ca_X8_about_128, ca_X8_about_129, ca_X8_about_79, e_aload_n0, e_callv, e_getfield, e_iload_n1, e_ireturn, gf_X8_10_0, gf_X8_19_0, gf_X8_26_0, gf_X8_35_0, gf_X8_42_0, gf_X8_65_0, j_bp_m2, j_sw_X8_about_1, q_X0_count, q_X2_allThorns, q_X2_dayNumber, q_X2_leader, q_X2_leaderSpeed, q_X2_mile, q_X4_count, q_X4_end, q_X4_stretchAt, q_X5_size, q_X6_count, q_X7_count, ab_rn, bi_0, bi_1, ite_not]
      (repeat' split) <;> (try simp (decide := true) only [i0_le, *, not_false_eq_true, not_true_eq_false, and_self, true_and, and_true, or_false, false_or, or_true, true_or, false_and, and_false, not_and, ↓reduceIte] at h) <;> first | exact h | (exfalso; simp_all (decide := true) only [not_true_eq_false, not_false_eq_true, false_and, and_false, true_and, and_true]; done)
    · exact h.elim

def s_X8_man : ab_Sem := fun as M Po => match as with
  | [.ref 0, .int x, .int y] => if ¬ x < 0 ∧ x < M.1 8 3 ∧ x < 5 then (if y = 0 then Po (some (.int (pc_X M x))) M else if y = 1 then Po (some (.int (kd_X M x))) M else if y = 2 then Po (some (.int (th_X M 12 x))) M else if y = 3 then Po (some (.int (sp_X (pc_X M x) (kd_X M x) (th_X M 12 x)))) M else Po (some (.int (-2))) M) else Po (some (.int (-1))) M
  | _ => False
theorem q_X8_man {x y : Int32} {M : ab_M} {Po : ab_P} : s_X8_man [.ref 0, .int x, .int y] M Po = (if ¬ x < 0 ∧ x < M.1 8 3 ∧ x < 5 then (if y = 0 then Po (some (.int (pc_X M x))) M else if y = 1 then Po (some (.int (kd_X M x))) M else if y = 2 then Po (some (.int (th_X M 12 x))) M else if y = 3 then Po (some (.int (sp_X (pc_X M x) (kd_X M x) (th_X M 12 x)))) M else Po (some (.int (-2))) M) else Po (some (.int (-1))) M) := rfl
abbrev x_X8_man : ab_X := (some .int, fl_X8, [(260, 2, s_X7_has), (268, 2, s_X7_paceOf), (274, 2, s_X7_kindOf), (280, 2, s_X2_thornsOf), (286, 2, s_X2_speedOf)], kl_X8, gs_X8, ab_ros)
theorem ca_X8_man_130 {v0 v1 : Value} {st : List Value} {M : ab_M} {k : List Value → ab_M → Prop} : ab_ca x_X8_man (2 * 130) (v1 :: v0 :: st) M k = (st.length ≤ 4 ∧ s_X7_has [v0, v1] M (fun r M' => k (r.toList ++ st) M')) := rfl
theorem ca_X8_man_134 {v0 v1 : Value} {st : List Value} {M : ab_M} {k : List Value → ab_M → Prop} : ab_ca x_X8_man (2 * 134) (v1 :: v0 :: st) M k = (st.length ≤ 4 ∧ s_X7_paceOf [v0, v1] M (fun r M' => k (r.toList ++ st) M')) := rfl
theorem ca_X8_man_137 {v0 v1 : Value} {st : List Value} {M : ab_M} {k : List Value → ab_M → Prop} : ab_ca x_X8_man (2 * 137) (v1 :: v0 :: st) M k = (st.length ≤ 4 ∧ s_X7_kindOf [v0, v1] M (fun r M' => k (r.toList ++ st) M')) := rfl
theorem ca_X8_man_140 {v0 v1 : Value} {st : List Value} {M : ab_M} {k : List Value → ab_M → Prop} : ab_ca x_X8_man (2 * 140) (v1 :: v0 :: st) M k = (st.length ≤ 4 ∧ s_X2_thornsOf [v0, v1] M (fun r M' => k (r.toList ++ st) M')) := rfl
theorem ca_X8_man_143 {v0 v1 : Value} {st : List Value} {M : ab_M} {k : List Value → ab_M → Prop} : ab_ca x_X8_man (2 * 143) (v1 :: v0 :: st) M k = (st.length ≤ 4 ∧ s_X2_speedOf [v0, v1] M (fun r M' => k (r.toList ++ st) M')) := rfl
theorem r_X8_man : ∀ (as : List Value) (M : ab_M) (Po : ab_P), s_X8_man as M Po → ∃ (q : Nat) (as' : List Value) (ci : Nat) (T : u_T) (N : Nat) (fs : List ab_F), as = .ref q :: as' ∧ ab_sh[q]? = some (.inl (ci, fs)) ∧ vwCl[ci]? = some (yX8_man.cls, T, N) := by
  intro as M Po h
  unfold s_X8_man at h
  split at h
  · first | exact ⟨_, _, 8, _, _, _, rfl, rfl, rfl⟩ | (rcases h.1 with rfl | rfl | rfl <;> exact ⟨_, _, 8, _, _, _, rfl, rfl, rfl⟩)
  · exact h.elim
set_option maxRecDepth 20000 in
set_option maxHeartbeats 4000000 in
theorem c_X8_man {l : Launch} : ab_ctr l yX8_man cX8_man 3 (some .int) 2 45 s_X8_man := by
  refine ab_met x_X8_man (by decide) rfl fo_X8 ko_X8 so_X8 rfl (ab_cs_cons (ab_kV c_X7_has ml_X8_130 v_X7_has ⟨rfl, rfl⟩ r_X7_has) (ab_cs_cons (ab_kV c_X7_paceOf ml_X8_134 v_X7_paceOf ⟨rfl, rfl⟩ r_X7_paceOf) (ab_cs_cons (ab_kV c_X7_kindOf ml_X8_137 v_X7_kindOf ⟨rfl, rfl⟩ r_X7_kindOf) (ab_cs_cons (ab_kV c_X2_thornsOf ml_X8_140 v_X2_thornsOf ⟨rfl, rfl⟩ r_X2_thornsOf) (ab_cs_cons (ab_kV c_X2_speedOf ml_X8_143 v_X2_speedOf ⟨rfl, rfl⟩ r_X2_speedOf) ab_cs_nil))))) ?_ ?_
  · intro as M Po h
    unfold s_X8_man at h
    split at h
    · simp [ab_e0]
    · exact h.elim
  · intro as M Po h G hG
    unfold s_X8_man at h
    split at h
    · simp only [ab_en, ab_e0, List.length_cons, List.length_nil, Nat.reduceAdd, Nat.reduceSub, List.replicate, List.cons_append, List.nil_append]
      refine ab_go hG [] 80 _ _ _ _ ?_
      simp (decide := true) only [ew_n, ew_0, Option.toList_some, Option.toList_none, List.cons_append, List.nil_append, true_and, and_true, List.length_cons, List.length_nil, Nat.reduceAdd, Nat.reduceLeDiff, Int32.reduceAdd, Int32.reduceSub, Int32.reduceMul, Int32.reduceLT, Int32.reduceLE, Int32.reduceToNatClampNeg, ↓reduceIte, and_self, si_1, si_2, sl_1, sl_2, false_and, and_false, dX8_man_0, dX8_man_1, dX8_man_4, dX8_man_5, dX8_man_8, dX8_man_11, dX8_man_12, dX8_man_13, dX8_man_14, dX8_man_44, dX8_man_45, dX8_man_48, dX8_man_49, dX8_man_52, dX8_man_53, dX8_man_54, dX8_man_57, dX8_man_58, dX8_man_61, dX8_man_62, dX8_man_63, dX8_man_66, dX8_man_67, dX8_man_70, dX8_man_71, dX8_man_72, dX8_man_75, dX8_man_76, dX8_man_79, dX8_man_80, dX8_man_82, ca_X8_man_130, ca_X8_man_134, ca_X8_man_137, ca_X8_man_140, ca_X8_man_143, e_aload_n0, e_callv, e_getfield, e_iload_n1, e_iload_n2, e_ireturn, gf_X8_26_0, gf_X8_35_0, j_bp_m2, j_ic_m1, j_if_ne_8_5, j_sw_X8_man_14, q_X2_speedOf, q_X2_thornsOf, q_X7_has, q_X7_kindOf, q_X7_paceOf, ab_rn, bi_0, bi_1, ite_not]
      (repeat' split) <;> (try simp (decide := true) only [i0_le, *, not_false_eq_true, not_true_eq_false, and_self, true_and, and_true, or_false, false_or, or_true, true_or, false_and, and_false, not_and, ↓reduceIte] at h) <;> first | exact h | (exfalso; simp_all (decide := true) only [not_true_eq_false, not_false_eq_true, false_and, and_false, true_and, and_true]; done)
    · exact h.elim

def s_X8_stretch : ab_Sem := fun as M Po => match as with
  | [.ref 0, .int x, .int y] => if ¬ x < 0 ∧ x < M.1 3 4 ∧ x < 8 then (if y = 0 then Po (some (.int (if ¬ x < 0 ∧ x < M.1 3 4 ∧ x < 8 then M.1 4 x.toNatClampNeg else 0))) M else if y = 1 then Po (some (.int (go_X M x))) M else if y = 2 then Po (some (.int (if ¬ x < 0 ∧ x < M.1 3 4 ∧ x < 8 then M.1 6 x.toNatClampNeg else 0))) M else Po (some (.int (-2))) M) else Po (some (.int (-1))) M
  | _ => False
theorem q_X8_stretch {x y : Int32} {M : ab_M} {Po : ab_P} : s_X8_stretch [.ref 0, .int x, .int y] M Po = (if ¬ x < 0 ∧ x < M.1 3 4 ∧ x < 8 then (if y = 0 then Po (some (.int (if ¬ x < 0 ∧ x < M.1 3 4 ∧ x < 8 then M.1 4 x.toNatClampNeg else 0))) M else if y = 1 then Po (some (.int (go_X M x))) M else if y = 2 then Po (some (.int (if ¬ x < 0 ∧ x < M.1 3 4 ∧ x < 8 then M.1 6 x.toNatClampNeg else 0))) M else Po (some (.int (-2))) M) else Po (some (.int (-1))) M) := rfl
abbrev x_X8_stretch : ab_X := (some .int, fl_X8, [(292, 2, s_X4_has), (294, 2, s_X4_milesOf), (300, 2, s_X4_groundOf), (306, 2, s_X4_beginOf)], kl_X8, gs_X8, ab_ros)
theorem ca_X8_stretch_146 {v0 v1 : Value} {st : List Value} {M : ab_M} {k : List Value → ab_M → Prop} : ab_ca x_X8_stretch (2 * 146) (v1 :: v0 :: st) M k = (st.length ≤ 4 ∧ s_X4_has [v0, v1] M (fun r M' => k (r.toList ++ st) M')) := rfl
theorem ca_X8_stretch_147 {v0 v1 : Value} {st : List Value} {M : ab_M} {k : List Value → ab_M → Prop} : ab_ca x_X8_stretch (2 * 147) (v1 :: v0 :: st) M k = (st.length ≤ 4 ∧ s_X4_milesOf [v0, v1] M (fun r M' => k (r.toList ++ st) M')) := rfl
theorem ca_X8_stretch_150 {v0 v1 : Value} {st : List Value} {M : ab_M} {k : List Value → ab_M → Prop} : ab_ca x_X8_stretch (2 * 150) (v1 :: v0 :: st) M k = (st.length ≤ 4 ∧ s_X4_groundOf [v0, v1] M (fun r M' => k (r.toList ++ st) M')) := rfl
theorem ca_X8_stretch_153 {v0 v1 : Value} {st : List Value} {M : ab_M} {k : List Value → ab_M → Prop} : ab_ca x_X8_stretch (2 * 153) (v1 :: v0 :: st) M k = (st.length ≤ 4 ∧ s_X4_beginOf [v0, v1] M (fun r M' => k (r.toList ++ st) M')) := rfl
theorem r_X8_stretch : ∀ (as : List Value) (M : ab_M) (Po : ab_P), s_X8_stretch as M Po → ∃ (q : Nat) (as' : List Value) (ci : Nat) (T : u_T) (N : Nat) (fs : List ab_F), as = .ref q :: as' ∧ ab_sh[q]? = some (.inl (ci, fs)) ∧ vwCl[ci]? = some (yX8_stretch.cls, T, N) := by
  intro as M Po h
  unfold s_X8_stretch at h
  split at h
  · first | exact ⟨_, _, 8, _, _, _, rfl, rfl, rfl⟩ | (rcases h.1 with rfl | rfl | rfl <;> exact ⟨_, _, 8, _, _, _, rfl, rfl, rfl⟩)
  · exact h.elim
set_option maxRecDepth 20000 in
set_option maxHeartbeats 4000000 in
theorem c_X8_stretch {l : Launch} : ab_ctr l yX8_stretch cX8_stretch 3 (some .int) 2 42 s_X8_stretch := by
  refine ab_met x_X8_stretch (by decide) rfl fo_X8 ko_X8 so_X8 rfl (ab_cs_cons (ab_kV c_X4_has ml_X8_146 v_X4_has ⟨rfl, rfl⟩ r_X4_has) (ab_cs_cons (ab_kV c_X4_milesOf ml_X8_147 v_X4_milesOf ⟨rfl, rfl⟩ r_X4_milesOf) (ab_cs_cons (ab_kV c_X4_groundOf ml_X8_150 v_X4_groundOf ⟨rfl, rfl⟩ r_X4_groundOf) (ab_cs_cons (ab_kV c_X4_beginOf ml_X8_153 v_X4_beginOf ⟨rfl, rfl⟩ r_X4_beginOf) ab_cs_nil)))) ?_ ?_
  · intro as M Po h
    unfold s_X8_stretch at h
    split at h
    · simp [ab_e0]
    · exact h.elim
  · intro as M Po h G hG
    unfold s_X8_stretch at h
    split at h
    · simp only [ab_en, ab_e0, List.length_cons, List.length_nil, Nat.reduceAdd, Nat.reduceSub, List.replicate, List.cons_append, List.nil_append]
      refine ab_go hG [] 80 _ _ _ _ ?_
      simp (decide := true) only [ew_n, ew_0, Option.toList_some, Option.toList_none, List.cons_append, List.nil_append, true_and, and_true, List.length_cons, List.length_nil, Nat.reduceAdd, Nat.reduceLeDiff, Int32.reduceAdd, Int32.reduceSub, Int32.reduceMul, Int32.reduceLT, Int32.reduceLE, Int32.reduceToNatClampNeg, ↓reduceIte, and_self, si_1, si_2, sl_1, sl_2, false_and, and_false, dX8_stretch_0, dX8_stretch_1, dX8_stretch_4, dX8_stretch_5, dX8_stretch_8, dX8_stretch_11, dX8_stretch_12, dX8_stretch_13, dX8_stretch_14, dX8_stretch_40, dX8_stretch_41, dX8_stretch_44, dX8_stretch_45, dX8_stretch_48, dX8_stretch_49, dX8_stretch_50, dX8_stretch_53, dX8_stretch_54, dX8_stretch_57, dX8_stretch_58, dX8_stretch_59, dX8_stretch_62, dX8_stretch_63, dX8_stretch_66, dX8_stretch_67, dX8_stretch_69, ca_X8_stretch_146, ca_X8_stretch_147, ca_X8_stretch_150, ca_X8_stretch_153, e_aload_n0, e_callv, e_getfield, e_iload_n1, e_iload_n2, e_ireturn, gf_X8_19_0, j_bp_m2, j_ic_m1, j_if_ne_8_5, j_sw_X8_stretch_14, q_X4_beginOf, q_X4_groundOf, q_X4_has, q_X4_milesOf, ab_rn, bi_0, bi_1, ite_not]
      (repeat' split) <;> (try simp (decide := true) only [i0_le, *, not_false_eq_true, not_true_eq_false, and_self, true_and, and_true, or_false, false_or, or_true, true_or, false_and, and_false, not_and, ↓reduceIte] at h) <;> first | exact h | (exfalso; simp_all (decide := true) only [not_true_eq_false, not_false_eq_true, false_and, and_false, true_and, and_true]; done)
    · exact h.elim

def pn_X (M : ab_M) : Int64 := pk_X (M.1 12 4) (M.1 12 3) (M.1 13)
theorem pnq {M : ab_M} {Po : ab_P} : s_X2_packed [.ref 12] M Po = Po (some (.long (pn_X M))) M := propext ⟨fun h => h.2, fun h => ⟨rfl, h⟩⟩
def s_X8_day : ab_Sem := fun as M Po => match as with
  | [.ref 0] => (¬ M.1 14 1 < 0 ∧ Po (some (.int (gone_X (re_X M (pn_X M)) (mrs (re_X M (pn_X M)) 12)))) (mws (re_X M (pn_X M)) 12 (dy_X (re_X M (pn_X M)) (mrs (re_X M (pn_X M)) 12))))
  | _ => False
theorem q_X8_day {M : ab_M} {Po : ab_P} : s_X8_day [.ref 0] M Po = ((¬ M.1 14 1 < 0 ∧ Po (some (.int (gone_X (re_X M (pn_X M)) (mrs (re_X M (pn_X M)) 12)))) (mws (re_X M (pn_X M)) 12 (dy_X (re_X M (pn_X M)) (mrs (re_X M (pn_X M)) 12))))) := rfl
abbrev x_X8_day : ab_X := (some .int, fl_X8, [(312, 1, s_X2_packed), (320, 2, s_X0_remember), (328, 1, s_X2_goDay)], kl_X8, gs_X8, ab_ros)
theorem ca_X8_day_156 {v0 : Value} {st : List Value} {M : ab_M} {k : List Value → ab_M → Prop} : ab_ca x_X8_day (2 * 156) (v0 :: st) M k = (st.length ≤ 4 ∧ s_X2_packed [v0] M (fun r M' => k (r.toList ++ st) M')) := rfl
theorem ca_X8_day_160 {v0 v1 : Value} {st : List Value} {M : ab_M} {k : List Value → ab_M → Prop} : ab_ca x_X8_day (2 * 160) (v1 :: v0 :: st) M k = (st.length ≤ 4 ∧ s_X0_remember [v0, v1] M (fun r M' => k (r.toList ++ st) M')) := rfl
theorem ca_X8_day_164 {v0 : Value} {st : List Value} {M : ab_M} {k : List Value → ab_M → Prop} : ab_ca x_X8_day (2 * 164) (v0 :: st) M k = (st.length ≤ 4 ∧ s_X2_goDay [v0] M (fun r M' => k (r.toList ++ st) M')) := rfl
theorem r_X8_day : ∀ (as : List Value) (M : ab_M) (Po : ab_P), s_X8_day as M Po → ∃ (q : Nat) (as' : List Value) (ci : Nat) (T : u_T) (N : Nat) (fs : List ab_F), as = .ref q :: as' ∧ ab_sh[q]? = some (.inl (ci, fs)) ∧ vwCl[ci]? = some (yX8_day.cls, T, N) := by
  intro as M Po h
  unfold s_X8_day at h
  split at h
  · first | exact ⟨_, _, 8, _, _, _, rfl, rfl, rfl⟩ | (rcases h.1 with rfl | rfl | rfl <;> exact ⟨_, _, 8, _, _, _, rfl, rfl, rfl⟩)
  · exact h.elim
set_option maxRecDepth 20000 in
set_option maxHeartbeats 4000000 in
theorem c_X8_day {l : Launch} : ab_ctr l yX8_day cX8_day 1 (some .int) 3 72 s_X8_day := by
  refine ab_met x_X8_day (by decide) rfl fo_X8 ko_X8 so_X8 rfl (ab_cs_cons (ab_kV c_X2_packed ml_X8_156 v_X2_packed ⟨rfl, rfl⟩ r_X2_packed) (ab_cs_cons (ab_kV c_X0_remember ml_X8_160 v_X0_remember ⟨rfl, rfl⟩ r_X0_remember) (ab_cs_cons (ab_kV c_X2_goDay ml_X8_164 v_X2_goDay ⟨rfl, rfl⟩ r_X2_goDay) ab_cs_nil))) ?_ ?_
  · intro as M Po h
    unfold s_X8_day at h
    split at h
    · simp [ab_e0]
    · exact h.elim
  · intro as M Po h G hG
    unfold s_X8_day at h
    split at h
    · simp only [ab_en, ab_e0, List.length_cons, List.length_nil, Nat.reduceAdd, Nat.reduceSub, List.replicate, List.cons_append, List.nil_append]
      refine ab_go hG [] 80 _ _ _ _ ?_
      simp (decide := true) only [ew_n, ew_0, Option.toList_some, Option.toList_none, List.cons_append, List.nil_append, true_and, and_true, List.length_cons, List.length_nil, Nat.reduceAdd, Nat.reduceLeDiff, Int32.reduceAdd, Int32.reduceSub, Int32.reduceMul, Int32.reduceLT, Int32.reduceLE, Int32.reduceToNatClampNeg, ↓reduceIte, and_self, si_1, si_2, sl_1, sl_2, false_and, and_false, dX8_day_0, dX8_day_1, dX8_day_4, dX8_day_5, dX8_day_8, dX8_day_11, dX8_day_14, dX8_day_15, dX8_day_18, dX8_day_21, ca_X8_day_156, ca_X8_day_160, ca_X8_day_164, e_aload_n0, e_callv, e_getfield, e_ireturn, gf_X8_35_0, gf_X8_42_0, q_X0_remember, q_X2_goDay, pnq, ab_rn, bi_0, bi_1, ite_not]
      exact h
    · exact h.elim

def hl_X (N : ab_M) : ab_M := mws N 12 (st_X N (mrs N 12))
def s_X8_halt : ab_Sem := fun as M Po => match as with
  | [.ref 0] => (¬ M.1 14 1 < 0 ∧ Po (some (.int (0 + (hl_X (re_X M (pn_X M))).1 13 0 + (hl_X (re_X M (pn_X M))).1 13 1 + (hl_X (re_X M (pn_X M))).1 13 2 + (hl_X (re_X M (pn_X M))).1 13 3 + (hl_X (re_X M (pn_X M))).1 13 4))) (hl_X (re_X M (pn_X M))))
  | _ => False
theorem q_X8_halt {M : ab_M} {Po : ab_P} : s_X8_halt [.ref 0] M Po = ((¬ M.1 14 1 < 0 ∧ Po (some (.int (0 + (hl_X (re_X M (pn_X M))).1 13 0 + (hl_X (re_X M (pn_X M))).1 13 1 + (hl_X (re_X M (pn_X M))).1 13 2 + (hl_X (re_X M (pn_X M))).1 13 3 + (hl_X (re_X M (pn_X M))).1 13 4))) (hl_X (re_X M (pn_X M))))) := rfl
abbrev x_X8_halt : ab_X := (some .int, fl_X8, [(312, 1, s_X2_packed), (320, 2, s_X0_remember), (334, 1, s_X2_stay), (250, 1, s_X2_allThorns)], kl_X8, gs_X8, ab_ros)
theorem ca_X8_halt_156 {v0 : Value} {st : List Value} {M : ab_M} {k : List Value → ab_M → Prop} : ab_ca x_X8_halt (2 * 156) (v0 :: st) M k = (st.length ≤ 4 ∧ s_X2_packed [v0] M (fun r M' => k (r.toList ++ st) M')) := rfl
theorem ca_X8_halt_160 {v0 v1 : Value} {st : List Value} {M : ab_M} {k : List Value → ab_M → Prop} : ab_ca x_X8_halt (2 * 160) (v1 :: v0 :: st) M k = (st.length ≤ 4 ∧ s_X0_remember [v0, v1] M (fun r M' => k (r.toList ++ st) M')) := rfl
theorem ca_X8_halt_167 {v0 : Value} {st : List Value} {M : ab_M} {k : List Value → ab_M → Prop} : ab_ca x_X8_halt (2 * 167) (v0 :: st) M k = (st.length ≤ 4 ∧ s_X2_stay [v0] M (fun r M' => k (r.toList ++ st) M')) := rfl
theorem ca_X8_halt_125 {v0 : Value} {st : List Value} {M : ab_M} {k : List Value → ab_M → Prop} : ab_ca x_X8_halt (2 * 125) (v0 :: st) M k = (st.length ≤ 4 ∧ s_X2_allThorns [v0] M (fun r M' => k (r.toList ++ st) M')) := rfl
theorem r_X8_halt : ∀ (as : List Value) (M : ab_M) (Po : ab_P), s_X8_halt as M Po → ∃ (q : Nat) (as' : List Value) (ci : Nat) (T : u_T) (N : Nat) (fs : List ab_F), as = .ref q :: as' ∧ ab_sh[q]? = some (.inl (ci, fs)) ∧ vwCl[ci]? = some (yX8_halt.cls, T, N) := by
  intro as M Po h
  unfold s_X8_halt at h
  split at h
  · first | exact ⟨_, _, 8, _, _, _, rfl, rfl, rfl⟩ | (rcases h.1 with rfl | rfl | rfl <;> exact ⟨_, _, 8, _, _, _, rfl, rfl, rfl⟩)
  · exact h.elim
set_option maxRecDepth 20000 in
set_option maxHeartbeats 4000000 in
theorem c_X8_halt {l : Launch} : ab_ctr l yX8_halt cX8_halt 1 (some .int) 3 62 s_X8_halt := by
  refine ab_met x_X8_halt (by decide) rfl fo_X8 ko_X8 so_X8 rfl (ab_cs_cons (ab_kV c_X2_packed ml_X8_156 v_X2_packed ⟨rfl, rfl⟩ r_X2_packed) (ab_cs_cons (ab_kV c_X0_remember ml_X8_160 v_X0_remember ⟨rfl, rfl⟩ r_X0_remember) (ab_cs_cons (ab_kV c_X2_stay ml_X8_167 v_X2_stay ⟨rfl, rfl⟩ r_X2_stay) (ab_cs_cons (ab_kV c_X2_allThorns ml_X8_125 v_X2_allThorns ⟨rfl, rfl⟩ r_X2_allThorns) ab_cs_nil)))) ?_ ?_
  · intro as M Po h
    unfold s_X8_halt at h
    split at h
    · simp [ab_e0]
    · exact h.elim
  · intro as M Po h G hG
    unfold s_X8_halt at h
    split at h
    · simp only [ab_en, ab_e0, List.length_cons, List.length_nil, Nat.reduceAdd, Nat.reduceSub, List.replicate, List.cons_append, List.nil_append]
      refine ab_go hG [] 80 _ _ _ _ ?_
      simp (decide := true) only [ew_n, ew_0, Option.toList_some, Option.toList_none, List.cons_append, List.nil_append, true_and, and_true, List.length_cons, List.length_nil, Nat.reduceAdd, Nat.reduceLeDiff, Int32.reduceAdd, Int32.reduceSub, Int32.reduceMul, Int32.reduceLT, Int32.reduceLE, Int32.reduceToNatClampNeg, ↓reduceIte, and_self, si_1, si_2, sl_1, sl_2, false_and, and_false, dX8_halt_0, dX8_halt_1, dX8_halt_4, dX8_halt_5, dX8_halt_8, dX8_halt_11, dX8_halt_14, dX8_halt_15, dX8_halt_18, dX8_halt_21, dX8_halt_22, dX8_halt_25, dX8_halt_28, ca_X8_halt_125, ca_X8_halt_156, ca_X8_halt_160, ca_X8_halt_167, e_aload_n0, e_callv, e_getfield, e_ireturn, gf_X8_35_0, gf_X8_42_0, q_X0_remember, q_X2_allThorns, q_X2_stay, pnq, ab_rn, bi_0, bi_1, ite_not]
      exact h
    · exact h.elim

def pk_m (N : ab_M) (x : Int32) : ab_M := if (¬ x < 0 ∧ x < N.1 8 3 ∧ x < 5) ∧ N.1 13 x.toNatClampNeg < 9 then ab_si N 13 x.toNatClampNeg (N.1 13 x.toNatClampNeg + 1) else N
def ea_m (N : ab_M) (x : Int32) : ab_M := if (¬ x < 0 ∧ x < N.1 8 3 ∧ x < 5) ∧ 0 < N.1 13 x.toNatClampNeg then ab_si N 13 x.toNatClampNeg (N.1 13 x.toNatClampNeg - 1) else N
theorem pkm {x : Int32} {M : ab_M} {Po : ab_P} : s_X2_prick [.ref 12, .int x] M Po = Po none (pk_m M x) := propext ⟨fun h => h.2, fun h => ⟨by decide, h⟩⟩
theorem eam {x : Int32} {M : ab_M} {Po : ab_P} : s_X2_ease [.ref 12, .int x] M Po = Po none (ea_m M x) := propext ⟨fun h => h.2, fun h => ⟨by decide, h⟩⟩
def s_X8_gravel : ab_Sem := fun as M Po => match as with
  | [.ref 0, .int x] => if ¬ x < 0 ∧ x < M.1 8 3 ∧ x < 5 then (if th_X M 12 x < 9 then (¬ M.1 14 1 < 0 ∧ Po (some (.int (th_X (pk_m (re_X M (pn_X M)) x) 12 x))) (pk_m (re_X M (pn_X M)) x)) else Po (some (.int (-4))) M) else Po (some (.int (-1))) M
  | _ => False
theorem q_X8_gravel {x : Int32} {M : ab_M} {Po : ab_P} : s_X8_gravel [.ref 0, .int x] M Po = (if ¬ x < 0 ∧ x < M.1 8 3 ∧ x < 5 then (if th_X M 12 x < 9 then (¬ M.1 14 1 < 0 ∧ Po (some (.int (th_X (pk_m (re_X M (pn_X M)) x) 12 x))) (pk_m (re_X M (pn_X M)) x)) else Po (some (.int (-4))) M) else Po (some (.int (-1))) M) := rfl
abbrev x_X8_gravel : ab_X := (some .int, fl_X8, [(260, 2, s_X7_has), (340, 2, s_X2_canPrick), (312, 1, s_X2_packed), (320, 2, s_X0_remember), (346, 2, s_X2_prick), (280, 2, s_X2_thornsOf)], kl_X8, gs_X8, ab_ros)
theorem ca_X8_gravel_130 {v0 v1 : Value} {st : List Value} {M : ab_M} {k : List Value → ab_M → Prop} : ab_ca x_X8_gravel (2 * 130) (v1 :: v0 :: st) M k = (st.length ≤ 4 ∧ s_X7_has [v0, v1] M (fun r M' => k (r.toList ++ st) M')) := rfl
theorem ca_X8_gravel_170 {v0 v1 : Value} {st : List Value} {M : ab_M} {k : List Value → ab_M → Prop} : ab_ca x_X8_gravel (2 * 170) (v1 :: v0 :: st) M k = (st.length ≤ 4 ∧ s_X2_canPrick [v0, v1] M (fun r M' => k (r.toList ++ st) M')) := rfl
theorem ca_X8_gravel_156 {v0 : Value} {st : List Value} {M : ab_M} {k : List Value → ab_M → Prop} : ab_ca x_X8_gravel (2 * 156) (v0 :: st) M k = (st.length ≤ 4 ∧ s_X2_packed [v0] M (fun r M' => k (r.toList ++ st) M')) := rfl
theorem ca_X8_gravel_160 {v0 v1 : Value} {st : List Value} {M : ab_M} {k : List Value → ab_M → Prop} : ab_ca x_X8_gravel (2 * 160) (v1 :: v0 :: st) M k = (st.length ≤ 4 ∧ s_X0_remember [v0, v1] M (fun r M' => k (r.toList ++ st) M')) := rfl
theorem ca_X8_gravel_173 {v0 v1 : Value} {st : List Value} {M : ab_M} {k : List Value → ab_M → Prop} : ab_ca x_X8_gravel (2 * 173) (v1 :: v0 :: st) M k = (st.length ≤ 4 ∧ s_X2_prick [v0, v1] M (fun r M' => k (r.toList ++ st) M')) := rfl
theorem ca_X8_gravel_140 {v0 v1 : Value} {st : List Value} {M : ab_M} {k : List Value → ab_M → Prop} : ab_ca x_X8_gravel (2 * 140) (v1 :: v0 :: st) M k = (st.length ≤ 4 ∧ s_X2_thornsOf [v0, v1] M (fun r M' => k (r.toList ++ st) M')) := rfl
theorem r_X8_gravel : ∀ (as : List Value) (M : ab_M) (Po : ab_P), s_X8_gravel as M Po → ∃ (q : Nat) (as' : List Value) (ci : Nat) (T : u_T) (N : Nat) (fs : List ab_F), as = .ref q :: as' ∧ ab_sh[q]? = some (.inl (ci, fs)) ∧ vwCl[ci]? = some (yX8_gravel.cls, T, N) := by
  intro as M Po h
  unfold s_X8_gravel at h
  split at h
  · first | exact ⟨_, _, 8, _, _, _, rfl, rfl, rfl⟩ | (rcases h.1 with rfl | rfl | rfl <;> exact ⟨_, _, 8, _, _, _, rfl, rfl, rfl⟩)
  · exact h.elim
set_option maxRecDepth 20000 in
set_option maxHeartbeats 4000000 in
theorem c_X8_gravel {l : Launch} : ab_ctr l yX8_gravel cX8_gravel 2 (some .int) 2 43 s_X8_gravel := by
  refine ab_met x_X8_gravel (by decide) rfl fo_X8 ko_X8 so_X8 rfl (ab_cs_cons (ab_kV c_X7_has ml_X8_130 v_X7_has ⟨rfl, rfl⟩ r_X7_has) (ab_cs_cons (ab_kV c_X2_canPrick ml_X8_170 v_X2_canPrick ⟨rfl, rfl⟩ r_X2_canPrick) (ab_cs_cons (ab_kV c_X2_packed ml_X8_156 v_X2_packed ⟨rfl, rfl⟩ r_X2_packed) (ab_cs_cons (ab_kV c_X0_remember ml_X8_160 v_X0_remember ⟨rfl, rfl⟩ r_X0_remember) (ab_cs_cons (ab_kV c_X2_prick ml_X8_173 v_X2_prick ⟨rfl, rfl⟩ r_X2_prick) (ab_cs_cons (ab_kV c_X2_thornsOf ml_X8_140 v_X2_thornsOf ⟨rfl, rfl⟩ r_X2_thornsOf) ab_cs_nil)))))) ?_ ?_
  · intro as M Po h
    unfold s_X8_gravel at h
    split at h
    · simp [ab_e0]
    · exact h.elim
  · intro as M Po h G hG
    unfold s_X8_gravel at h
    split at h
    · simp only [ab_en, ab_e0, List.length_cons, List.length_nil, Nat.reduceAdd, Nat.reduceSub, List.replicate, List.cons_append, List.nil_append]
      refine ab_go hG [] 80 _ _ _ _ ?_
      simp (decide := true) only [ew_n, ew_0, Option.toList_some, Option.toList_none, List.cons_append, List.nil_append, true_and, and_true, List.length_cons, List.length_nil, Nat.reduceAdd, Nat.reduceLeDiff, Int32.reduceAdd, Int32.reduceSub, Int32.reduceMul, Int32.reduceLT, Int32.reduceLE, Int32.reduceToNatClampNeg, ↓reduceIte, and_self, si_1, si_2, sl_1, sl_2, false_and, and_false, dX8_gravel_0, dX8_gravel_1, dX8_gravel_4, dX8_gravel_5, dX8_gravel_8, dX8_gravel_11, dX8_gravel_12, dX8_gravel_13, dX8_gravel_14, dX8_gravel_17, dX8_gravel_18, dX8_gravel_21, dX8_gravel_24, dX8_gravel_26, dX8_gravel_27, dX8_gravel_28, dX8_gravel_31, dX8_gravel_32, dX8_gravel_35, dX8_gravel_38, dX8_gravel_41, dX8_gravel_42, dX8_gravel_45, dX8_gravel_46, dX8_gravel_49, dX8_gravel_50, dX8_gravel_53, dX8_gravel_54, dX8_gravel_57, ca_X8_gravel_130, ca_X8_gravel_140, ca_X8_gravel_156, ca_X8_gravel_160, ca_X8_gravel_170, ca_X8_gravel_173, e_aload_n0, e_callv, e_getfield, e_iload_n1, e_ireturn, gf_X8_26_0, gf_X8_35_0, gf_X8_42_0, j_bp_m4, j_ic_m1, j_if_ne_21_6, j_if_ne_8_5, q_X0_remember, q_X2_canPrick, q_X2_thornsOf, q_X7_has, pnq, pkm, ab_rn, bi_0, bi_1, ite_not]
      split
      · rename_i h1
        rw [if_pos h1] at h
        split
        · rename_i h2
          rw [if_pos h2.2] at h
          exact h
        · rename_i h2
          rw [if_neg (fun hh => h2 ⟨h1, hh⟩)] at h
          exact h
      · rename_i h1
        rw [if_neg h1] at h
        exact h
    · exact h.elim

def s_X8_pull : ab_Sem := fun as M Po => match as with
  | [.ref 0, .int x] => if ¬ x < 0 ∧ x < M.1 8 3 ∧ x < 5 then (if 0 < th_X M 12 x then (¬ M.1 14 1 < 0 ∧ Po (some (.int (th_X (ea_m (re_X M (pn_X M)) x) 12 x))) (ea_m (re_X M (pn_X M)) x)) else Po (some (.int (-3))) M) else Po (some (.int (-1))) M
  | _ => False
theorem q_X8_pull {x : Int32} {M : ab_M} {Po : ab_P} : s_X8_pull [.ref 0, .int x] M Po = (if ¬ x < 0 ∧ x < M.1 8 3 ∧ x < 5 then (if 0 < th_X M 12 x then (¬ M.1 14 1 < 0 ∧ Po (some (.int (th_X (ea_m (re_X M (pn_X M)) x) 12 x))) (ea_m (re_X M (pn_X M)) x)) else Po (some (.int (-3))) M) else Po (some (.int (-1))) M) := rfl
abbrev x_X8_pull : ab_X := (some .int, fl_X8, [(260, 2, s_X7_has), (352, 2, s_X2_canEase), (312, 1, s_X2_packed), (320, 2, s_X0_remember), (358, 2, s_X2_ease), (280, 2, s_X2_thornsOf)], kl_X8, gs_X8, ab_ros)
theorem ca_X8_pull_130 {v0 v1 : Value} {st : List Value} {M : ab_M} {k : List Value → ab_M → Prop} : ab_ca x_X8_pull (2 * 130) (v1 :: v0 :: st) M k = (st.length ≤ 4 ∧ s_X7_has [v0, v1] M (fun r M' => k (r.toList ++ st) M')) := rfl
theorem ca_X8_pull_176 {v0 v1 : Value} {st : List Value} {M : ab_M} {k : List Value → ab_M → Prop} : ab_ca x_X8_pull (2 * 176) (v1 :: v0 :: st) M k = (st.length ≤ 4 ∧ s_X2_canEase [v0, v1] M (fun r M' => k (r.toList ++ st) M')) := rfl
theorem ca_X8_pull_156 {v0 : Value} {st : List Value} {M : ab_M} {k : List Value → ab_M → Prop} : ab_ca x_X8_pull (2 * 156) (v0 :: st) M k = (st.length ≤ 4 ∧ s_X2_packed [v0] M (fun r M' => k (r.toList ++ st) M')) := rfl
theorem ca_X8_pull_160 {v0 v1 : Value} {st : List Value} {M : ab_M} {k : List Value → ab_M → Prop} : ab_ca x_X8_pull (2 * 160) (v1 :: v0 :: st) M k = (st.length ≤ 4 ∧ s_X0_remember [v0, v1] M (fun r M' => k (r.toList ++ st) M')) := rfl
theorem ca_X8_pull_179 {v0 v1 : Value} {st : List Value} {M : ab_M} {k : List Value → ab_M → Prop} : ab_ca x_X8_pull (2 * 179) (v1 :: v0 :: st) M k = (st.length ≤ 4 ∧ s_X2_ease [v0, v1] M (fun r M' => k (r.toList ++ st) M')) := rfl
theorem ca_X8_pull_140 {v0 v1 : Value} {st : List Value} {M : ab_M} {k : List Value → ab_M → Prop} : ab_ca x_X8_pull (2 * 140) (v1 :: v0 :: st) M k = (st.length ≤ 4 ∧ s_X2_thornsOf [v0, v1] M (fun r M' => k (r.toList ++ st) M')) := rfl
theorem r_X8_pull : ∀ (as : List Value) (M : ab_M) (Po : ab_P), s_X8_pull as M Po → ∃ (q : Nat) (as' : List Value) (ci : Nat) (T : u_T) (N : Nat) (fs : List ab_F), as = .ref q :: as' ∧ ab_sh[q]? = some (.inl (ci, fs)) ∧ vwCl[ci]? = some (yX8_pull.cls, T, N) := by
  intro as M Po h
  unfold s_X8_pull at h
  split at h
  · first | exact ⟨_, _, 8, _, _, _, rfl, rfl, rfl⟩ | (rcases h.1 with rfl | rfl | rfl <;> exact ⟨_, _, 8, _, _, _, rfl, rfl, rfl⟩)
  · exact h.elim
set_option maxRecDepth 20000 in
set_option maxHeartbeats 4000000 in
theorem c_X8_pull {l : Launch} : ab_ctr l yX8_pull cX8_pull 2 (some .int) 2 43 s_X8_pull := by
  refine ab_met x_X8_pull (by decide) rfl fo_X8 ko_X8 so_X8 rfl (ab_cs_cons (ab_kV c_X7_has ml_X8_130 v_X7_has ⟨rfl, rfl⟩ r_X7_has) (ab_cs_cons (ab_kV c_X2_canEase ml_X8_176 v_X2_canEase ⟨rfl, rfl⟩ r_X2_canEase) (ab_cs_cons (ab_kV c_X2_packed ml_X8_156 v_X2_packed ⟨rfl, rfl⟩ r_X2_packed) (ab_cs_cons (ab_kV c_X0_remember ml_X8_160 v_X0_remember ⟨rfl, rfl⟩ r_X0_remember) (ab_cs_cons (ab_kV c_X2_ease ml_X8_179 v_X2_ease ⟨rfl, rfl⟩ r_X2_ease) (ab_cs_cons (ab_kV c_X2_thornsOf ml_X8_140 v_X2_thornsOf ⟨rfl, rfl⟩ r_X2_thornsOf) ab_cs_nil)))))) ?_ ?_
  · intro as M Po h
    unfold s_X8_pull at h
    split at h
    · simp [ab_e0]
    · exact h.elim
  · intro as M Po h G hG
    unfold s_X8_pull at h
    split at h
    · simp only [ab_en, ab_e0, List.length_cons, List.length_nil, Nat.reduceAdd, Nat.reduceSub, List.replicate, List.cons_append, List.nil_append]
      refine ab_go hG [] 80 _ _ _ _ ?_
      simp (decide := true) only [ew_n, ew_0, Option.toList_some, Option.toList_none, List.cons_append, List.nil_append, true_and, and_true, List.length_cons, List.length_nil, Nat.reduceAdd, Nat.reduceLeDiff, Int32.reduceAdd, Int32.reduceSub, Int32.reduceMul, Int32.reduceLT, Int32.reduceLE, Int32.reduceToNatClampNeg, ↓reduceIte, and_self, si_1, si_2, sl_1, sl_2, false_and, and_false, dX8_pull_0, dX8_pull_1, dX8_pull_4, dX8_pull_5, dX8_pull_8, dX8_pull_11, dX8_pull_12, dX8_pull_13, dX8_pull_14, dX8_pull_17, dX8_pull_18, dX8_pull_21, dX8_pull_24, dX8_pull_26, dX8_pull_27, dX8_pull_28, dX8_pull_31, dX8_pull_32, dX8_pull_35, dX8_pull_38, dX8_pull_41, dX8_pull_42, dX8_pull_45, dX8_pull_46, dX8_pull_49, dX8_pull_50, dX8_pull_53, dX8_pull_54, dX8_pull_57, ca_X8_pull_130, ca_X8_pull_140, ca_X8_pull_156, ca_X8_pull_160, ca_X8_pull_176, ca_X8_pull_179, e_aload_n0, e_callv, e_getfield, e_iload_n1, e_ireturn, gf_X8_26_0, gf_X8_35_0, gf_X8_42_0, j_bp_m3, j_ic_m1, j_if_ne_21_6, j_if_ne_8_5, q_X0_remember, q_X2_canEase, q_X2_thornsOf, q_X7_has, pnq, eam, ab_rn, bi_0, bi_1, ite_not]
      split
      · rename_i h1
        rw [if_pos h1] at h
        split
        · rename_i h2
          rw [if_pos h2.2] at h
          exact h
        · rename_i h2
          rw [if_neg (fun hh => h2 ⟨h1, hh⟩)] at h
          exact h
      · rename_i h1
        rw [if_neg h1] at h
        exact h
    · exact h.elim

def un_m (N : ab_M) (u : Int64) : ab_M := mw N 12 (up_m u) (up_d u) (N.1 12 5) (fi_5 (up_t u) (N.1 13))
theorem unq {u : Int64} {M : ab_M} {Po : ab_P} : s_X2_unpack [.ref 12, .long u] M Po = Po none (un_m M u) := propext ⟨fun h => h.2, fun h => ⟨rfl, h⟩⟩
theorem un_14 {N : ab_M} {u : Int64} : (un_m N u).1 14 1 = N.1 14 1 := rfl
def s_X8_undo : ab_Sem := fun as M Po => match as with
  | [.ref 0] => if M.1 14 1 = 0 then Po (some (.int (-3))) M else (0 < M.1 14 1 ∧ ¬ 14 < M.1 14 1 ∧ Po (some (.int (M.1 14 1 - 1))) (un_m (ab_si M 14 1 (M.1 14 1 - 1)) (M.2 15 (M.1 14 1 - 1).toNatClampNeg)))
  | _ => False
theorem q_X8_undo {M : ab_M} {Po : ab_P} : s_X8_undo [.ref 0] M Po = (if M.1 14 1 = 0 then Po (some (.int (-3))) M else (0 < M.1 14 1 ∧ ¬ 14 < M.1 14 1 ∧ Po (some (.int (M.1 14 1 - 1))) (un_m (ab_si M 14 1 (M.1 14 1 - 1)) (M.2 15 (M.1 14 1 - 1).toNatClampNeg)))) := rfl
abbrev x_X8_undo : ab_X := (some .int, fl_X8, [(256, 1, s_X0_count), (364, 1, s_X0_takeLast), (370, 2, s_X2_unpack)], kl_X8, gs_X8, ab_ros)
theorem ca_X8_undo_128 {v0 : Value} {st : List Value} {M : ab_M} {k : List Value → ab_M → Prop} : ab_ca x_X8_undo (2 * 128) (v0 :: st) M k = (st.length ≤ 4 ∧ s_X0_count [v0] M (fun r M' => k (r.toList ++ st) M')) := rfl
theorem ca_X8_undo_182 {v0 : Value} {st : List Value} {M : ab_M} {k : List Value → ab_M → Prop} : ab_ca x_X8_undo (2 * 182) (v0 :: st) M k = (st.length ≤ 4 ∧ s_X0_takeLast [v0] M (fun r M' => k (r.toList ++ st) M')) := rfl
theorem ca_X8_undo_185 {v0 v1 : Value} {st : List Value} {M : ab_M} {k : List Value → ab_M → Prop} : ab_ca x_X8_undo (2 * 185) (v1 :: v0 :: st) M k = (st.length ≤ 4 ∧ s_X2_unpack [v0, v1] M (fun r M' => k (r.toList ++ st) M')) := rfl
theorem r_X8_undo : ∀ (as : List Value) (M : ab_M) (Po : ab_P), s_X8_undo as M Po → ∃ (q : Nat) (as' : List Value) (ci : Nat) (T : u_T) (N : Nat) (fs : List ab_F), as = .ref q :: as' ∧ ab_sh[q]? = some (.inl (ci, fs)) ∧ vwCl[ci]? = some (yX8_undo.cls, T, N) := by
  intro as M Po h
  unfold s_X8_undo at h
  split at h
  · first | exact ⟨_, _, 8, _, _, _, rfl, rfl, rfl⟩ | (rcases h.1 with rfl | rfl | rfl <;> exact ⟨_, _, 8, _, _, _, rfl, rfl, rfl⟩)
  · exact h.elim
set_option maxRecDepth 20000 in
set_option maxHeartbeats 4000000 in
theorem c_X8_undo {l : Launch} : ab_ctr l yX8_undo cX8_undo 1 (some .int) 1 25 s_X8_undo := by
  refine ab_met x_X8_undo (by decide) rfl fo_X8 ko_X8 so_X8 rfl (ab_cs_cons (ab_kV c_X0_count ml_X8_128 v_X0_count ⟨rfl, rfl⟩ r_X0_count) (ab_cs_cons (ab_kV c_X0_takeLast ml_X8_182 v_X0_takeLast ⟨rfl, rfl⟩ r_X0_takeLast) (ab_cs_cons (ab_kV c_X2_unpack ml_X8_185 v_X2_unpack ⟨rfl, rfl⟩ r_X2_unpack) ab_cs_nil))) ?_ ?_
  · intro as M Po h
    unfold s_X8_undo at h
    split at h
    · simp [ab_e0]
    · exact h.elim
  · intro as M Po h G hG
    unfold s_X8_undo at h
    split at h
    · simp only [ab_en, ab_e0, List.length_cons, List.length_nil, Nat.reduceAdd, Nat.reduceSub, List.replicate, List.cons_append, List.nil_append]
      refine ab_go hG [] 80 _ _ _ _ ?_
      simp (decide := true) only [ew_n, ew_0, Option.toList_some, Option.toList_none, List.cons_append, List.nil_append, true_and, and_true, List.length_cons, List.length_nil, Nat.reduceAdd, Nat.reduceLeDiff, Int32.reduceAdd, Int32.reduceSub, Int32.reduceMul, Int32.reduceLT, Int32.reduceLE, Int32.reduceToNatClampNeg, ↓reduceIte, and_self, si_1, si_2, sl_1, sl_2, false_and, and_false, dX8_undo_0, dX8_undo_1, dX8_undo_4, dX8_undo_7, dX8_undo_10, dX8_undo_12, dX8_undo_13, dX8_undo_14, dX8_undo_17, dX8_undo_18, dX8_undo_21, dX8_undo_24, dX8_undo_27, dX8_undo_28, dX8_undo_31, dX8_undo_34, ca_X8_undo_128, ca_X8_undo_182, ca_X8_undo_185, e_aload_n0, e_callv, e_getfield, e_ireturn, gf_X8_35_0, gf_X8_42_0, j_bp_m3, j_if_ne_7_6, q_X0_count, q_X0_takeLast, unq, un_14, ab_rn, bi_0, bi_1, ite_not]
      split
      · rename_i h1
        rw [if_pos h1] at h
        exact h
      · rename_i h1
        rw [if_neg h1] at h
        rw [if_pos ⟨h.1, h.2.1⟩]
        exact h.2.2
    · exact h.elim

