/-! METHODS: the model, statics and small ones -/
theorem lg_gt (u v : Int64) : (0 < lg_cmp u v) = (v < u) := by
  unfold lg_cmp
  apply propext
  by_cases h1 : u > v
  · rw [if_pos h1]
    exact ⟨fun _ => h1, fun _ => by decide⟩
  · rw [if_neg h1]
    by_cases h2 : u = v
    · rw [if_pos h2]
      exact ⟨fun h => absurd h (by decide), fun h => absurd h h1⟩
    · rw [if_neg h2]
      exact ⟨fun h => absurd h (by decide), fun h => absurd h h1⟩
theorem wi_lt (a b : Int32) : (a.toInt64 < b.toInt64) = (a < b) := by
  rw [Int64.lt_iff_toInt_lt, Int32.lt_iff_toInt_lt, Int32.toInt_toInt64, Int32.toInt_toInt64]
theorem wi_0 (a : Int32) : (a.toInt64 < 0) = (a < 0) := wi_lt a 0
theorem wi_g255 (a : Int32) : ((255 : Int64) < a.toInt64) = (255 < a) := wi_lt 255 a
theorem wi_l255 (a : Int32) : (a.toInt64 < (255 : Int64)) = (a < 255) := wi_lt a 255
theorem wi_g40 (a : Int32) : ((40 : Int64) < a.toInt64) = (40 < a) := wi_lt 40 a
theorem wi_l40 (a : Int32) : (a.toInt64 < (40 : Int64)) = (a < 40) := wi_lt a 40
theorem wi_g20 (a : Int32) : ((20 : Int64) < a.toInt64) = (20 < a) := wi_lt 20 a
theorem wi_l20 (a : Int32) : (a.toInt64 < (20 : Int64)) = (a < 20) := wi_lt a 20
theorem wi_g4 (a : Int32) : ((4 : Int64) < a.toInt64) = (4 < a) := wi_lt 4 a
theorem wi_l4 (a : Int32) : (a.toInt64 < (4 : Int64)) = (a < 4) := wi_lt a 4
theorem wi_g3 (a : Int32) : ((3 : Int64) < a.toInt64) = (3 < a) := wi_lt 3 a
theorem wi_l3 (a : Int32) : (a.toInt64 < (3 : Int64)) = (a < 3) := wi_lt a 3
theorem wi_g9 (a : Int32) : ((9 : Int64) < a.toInt64) = (9 < a) := wi_lt 9 a
theorem wi_l9 (a : Int32) : (a.toInt64 < (9 : Int64)) = (a < 9) := wi_lt a 9
theorem wi_g10 (a : Int32) : ((10 : Int64) < a.toInt64) = (10 < a) := wi_lt 10 a
theorem wi_l10 (a : Int32) : (a.toInt64 < (10 : Int64)) = (a < 10) := wi_lt a 10
theorem wi_g30 (a : Int32) : ((30 : Int64) < a.toInt64) = (30 < a) := wi_lt 30 a
theorem wi_l30 (a : Int32) : (a.toInt64 < (30 : Int64)) = (a < 30) := wi_lt a 30
theorem wi_g1 (a : Int32) : ((1 : Int64) < a.toInt64) = (1 < a) := wi_lt 1 a
theorem wi_l1 (a : Int32) : (a.toInt64 < (1 : Int64)) = (a < 1) := wi_lt a 1
def s_X9_in : ab_Sem := fun as M Po => match as with
  | [.long u, .long v, .long w] => Po (some (.int (if ¬ u < v ∧ ¬ w < u then 1 else 0))) M
  | _ => False
theorem q_X9_in {u v w : Int64} {M : ab_M} {Po : ab_P} : s_X9_in [.long u, .long v, .long w] M Po = (Po (some (.int (if ¬ u < v ∧ ¬ w < u then 1 else 0))) M) := rfl
abbrev x_X9_in : ab_X := (some .boolean, fl_X9, [], kl_X9, gs_X9, ab_ros)
set_option maxRecDepth 20000 in
set_option maxHeartbeats 4000000 in
theorem c_X9_in {l : Launch} : ab_ctr l yX9_in cX9_in 6 (some .boolean) 0 0 s_X9_in := by
  refine ab_met x_X9_in (by decide) rfl fo_X9 ko_X9 so_X9 rfl ab_cs_nil ?_ ?_
  · intro as M Po h
    unfold s_X9_in at h
    split at h
    · simp [ab_e0]
    · exact h.elim
  · intro as M Po h G hG
    unfold s_X9_in at h
    split at h
    · refine ab_go hG [] 60 _ _ _ _ ?_
      simp only [ab_en, ab_e0, List.length_cons, List.length_nil, Nat.reduceAdd, Nat.reduceSub, List.replicate, List.cons_append, List.nil_append]
      simp (decide := true) only [ew_n, ew_0, Option.toList_some, Option.toList_none, List.cons_append, List.nil_append, true_and, and_true, List.length_cons, List.length_nil, Nat.reduceAdd, Nat.reduceLeDiff, Int32.reduceAdd, Int32.reduceSub, Int32.reduceMul, Int32.reduceLT, Int32.reduceLE, Int32.reduceToNatClampNeg, ↓reduceIte, and_self, si_1, si_2, sl_1, sl_2, false_and, and_false, dX9_in_0, dX9_in_1, dX9_in_2, dX9_in_3, dX9_in_6, dX9_in_7, dX9_in_9, dX9_in_10, dX9_in_13, dX9_in_14, dX9_in_17, dX9_in_18, e_ireturn, e_lcmp, e_lload4, e_lload_n0, e_lload_n2, j_goto_14_4, j_ic_0, j_ic_1, j_if_gt_10_7, j_if_lt_3_14, lg_lt, lg_gt, ab_rn, bi_0, bi_1, ite_not]
      (repeat' split) <;> (try simp (decide := true) only [i0_le, *, not_false_eq_true, not_true_eq_false, and_self, true_and, and_true, or_false, false_or, or_true, true_or, false_and, and_false, not_and, ↓reduceIte] at h) <;> (try simp (decide := true) only [i0_le, *, not_false_eq_true, not_true_eq_false, and_self, true_and, and_true, or_false, false_or, or_true, true_or, false_and, and_false, not_and, ↓reduceIte]) <;> first | done | exact h | (exfalso; simp_all (decide := true) only [not_true_eq_false, not_false_eq_true, false_and, and_false, true_and, and_true]; done)
    · exact h.elim

def s_X9_has : ab_Sem := fun as M Po => match as with
  | [.int x, .int y] => Po (some (.int (if (x >>> (y &&& 31)) &&& 1 = 1 then 1 else 0))) M
  | _ => False
theorem q_X9_has {x y : Int32} {M : ab_M} {Po : ab_P} : s_X9_has [.int x, .int y] M Po = (Po (some (.int (if (x >>> (y &&& 31)) &&& 1 = 1 then 1 else 0))) M) := rfl
abbrev x_X9_has : ab_X := (some .boolean, fl_X9, [], kl_X9, gs_X9, ab_ros)
set_option maxRecDepth 20000 in
set_option maxHeartbeats 4000000 in
theorem c_X9_has {l : Launch} : ab_ctr l yX9_has cX9_has 2 (some .boolean) 0 0 s_X9_has := by
  refine ab_met x_X9_has (by decide) rfl fo_X9 ko_X9 so_X9 rfl ab_cs_nil ?_ ?_
  · intro as M Po h
    unfold s_X9_has at h
    split at h
    · simp [ab_e0]
    · exact h.elim
  · intro as M Po h G hG
    unfold s_X9_has at h
    split at h
    · refine ab_go hG [] 60 _ _ _ _ ?_
      simp only [ab_en, ab_e0, List.length_cons, List.length_nil, Nat.reduceAdd, Nat.reduceSub, List.replicate, List.cons_append, List.nil_append]
      simp (decide := true) only [ew_n, ew_0, Option.toList_some, Option.toList_none, List.cons_append, List.nil_append, true_and, and_true, List.length_cons, List.length_nil, Nat.reduceAdd, Nat.reduceLeDiff, Int32.reduceAdd, Int32.reduceSub, Int32.reduceMul, Int32.reduceLT, Int32.reduceLE, Int32.reduceToNatClampNeg, ↓reduceIte, and_self, si_1, si_2, sl_1, sl_2, false_and, and_false, dX9_has_0, dX9_has_1, dX9_has_2, dX9_has_3, dX9_has_4, dX9_has_5, dX9_has_6, dX9_has_9, dX9_has_10, dX9_has_13, dX9_has_14, e_iand, e_iload_n0, e_iload_n1, e_ireturn, e_ishr, j_goto_10_4, j_ic_0, j_ic_1, j_icmp_ne_6_7, ab_rn, bi_0, bi_1, ite_not]
      (repeat' split) <;> (try simp (decide := true) only [i0_le, *, not_false_eq_true, not_true_eq_false, and_self, true_and, and_true, or_false, false_or, or_true, true_or, false_and, and_false, not_and, ↓reduceIte] at h) <;> (try simp (decide := true) only [i0_le, *, not_false_eq_true, not_true_eq_false, and_self, true_and, and_true, or_false, false_or, or_true, true_or, false_and, and_false, not_and, ↓reduceIte]) <;> first | done | exact h | (exfalso; simp_all (decide := true) only [not_true_eq_false, not_false_eq_true, false_and, and_false, true_and, and_true]; done)
    · exact h.elim

def mb_1 (x y : Int32) : Int32 := (x >>> (y &&& 31)) &&& 1
def my_M (x : Int32) : Int32 := 0 + mb_1 x 0 + mb_1 x 1 + mb_1 x 2 + mb_1 x 3 + mb_1 x 4
def s_X9_many : ab_Sem := fun as M Po => match as with
  | [.int x] => Po (some (.int (my_M x))) M
  | _ => False
theorem q_X9_many {x : Int32} {M : ab_M} {Po : ab_P} : s_X9_many [.int x] M Po = (Po (some (.int (my_M x))) M) := rfl
abbrev x_X9_many : ab_X := (some .int, fl_X9, [], kl_X9, gs_X9, ab_ros)
set_option maxRecDepth 20000 in
set_option maxHeartbeats 4000000 in
theorem c_X9_many {l : Launch} : ab_ctr l yX9_many cX9_many 3 (some .int) 0 0 s_X9_many := by
  refine ab_met x_X9_many (by decide) rfl fo_X9 ko_X9 so_X9 rfl ab_cs_nil ?_ ?_
  · intro as M Po h
    unfold s_X9_many at h
    split at h
    · simp [ab_e0]
    · exact h.elim
  · intro as M Po h G hG
    unfold s_X9_many at h
    split at h
    · refine ab_go hG [] 100 _ _ _ _ ?_
      simp only [ab_en, ab_e0, List.length_cons, List.length_nil, Nat.reduceAdd, Nat.reduceSub, List.replicate, List.cons_append, List.nil_append]
      simp (decide := true) only [ew_n, ew_0, Option.toList_some, Option.toList_none, List.cons_append, List.nil_append, true_and, and_true, List.length_cons, List.length_nil, Nat.reduceAdd, Nat.reduceLeDiff, Int32.reduceAdd, Int32.reduceSub, Int32.reduceMul, Int32.reduceLT, Int32.reduceLE, Int32.reduceToNatClampNeg, ↓reduceIte, and_self, si_1, si_2, sl_1, sl_2, false_and, and_false, dX9_many_0, dX9_many_1, dX9_many_2, dX9_many_3, dX9_many_4, dX9_many_5, dX9_many_6, dX9_many_9, dX9_many_10, dX9_many_11, dX9_many_12, dX9_many_13, dX9_many_14, dX9_many_15, dX9_many_16, dX9_many_17, dX9_many_20, dX9_many_23, dX9_many_24, e_iadd, e_iand, e_iload_n0, e_iload_n1, e_iload_n2, e_ireturn, e_ishr, e_istore_n1i, e_istore_n1n, e_istore_n1r, e_istore_n2i, e_istore_n2n, e_istore_n2r, j_goto_20_m16, j_ic_0, j_ic_1, j_ic_5, j_icmp_ge_6_17, j_ii_2_1, ab_rn, bi_0, bi_1, ite_not]
      simp only [my_M, mb_1] at h
      exact h
    · exact h.elim

def s_X9_power : ab_Sem := fun as M Po => match as with
  | [.int b, .int t] => Po (some (.int (pw_X b t.toNatClampNeg))) M
  | _ => False
theorem q_X9_power {b t : Int32} {M : ab_M} {Po : ab_P} : s_X9_power [.int b, .int t] M Po = (Po (some (.int (pw_X b t.toNatClampNeg))) M) := rfl
abbrev x_X9_power : ab_X := (some .int, fl_X9, [], kl_X9, gs_X9, ab_ros)
set_option maxRecDepth 20000 in
set_option maxHeartbeats 4000000 in
theorem lp_X9_power {G : ab_K} {Po : ab_P} (hG : ab_Clo cX9_power x_X9_power Po G) {b : Int32} {M : ab_M} (n : Nat) (hn : n < 2 ^ 31) (h : Po (some (.int (pw_X b n))) M) : ∀ j i : Nat, i + j = n → G 4 [some (.int b), some (.int (nI n)), some (.int (pw_X b i)), some (.int (nI i))] [] M := by
  intro j
  induction j with
  | zero =>
    intro i hi
    have e : i = n := by omega
    subst e
    refine ab_go1 hG [4] 80 _ _ _ _ ?_
    simp (decide := true) only [ew_s, ew_0, Option.toList_some, Option.toList_none, List.cons_append, List.nil_append, true_and, and_true, List.length_cons, List.length_nil, Nat.reduceAdd, Nat.reduceLeDiff, Int32.reduceAdd, Int32.reduceSub, Int32.reduceMul, Int32.reduceLT, Int32.reduceLE, Int32.reduceToNatClampNeg, ↓reduceIte, and_self, si_1, si_2, sl_1, sl_2, false_and, and_false, dX9_power_0, dX9_power_1, dX9_power_2, dX9_power_3, dX9_power_4, dX9_power_5, dX9_power_6, dX9_power_9, dX9_power_10, dX9_power_11, dX9_power_12, dX9_power_13, dX9_power_16, dX9_power_19, dX9_power_20, e_iload_n0, e_iload_n1, e_iload_n2, e_iload_n3, e_imul, e_ireturn, e_istore_n2i, e_istore_n2n, e_istore_n2r, e_istore_n3i, e_istore_n3n, e_istore_n3r, j_goto_16_m12, j_ic_0, j_ic_1, j_icmp_ge_6_13, j_ii_3_1, ab_rn, bi_0, bi_1, ite_not]
    rw [if_neg (nI_nlt (Nat.le_refl i) hn)]
    exact h
  | succ j ih =>
    intro i hi
    refine ab_go1 hG [4] 80 _ _ _ _ ?_
    simp (decide := true) only [ew_s, ew_0, Option.toList_some, Option.toList_none, List.cons_append, List.nil_append, true_and, and_true, List.length_cons, List.length_nil, Nat.reduceAdd, Nat.reduceLeDiff, Int32.reduceAdd, Int32.reduceSub, Int32.reduceMul, Int32.reduceLT, Int32.reduceLE, Int32.reduceToNatClampNeg, ↓reduceIte, and_self, si_1, si_2, sl_1, sl_2, false_and, and_false, dX9_power_0, dX9_power_1, dX9_power_2, dX9_power_3, dX9_power_4, dX9_power_5, dX9_power_6, dX9_power_9, dX9_power_10, dX9_power_11, dX9_power_12, dX9_power_13, dX9_power_16, dX9_power_19, dX9_power_20, e_iload_n0, e_iload_n1, e_iload_n2, e_iload_n3, e_imul, e_ireturn, e_istore_n2i, e_istore_n2n, e_istore_n2r, e_istore_n3i, e_istore_n3n, e_istore_n3r, j_goto_16_m12, j_ic_0, j_ic_1, j_icmp_ge_6_13, j_ii_3_1, ab_rn, bi_0, bi_1, ite_not]
    rw [if_pos (nI_lt (by omega) hn), nI_1]
    exact ih (i + 1) (by omega)
set_option maxRecDepth 20000 in
set_option maxHeartbeats 4000000 in
theorem c_X9_power {l : Launch} : ab_ctr l yX9_power cX9_power 4 (some .int) 0 0 s_X9_power := by
  refine ab_met x_X9_power (by decide) rfl fo_X9 ko_X9 so_X9 rfl ab_cs_nil ?_ ?_
  · intro as M Po h
    unfold s_X9_power at h
    split at h
    · simp [ab_e0]
    · exact h.elim
  · intro as M Po h G hG
    unfold s_X9_power at h
    split at h
    · simp only [ab_en, ab_e0, List.length_cons, List.length_nil, Nat.reduceAdd, Nat.reduceSub, List.replicate, List.cons_append, List.nil_append]
      rename_i b t
      by_cases ht : t < 0
      · rw [tn_neg ht] at h
        refine ab_go hG [] 80 _ _ _ _ ?_
        simp (decide := true) only [ew_n, ew_0, Option.toList_some, Option.toList_none, List.cons_append, List.nil_append, true_and, and_true, List.length_cons, List.length_nil, Nat.reduceAdd, Nat.reduceLeDiff, Int32.reduceAdd, Int32.reduceSub, Int32.reduceMul, Int32.reduceLT, Int32.reduceLE, Int32.reduceToNatClampNeg, ↓reduceIte, and_self, si_1, si_2, sl_1, sl_2, false_and, and_false, dX9_power_0, dX9_power_1, dX9_power_2, dX9_power_3, dX9_power_4, dX9_power_5, dX9_power_6, dX9_power_9, dX9_power_10, dX9_power_11, dX9_power_12, dX9_power_13, dX9_power_16, dX9_power_19, dX9_power_20, e_iload_n0, e_iload_n1, e_iload_n2, e_iload_n3, e_imul, e_ireturn, e_istore_n2i, e_istore_n2n, e_istore_n2r, e_istore_n3i, e_istore_n3n, e_istore_n3r, j_goto_16_m12, j_ic_0, j_ic_1, j_icmp_ge_6_13, j_ii_3_1, ab_rn, bi_0, bi_1, ite_not]
        rw [if_neg (fun h2 => by have h3 := Int32.lt_iff_toInt_lt.mp h2; have h4 := Int32.lt_iff_toInt_lt.mp ht; omega)]
        exact h
      · obtain ⟨n, hn, rfl⟩ := nI_of ht
        rw [nI_clamp hn] at h
        refine ab_go hG [4] 80 _ _ _ _ ?_
        simp (decide := true) only [ew_s, ew_0, Option.toList_some, Option.toList_none, List.cons_append, List.nil_append, true_and, and_true, List.length_cons, List.length_nil, Nat.reduceAdd, Nat.reduceLeDiff, Int32.reduceAdd, Int32.reduceSub, Int32.reduceMul, Int32.reduceLT, Int32.reduceLE, Int32.reduceToNatClampNeg, ↓reduceIte, and_self, si_1, si_2, sl_1, sl_2, false_and, and_false, dX9_power_0, dX9_power_1, dX9_power_2, dX9_power_3, dX9_power_4, dX9_power_5, dX9_power_6, dX9_power_9, dX9_power_10, dX9_power_11, dX9_power_12, dX9_power_13, dX9_power_16, dX9_power_19, dX9_power_20, e_iload_n0, e_iload_n1, e_iload_n2, e_iload_n3, e_imul, e_ireturn, e_istore_n2i, e_istore_n2n, e_istore_n2r, e_istore_n3i, e_istore_n3n, e_istore_n3r, j_goto_16_m12, j_ic_0, j_ic_1, j_icmp_ge_6_13, j_ii_3_1, ab_rn, bi_0, bi_1, ite_not]
        exact lp_X9_power hG n hn h n 0 (by omega)
    · exact h.elim

def sp_M (p k t : Int32) : Int32 := if p - t * (if k = 1 then 1 else if k = 2 then 3 else 2) < 1 then 1 else p - t * (if k = 1 then 1 else if k = 2 then 3 else 2)
def s_X9_speedBy : ab_Sem := fun as M Po => match as with
  | [.int p, .int k, .int t] => Po (some (.int (sp_M p k t))) M
  | _ => False
theorem q_X9_speedBy {p k t : Int32} {M : ab_M} {Po : ab_P} : s_X9_speedBy [.int p, .int k, .int t] M Po = (Po (some (.int (sp_M p k t))) M) := rfl
abbrev x_X9_speedBy : ab_X := (some .int, fl_X9, [], kl_X9, gs_X9, ab_ros)
set_option maxRecDepth 20000 in
set_option maxHeartbeats 4000000 in
theorem c_X9_speedBy {l : Launch} : ab_ctr l yX9_speedBy cX9_speedBy 4 (some .int) 0 0 s_X9_speedBy := by
  refine ab_met x_X9_speedBy (by decide) rfl fo_X9 ko_X9 so_X9 rfl ab_cs_nil ?_ ?_
  · intro as M Po h
    unfold s_X9_speedBy at h
    split at h
    · simp [ab_e0]
    · exact h.elim
  · intro as M Po h G hG
    unfold s_X9_speedBy at h
    split at h
    · refine ab_go hG [] 60 _ _ _ _ ?_
      simp only [ab_en, ab_e0, List.length_cons, List.length_nil, Nat.reduceAdd, Nat.reduceSub, List.replicate, List.cons_append, List.nil_append]
      simp (decide := true) only [ew_n, ew_0, Option.toList_some, Option.toList_none, List.cons_append, List.nil_append, true_and, and_true, List.length_cons, List.length_nil, Nat.reduceAdd, Nat.reduceLeDiff, Int32.reduceAdd, Int32.reduceSub, Int32.reduceMul, Int32.reduceLT, Int32.reduceLE, Int32.reduceToNatClampNeg, ↓reduceIte, and_self, si_1, si_2, sl_1, sl_2, false_and, and_false, dX9_speedBy_0, dX9_speedBy_1, dX9_speedBy_2, dX9_speedBy_3, dX9_speedBy_4, dX9_speedBy_7, dX9_speedBy_8, dX9_speedBy_11, dX9_speedBy_12, dX9_speedBy_13, dX9_speedBy_16, dX9_speedBy_17, dX9_speedBy_20, dX9_speedBy_21, dX9_speedBy_22, dX9_speedBy_23, dX9_speedBy_24, dX9_speedBy_25, dX9_speedBy_26, dX9_speedBy_29, dX9_speedBy_30, dX9_speedBy_33, dX9_speedBy_34, e_iload_n0, e_iload_n1, e_iload_n2, e_iload_n3, e_imul, e_ireturn, e_istore_n3i, e_istore_n3n, e_istore_n3r, e_isub, j_goto_17_4, j_goto_30_4, j_goto_8_13, j_ic_1, j_ic_2, j_ic_3, j_icmp_ge_26_7, j_icmp_ne_13_7, j_icmp_ne_4_7, ab_rn, bi_0, bi_1, ite_not]
      rename_i p k t
      unfold sp_M at h
      by_cases h1 : k = 1
      · simp only [if_pos h1] at h ⊢
        split
        · rename_i h2
          rw [if_pos h2] at h
          exact h
        · rename_i h2
          rw [if_neg h2] at h
          exact h
      · simp only [if_neg h1] at h ⊢
        by_cases h3 : k = 2
        · simp only [if_pos h3] at h ⊢
          split
          · rename_i h2
            rw [if_pos h2] at h
            exact h
          · rename_i h2
            rw [if_neg h2] at h
            exact h
        · simp only [if_neg h3] at h ⊢
          split
          · rename_i h2
            rw [if_pos h2] at h
            exact h
          · rename_i h2
            rw [if_neg h2] at h
            exact h
    · exact h.elim

/-- Euclid comes to an end within n rounds -/
def ge_E : Nat → Int32 → Int32 → Prop
  | 0, _, b => b = 0
  | n + 1, a, b => b = 0 ∨ ge_E n b (a - a / b * b)
theorem ge_gd : ∀ (n : Nat) (a b : Int32), ge_E n a b → ∀ j, gd_X (n + j) a b = gd_X n a b
  | 0, a, b, h, 0 => rfl
  | 0, a, b, h, j + 1 => by
    have hb : b = 0 := h
    rw [Nat.zero_add]
    unfold gd_X
    rw [if_pos hb]
  | n + 1, a, b, h, j => by
    have e : n + 1 + j = n + j + 1 := by omega
    rw [e]
    unfold gd_X
    by_cases hb : b = 0
    · rw [if_pos hb, if_pos hb]
    · rw [if_neg hb, if_neg hb]
      exact ge_gd n _ _ (h.resolve_left hb) j
def am_M (a : Int32) : Int32 := if a < 0 then -a else a
def s_X9_divisor : ab_Sem := fun as M Po => match as with
  | [.int a, .int b] => ∃ n : Nat, ge_E n (am_M a) b ∧ Po (some (.int (gd_X n (am_M a) b))) M
  | _ => False
theorem q_X9_divisor {a b : Int32} {M : ab_M} {Po : ab_P} : s_X9_divisor [.int a, .int b] M Po = (∃ n : Nat, ge_E n (am_M a) b ∧ Po (some (.int (gd_X n (am_M a) b))) M) := rfl
abbrev x_X9_divisor : ab_X := (some .int, fl_X9, [], kl_X9, gs_X9, ab_ros)
set_option maxRecDepth 20000 in
set_option maxHeartbeats 4000000 in
theorem lp_X9_divisor {G : ab_K} {Po : ab_P} (hG : ab_Clo cX9_divisor x_X9_divisor Po G) {u v : Int32} {M : ab_M} : ∀ (n : Nat) (a b : Int32) (c : Option Value), ge_E n a b → Po (some (.int (gd_X n a b))) M → G 13 [some (.int u), some (.int v), some (.int a), some (.int b), c] [] M := by
  intro n
  induction n with
  | zero =>
    intro a b c hb h
    have hb : b = 0 := hb
    subst hb
    refine ab_go1 hG [13] 80 _ _ _ _ ?_
    simp (decide := true) only [ew_s, ew_0, Option.toList_some, Option.toList_none, List.cons_append, List.nil_append, true_and, and_true, List.length_cons, List.length_nil, Nat.reduceAdd, Nat.reduceLeDiff, Int32.reduceAdd, Int32.reduceSub, Int32.reduceMul, Int32.reduceLT, Int32.reduceLE, Int32.reduceToNatClampNeg, ↓reduceIte, and_self, si_1, si_2, sl_1, sl_2, false_and, and_false, dX9_divisor_0, dX9_divisor_1, dX9_divisor_4, dX9_divisor_5, dX9_divisor_6, dX9_divisor_9, dX9_divisor_10, dX9_divisor_11, dX9_divisor_12, dX9_divisor_13, dX9_divisor_14, dX9_divisor_17, dX9_divisor_18, dX9_divisor_19, dX9_divisor_20, dX9_divisor_22, dX9_divisor_23, dX9_divisor_24, dX9_divisor_26, dX9_divisor_27, dX9_divisor_30, dX9_divisor_31, e_iload4, e_iload_n0, e_iload_n1, e_iload_n2, e_iload_n3, e_ineg, e_irem, e_ireturn, e_istore4i, e_istore4n, e_istore4r, e_istore_n2i, e_istore_n2n, e_istore_n2r, e_istore_n3i, e_istore_n3n, e_istore_n3r, j_goto_27_m14, j_goto_6_4, j_if_eq_14_16, j_if_ge_1_8, ab_rn, bi_0, bi_1, ite_not]
    exact h
  | succ n ih =>
    intro a b c hb h
    unfold gd_X at h
    refine ab_go1 hG [13] 80 _ _ _ _ ?_
    simp (decide := true) only [ew_s, ew_0, Option.toList_some, Option.toList_none, List.cons_append, List.nil_append, true_and, and_true, List.length_cons, List.length_nil, Nat.reduceAdd, Nat.reduceLeDiff, Int32.reduceAdd, Int32.reduceSub, Int32.reduceMul, Int32.reduceLT, Int32.reduceLE, Int32.reduceToNatClampNeg, ↓reduceIte, and_self, si_1, si_2, sl_1, sl_2, false_and, and_false, dX9_divisor_0, dX9_divisor_1, dX9_divisor_4, dX9_divisor_5, dX9_divisor_6, dX9_divisor_9, dX9_divisor_10, dX9_divisor_11, dX9_divisor_12, dX9_divisor_13, dX9_divisor_14, dX9_divisor_17, dX9_divisor_18, dX9_divisor_19, dX9_divisor_20, dX9_divisor_22, dX9_divisor_23, dX9_divisor_24, dX9_divisor_26, dX9_divisor_27, dX9_divisor_30, dX9_divisor_31, e_iload4, e_iload_n0, e_iload_n1, e_iload_n2, e_iload_n3, e_ineg, e_irem, e_ireturn, e_istore4i, e_istore4n, e_istore4r, e_istore_n2i, e_istore_n2n, e_istore_n2r, e_istore_n3i, e_istore_n3n, e_istore_n3r, j_goto_27_m14, j_goto_6_4, j_if_eq_14_16, j_if_ge_1_8, ab_rn, bi_0, bi_1, ite_not]
    split
    · rename_i h2
      rw [if_pos h2] at h
      exact h
    · rename_i h2
      rw [if_neg h2] at h
      exact ⟨h2, ih _ _ _ (hb.resolve_left h2) h⟩
set_option maxRecDepth 20000 in
set_option maxHeartbeats 4000000 in
theorem c_X9_divisor {l : Launch} : ab_ctr l yX9_divisor cX9_divisor 5 (some .int) 0 0 s_X9_divisor := by
  refine ab_met x_X9_divisor (by decide) rfl fo_X9 ko_X9 so_X9 rfl ab_cs_nil ?_ ?_
  · intro as M Po h
    unfold s_X9_divisor at h
    split at h
    · simp [ab_e0]
    · exact h.elim
  · intro as M Po h G hG
    unfold s_X9_divisor at h
    split at h
    · simp only [ab_en, ab_e0, List.length_cons, List.length_nil, Nat.reduceAdd, Nat.reduceSub, List.replicate, List.cons_append, List.nil_append]
      obtain ⟨n, hn, h⟩ := h
      refine ab_go hG [13] 80 _ _ _ _ ?_
      simp (decide := true) only [ew_s, ew_0, Option.toList_some, Option.toList_none, List.cons_append, List.nil_append, true_and, and_true, List.length_cons, List.length_nil, Nat.reduceAdd, Nat.reduceLeDiff, Int32.reduceAdd, Int32.reduceSub, Int32.reduceMul, Int32.reduceLT, Int32.reduceLE, Int32.reduceToNatClampNeg, ↓reduceIte, and_self, si_1, si_2, sl_1, sl_2, false_and, and_false, dX9_divisor_0, dX9_divisor_1, dX9_divisor_4, dX9_divisor_5, dX9_divisor_6, dX9_divisor_9, dX9_divisor_10, dX9_divisor_11, dX9_divisor_12, dX9_divisor_13, dX9_divisor_14, dX9_divisor_17, dX9_divisor_18, dX9_divisor_19, dX9_divisor_20, dX9_divisor_22, dX9_divisor_23, dX9_divisor_24, dX9_divisor_26, dX9_divisor_27, dX9_divisor_30, dX9_divisor_31, e_iload4, e_iload_n0, e_iload_n1, e_iload_n2, e_iload_n3, e_ineg, e_irem, e_ireturn, e_istore4i, e_istore4n, e_istore4r, e_istore_n2i, e_istore_n2n, e_istore_n2r, e_istore_n3i, e_istore_n3n, e_istore_n3r, j_goto_27_m14, j_goto_6_4, j_if_eq_14_16, j_if_ge_1_8, ab_rn, bi_0, bi_1, ite_not]
      unfold am_M at hn h
      split
      · rename_i h2
        rw [if_pos h2] at hn h
        exact lp_X9_divisor hG n _ _ _ hn h
      · rename_i h2
        rw [if_neg h2] at hn h
        exact lp_X9_divisor hG n _ _ _ hn h
    · exact h.elim

def s_X9_fraction : ab_Sem := fun as M Po => match as with
  | [.int a, .int b, .int u] => ∃ n : Nat, ge_E n (am_M a) b ∧ ¬ gd_X n (am_M a) b = 0 ∧ Po (some (.int (if u = 0 then b / gd_X n (am_M a) b else a / gd_X n (am_M a) b))) M
  | _ => False
theorem q_X9_fraction {a b u : Int32} {M : ab_M} {Po : ab_P} : s_X9_fraction [.int a, .int b, .int u] M Po = (∃ n : Nat, ge_E n (am_M a) b ∧ ¬ gd_X n (am_M a) b = 0 ∧ Po (some (.int (if u = 0 then b / gd_X n (am_M a) b else a / gd_X n (am_M a) b))) M) := rfl
abbrev x_X9_fraction : ab_X := (some .int, fl_X9, [(435, 2, s_X9_divisor)], kl_X9, gs_X9, ab_ros)
theorem ca_X9_fraction_217 {v0 v1 : Value} {st : List Value} {M : ab_M} {k : List Value → ab_M → Prop} : ab_ca x_X9_fraction (2 * 217 + 1) (v1 :: v0 :: st) M k = (st.length ≤ 4 ∧ s_X9_divisor [v0, v1] M (fun r M' => k (r.toList ++ st) M')) := rfl
set_option maxRecDepth 20000 in
set_option maxHeartbeats 4000000 in
theorem c_X9_fraction {l : Launch} : ab_ctr l yX9_fraction cX9_fraction 4 (some .int) 1 24 s_X9_fraction := by
  refine ab_met x_X9_fraction (by decide) rfl fo_X9 ko_X9 so_X9 rfl (ab_cs_cons (ab_kS c_X9_divisor ml_X9_217 v_X9_divisor ⟨rfl, rfl⟩) ab_cs_nil) ?_ ?_
  · intro as M Po h
    unfold s_X9_fraction at h
    split at h
    · simp [ab_e0]
    · exact h.elim
  · intro as M Po h G hG
    unfold s_X9_fraction at h
    split at h
    · simp only [ab_en, ab_e0, List.length_cons, List.length_nil, Nat.reduceAdd, Nat.reduceSub, List.replicate, List.cons_append, List.nil_append]
      obtain ⟨n, hn, hz, h⟩ := h
      refine ab_go hG [] 80 _ _ _ _ ?_
      simp (decide := true) only [ew_n, ew_0, Option.toList_some, Option.toList_none, List.cons_append, List.nil_append, true_and, and_true, List.length_cons, List.length_nil, Nat.reduceAdd, Nat.reduceLeDiff, Int32.reduceAdd, Int32.reduceSub, Int32.reduceMul, Int32.reduceLT, Int32.reduceLE, Int32.reduceToNatClampNeg, ↓reduceIte, and_self, si_1, si_2, sl_1, sl_2, false_and, and_false, dX9_fraction_0, dX9_fraction_1, dX9_fraction_2, dX9_fraction_5, dX9_fraction_6, dX9_fraction_7, dX9_fraction_10, dX9_fraction_11, dX9_fraction_12, dX9_fraction_13, dX9_fraction_16, dX9_fraction_17, dX9_fraction_18, dX9_fraction_19, ca_X9_fraction_217, e_calls, e_idiv, e_iload_n0, e_iload_n1, e_iload_n2, e_iload_n3, e_ireturn, e_istore_n3i, e_istore_n3n, e_istore_n3r, j_goto_13_6, j_if_eq_7_9, q_X9_divisor, ab_rn, bi_0, bi_1, ite_not]
      refine ⟨n, hn, ?_⟩
      split
      · rename_i h2
        rw [if_pos h2] at h
        exact ⟨hz, h⟩
      · rename_i h2
        rw [if_neg h2] at h
        exact ⟨hz, h⟩
    · exact h.elim

def wy_M : Nat → Int32
  | 0 => 1
  | 1 => 1
  | 2 => 1 * 2
  | 3 => 1 * 2 * 3
  | 4 => 1 * 2 * 3 * 4
  | _ => 1 * 2 * 3 * 4 * 5
def s_X9_ways : ab_Sem := fun as M Po => match as with
  | [.int x] => ∃ n : Nat, n < 6 ∧ x = nI n ∧ Po (some (.int (wy_M n))) M
  | _ => False
theorem q_X9_ways {x : Int32} {M : ab_M} {Po : ab_P} : s_X9_ways [.int x] M Po = (∃ n : Nat, n < 6 ∧ x = nI n ∧ Po (some (.int (wy_M n))) M) := rfl
abbrev x_X9_ways : ab_X := (some .int, fl_X9, [], kl_X9, gs_X9, ab_ros)
set_option maxRecDepth 20000 in
set_option maxHeartbeats 4000000 in
theorem c_X9_ways {l : Launch} : ab_ctr l yX9_ways cX9_ways 3 (some .int) 0 0 s_X9_ways := by
  refine ab_met x_X9_ways (by decide) rfl fo_X9 ko_X9 so_X9 rfl ab_cs_nil ?_ ?_
  · intro as M Po h
    unfold s_X9_ways at h
    split at h
    · simp [ab_e0]
    · exact h.elim
  · intro as M Po h G hG
    unfold s_X9_ways at h
    split at h
    · simp only [ab_en, ab_e0, List.length_cons, List.length_nil, Nat.reduceAdd, Nat.reduceSub, List.replicate, List.cons_append, List.nil_append]
      obtain ⟨n, hn, rfl, h⟩ := h
      match n, hn, h with
      | 0, _, h =>
        refine ab_go hG [] 80 _ _ _ _ ?_
        simp (decide := true) only [ew_n, ew_0, Option.toList_some, Option.toList_none, List.cons_append, List.nil_append, true_and, and_true, List.length_cons, List.length_nil, Nat.reduceAdd, Nat.reduceLeDiff, Int32.reduceAdd, Int32.reduceSub, Int32.reduceMul, Int32.reduceLT, Int32.reduceLE, Int32.reduceToNatClampNeg, ↓reduceIte, and_self, si_1, si_2, sl_1, sl_2, false_and, and_false, dX9_ways_0, dX9_ways_1, dX9_ways_2, dX9_ways_3, dX9_ways_4, dX9_ways_5, dX9_ways_6, dX9_ways_9, dX9_ways_10, dX9_ways_11, dX9_ways_12, dX9_ways_13, dX9_ways_16, dX9_ways_19, dX9_ways_20, e_iload_n0, e_iload_n1, e_iload_n2, e_imul, e_ireturn, e_istore_n1i, e_istore_n1n, e_istore_n1r, e_istore_n2i, e_istore_n2n, e_istore_n2r, j_goto_16_m12, j_ic_1, j_ic_2, j_icmp_gt_6_13, j_ii_2_1, ab_rn, bi_0, bi_1, ite_not]
        exact h
      | 1, _, h =>
        refine ab_go hG [] 80 _ _ _ _ ?_
        simp (decide := true) only [ew_n, ew_0, Option.toList_some, Option.toList_none, List.cons_append, List.nil_append, true_and, and_true, List.length_cons, List.length_nil, Nat.reduceAdd, Nat.reduceLeDiff, Int32.reduceAdd, Int32.reduceSub, Int32.reduceMul, Int32.reduceLT, Int32.reduceLE, Int32.reduceToNatClampNeg, ↓reduceIte, and_self, si_1, si_2, sl_1, sl_2, false_and, and_false, dX9_ways_0, dX9_ways_1, dX9_ways_2, dX9_ways_3, dX9_ways_4, dX9_ways_5, dX9_ways_6, dX9_ways_9, dX9_ways_10, dX9_ways_11, dX9_ways_12, dX9_ways_13, dX9_ways_16, dX9_ways_19, dX9_ways_20, e_iload_n0, e_iload_n1, e_iload_n2, e_imul, e_ireturn, e_istore_n1i, e_istore_n1n, e_istore_n1r, e_istore_n2i, e_istore_n2n, e_istore_n2r, j_goto_16_m12, j_ic_1, j_ic_2, j_icmp_gt_6_13, j_ii_2_1, ab_rn, bi_0, bi_1, ite_not]
        exact h
      | 2, _, h =>
        refine ab_go hG [] 80 _ _ _ _ ?_
        simp (decide := true) only [ew_n, ew_0, Option.toList_some, Option.toList_none, List.cons_append, List.nil_append, true_and, and_true, List.length_cons, List.length_nil, Nat.reduceAdd, Nat.reduceLeDiff, Int32.reduceAdd, Int32.reduceSub, Int32.reduceMul, Int32.reduceLT, Int32.reduceLE, Int32.reduceToNatClampNeg, ↓reduceIte, and_self, si_1, si_2, sl_1, sl_2, false_and, and_false, dX9_ways_0, dX9_ways_1, dX9_ways_2, dX9_ways_3, dX9_ways_4, dX9_ways_5, dX9_ways_6, dX9_ways_9, dX9_ways_10, dX9_ways_11, dX9_ways_12, dX9_ways_13, dX9_ways_16, dX9_ways_19, dX9_ways_20, e_iload_n0, e_iload_n1, e_iload_n2, e_imul, e_ireturn, e_istore_n1i, e_istore_n1n, e_istore_n1r, e_istore_n2i, e_istore_n2n, e_istore_n2r, j_goto_16_m12, j_ic_1, j_ic_2, j_icmp_gt_6_13, j_ii_2_1, ab_rn, bi_0, bi_1, ite_not]
        exact h
      | 3, _, h =>
        refine ab_go hG [] 80 _ _ _ _ ?_
        simp (decide := true) only [ew_n, ew_0, Option.toList_some, Option.toList_none, List.cons_append, List.nil_append, true_and, and_true, List.length_cons, List.length_nil, Nat.reduceAdd, Nat.reduceLeDiff, Int32.reduceAdd, Int32.reduceSub, Int32.reduceMul, Int32.reduceLT, Int32.reduceLE, Int32.reduceToNatClampNeg, ↓reduceIte, and_self, si_1, si_2, sl_1, sl_2, false_and, and_false, dX9_ways_0, dX9_ways_1, dX9_ways_2, dX9_ways_3, dX9_ways_4, dX9_ways_5, dX9_ways_6, dX9_ways_9, dX9_ways_10, dX9_ways_11, dX9_ways_12, dX9_ways_13, dX9_ways_16, dX9_ways_19, dX9_ways_20, e_iload_n0, e_iload_n1, e_iload_n2, e_imul, e_ireturn, e_istore_n1i, e_istore_n1n, e_istore_n1r, e_istore_n2i, e_istore_n2n, e_istore_n2r, j_goto_16_m12, j_ic_1, j_ic_2, j_icmp_gt_6_13, j_ii_2_1, ab_rn, bi_0, bi_1, ite_not]
        exact h
      | 4, _, h =>
        refine ab_go hG [] 80 _ _ _ _ ?_
        simp (decide := true) only [ew_n, ew_0, Option.toList_some, Option.toList_none, List.cons_append, List.nil_append, true_and, and_true, List.length_cons, List.length_nil, Nat.reduceAdd, Nat.reduceLeDiff, Int32.reduceAdd, Int32.reduceSub, Int32.reduceMul, Int32.reduceLT, Int32.reduceLE, Int32.reduceToNatClampNeg, ↓reduceIte, and_self, si_1, si_2, sl_1, sl_2, false_and, and_false, dX9_ways_0, dX9_ways_1, dX9_ways_2, dX9_ways_3, dX9_ways_4, dX9_ways_5, dX9_ways_6, dX9_ways_9, dX9_ways_10, dX9_ways_11, dX9_ways_12, dX9_ways_13, dX9_ways_16, dX9_ways_19, dX9_ways_20, e_iload_n0, e_iload_n1, e_iload_n2, e_imul, e_ireturn, e_istore_n1i, e_istore_n1n, e_istore_n1r, e_istore_n2i, e_istore_n2n, e_istore_n2r, j_goto_16_m12, j_ic_1, j_ic_2, j_icmp_gt_6_13, j_ii_2_1, ab_rn, bi_0, bi_1, ite_not]
        exact h
      | 5, _, h =>
        refine ab_go hG [] 80 _ _ _ _ ?_
        simp (decide := true) only [ew_n, ew_0, Option.toList_some, Option.toList_none, List.cons_append, List.nil_append, true_and, and_true, List.length_cons, List.length_nil, Nat.reduceAdd, Nat.reduceLeDiff, Int32.reduceAdd, Int32.reduceSub, Int32.reduceMul, Int32.reduceLT, Int32.reduceLE, Int32.reduceToNatClampNeg, ↓reduceIte, and_self, si_1, si_2, sl_1, sl_2, false_and, and_false, dX9_ways_0, dX9_ways_1, dX9_ways_2, dX9_ways_3, dX9_ways_4, dX9_ways_5, dX9_ways_6, dX9_ways_9, dX9_ways_10, dX9_ways_11, dX9_ways_12, dX9_ways_13, dX9_ways_16, dX9_ways_19, dX9_ways_20, e_iload_n0, e_iload_n1, e_iload_n2, e_imul, e_ireturn, e_istore_n1i, e_istore_n1n, e_istore_n1r, e_istore_n2i, e_istore_n2n, e_istore_n2r, j_goto_16_m12, j_ic_1, j_ic_2, j_icmp_gt_6_13, j_ii_2_1, ab_rn, bi_0, bi_1, ite_not]
        exact h
      | n + 6, hn, _ => exact absurd hn (by omega)
    · exact h.elim

