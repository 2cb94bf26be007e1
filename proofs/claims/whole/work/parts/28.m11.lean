/-! METHODS: Outlook, pulls -/
def nc_X (M : ab_M) : Nat := (M.1 8 3).toNatClampNeg
theorem nc_31 (M : ab_M) : nc_X M < 2 ^ 31 := by
  have h : (M.1 8 3).toNatClampNeg = (M.1 8 3).toInt.toNat := rfl
  have h2 := Int32.toInt_lt (M.1 8 3)
  unfold nc_X
  omega
theorem nc_lt {M : ab_M} {i : Nat} (h : i < nc_X M) : nI i < M.1 8 3 := by
  have h31 := nc_31 M
  rw [Int32.lt_iff_toInt_lt, nI_toInt (by omega)]
  have : (M.1 8 3).toNatClampNeg = (M.1 8 3).toInt.toNat := rfl
  unfold nc_X at h
  omega
theorem nc_ge {M : ab_M} {i : Nat} (h : nc_X M ≤ i) (hi : i < 2 ^ 31) : ¬ nI i < M.1 8 3 := by
  rw [Int32.lt_iff_toInt_lt, nI_toInt hi]
  have : (M.1 8 3).toNatClampNeg = (M.1 8 3).toInt.toNat := rfl
  unfold nc_X at h
  omega
def po_X (M : ab_M) (a b : Int32) : Int32 := (b >>> ((2 * (M.1 8 3 - 1 - a)) &&& 31)) &&& 3
def pa_l (M : ab_M) (b : Int32) : Nat → Nat → Int32 → Int32
  | 0, _, s => s
  | n + 1, i, s => pa_l M b n (i + 1) (s + po_X M (nI i) b)
def pf_l (M : ab_M) (b : Int32) : Nat → Nat → Int32 → Int32
  | 0, _, s => s
  | n + 1, i, s => pf_l M b n (i + 1) (10 * s + po_X M (nI i) b)
def cp_l (M : ab_M) (b : Int32) : Nat → Nat → Int32
  | 0, _ => 1
  | n + 1, i => if th_X M 12 (nI i) < po_X M (nI i) b then 0 else cp_l M b n (i + 1)
def pl_l (M : ab_M) (b : Int32) : Nat → Nat → (Nat → Int32) → (Nat → Int32)
  | 0, _, f => f
  | n + 1, i, f => pl_l M b n (i + 1) (eas_X M (nI i) (po_X M (nI i) b).toNatClampNeg f)
theorem pl_e5 {M : ab_M} {b : Int32} : ∀ (n i : Nat) {f g : Nat → Int32}, e5 f g → e5 (pl_l M b n i f) (pl_l M b n i g)
  | 0, _, _, _, h => h
  | n + 1, i, _, _, h => pl_e5 n (i + 1) (eas_e5 h _ _)
theorem po_w18 {M : ab_M} {m d p : Int32} {f : Nat → Int32} : po_X (mw M 18 m d p f) = po_X M := rfl
theorem nc_w18 {M : ab_M} {m d p : Int32} {f : Nat → Int32} : nc_X (mw M 18 m d p f) = nc_X M := rfl
theorem pa_w18 {M : ab_M} {m d p b : Int32} {f : Nat → Int32} : ∀ n i s, pa_l (mw M 18 m d p f) b n i s = pa_l M b n i s
  | 0, _, _ => rfl
  | n + 1, i, s => by simp only [pa_l, po_w18, pa_w18 n]
theorem pf_w18 {M : ab_M} {m d p b : Int32} {f : Nat → Int32} : ∀ n i s, pf_l (mw M 18 m d p f) b n i s = pf_l M b n i s
  | 0, _, _ => rfl
  | n + 1, i, s => by simp only [pf_l, po_w18, pf_w18 n]
theorem cp_w18 {M : ab_M} {m d p b : Int32} {f : Nat → Int32} : ∀ n i, cp_l (mw M 18 m d p f) b n i = cp_l M b n i
  | 0, _ => rfl
  | n + 1, i => by simp only [cp_l, po_w18, n18_h, cp_w18 n]
theorem pl_w18 {M : ab_M} {m d p b : Int32} {f : Nat → Int32} : ∀ n i g, pl_l (mw M 18 m d p f) b n i g = pl_l M b n i g
  | 0, _, _ => rfl
  | n + 1, i, g => by simp only [pl_l, po_w18, eas_w18, pl_w18 n]
theorem cp_01 (M : ab_M) (b : Int32) : ∀ n i, cp_l M b n i = 0 ∨ cp_l M b n i = 1
  | 0, _ => Or.inr rfl
  | n + 1, i => by
    unfold cp_l
    split
    · exact Or.inl rfl
    · exact cp_01 M b n (i + 1)
/-- it comes in so many days by such pulls -/
def it_n (M : ab_M) (b : Int32) (n : Nat) : Int32 := if (ge_X M n 0 (M.1 12 3, M.1 12 4, -1, pl_l M b (nc_X M) 0 (M.1 13))).1 = -9 then 0 else 1
theorem it_w18 {M : ab_M} {m d p b : Int32} {f : Nat → Int32} {n : Nat} : it_n (mw M 18 m d p f) b n = it_n M b n := by
  simp only [it_n, ge_w18, pl_w18, nc_w18, n18_3, n18_4, n18_t]
def s_X3_pullsOf : ab_Sem := fun as M Po => match as with
  | [.ref 16, .int a, .int b] => Po (some (.int (po_X M a b))) M
  | _ => False
theorem q_X3_pullsOf {a b : Int32} {M : ab_M} {Po : ab_P} : s_X3_pullsOf [.ref 16, .int a, .int b] M Po = (Po (some (.int (po_X M a b))) M) := rfl
abbrev x_X3_pullsOf : ab_X := (some .int, fl_X3, [(92, 1, s_X2_menCount)], kl_X3, gs_X3, ab_ros)
theorem ca_X3_pullsOf_46 {v0 : Value} {st : List Value} {M : ab_M} {k : List Value → ab_M → Prop} : ab_ca x_X3_pullsOf (2 * 46) (v0 :: st) M k = (st.length ≤ 4 ∧ s_X2_menCount [v0] M (fun r M' => k (r.toList ++ st) M')) := rfl
theorem r_X3_pullsOf : ∀ (as : List Value) (M : ab_M) (Po : ab_P), s_X3_pullsOf as M Po → ∃ (q : Nat) (as' : List Value) (ci : Nat) (T : u_T) (N : Nat) (fs : List ab_F), as = .ref q :: as' ∧ ab_sh[q]? = some (.inl (ci, fs)) ∧ vwCl[ci]? = some (yX3_pullsOf.cls, T, N) := by
  intro as M Po h
  unfold s_X3_pullsOf at h
  split at h
  · first | exact ⟨_, _, 3, _, _, _, rfl, rfl, rfl⟩ | (rcases h.1 with rfl | rfl | rfl <;> exact ⟨_, _, 3, _, _, _, rfl, rfl, rfl⟩)
  · exact h.elim
set_option maxRecDepth 20000 in
set_option maxHeartbeats 4000000 in
theorem c_X3_pullsOf {l : Launch} : ab_ctr l yX3_pullsOf cX3_pullsOf 3 (some .int) 2 40 s_X3_pullsOf := by
  refine ab_met x_X3_pullsOf (by decide) rfl fo_X3 ko_X3 so_X3 rfl (ab_cs_cons (ab_kV c_X2_menCount ml_X3_46 v_X2_menCount ⟨rfl, rfl⟩ r_X2_menCount) ab_cs_nil) ?_ ?_
  · intro as M Po h
    unfold s_X3_pullsOf at h
    split at h
    · simp [ab_e0]
    · exact h.elim
  · intro as M Po h G hG
    unfold s_X3_pullsOf at h
    split at h
    · refine ab_go hG [] 60 _ _ _ _ ?_
      simp only [ab_en, ab_e0, List.length_cons, List.length_nil, Nat.reduceAdd, Nat.reduceSub, List.replicate, List.cons_append, List.nil_append]
      simp (decide := true) only [ew_n, ew_0, Option.toList_some, Option.toList_none, List.cons_append, List.nil_append, true_and, and_true, List.length_cons, List.length_nil, Nat.reduceAdd, Nat.reduceLeDiff, Int32.reduceAdd, Int32.reduceSub, Int32.reduceMul, Int32.reduceLT, Int32.reduceLE, Int32.reduceToNatClampNeg, ↓reduceIte, and_self, si_1, si_2, sl_1, sl_2, false_and, and_false, dX3_pullsOf_0, dX3_pullsOf_1, dX3_pullsOf_2, dX3_pullsOf_3, dX3_pullsOf_6, dX3_pullsOf_9, dX3_pullsOf_10, dX3_pullsOf_11, dX3_pullsOf_12, dX3_pullsOf_13, dX3_pullsOf_14, dX3_pullsOf_15, dX3_pullsOf_16, dX3_pullsOf_17, ca_X3_pullsOf_46, e_aload_n0, e_callv, e_getfield, e_iand, e_iload_n1, e_iload_n2, e_imul, e_ireturn, e_ishr, e_isub, gf_X3_15_16, j_ic_1, j_ic_2, j_ic_3, q_X2_menCount, ab_rn, bi_0, bi_1, ite_not]
      exact h
    · exact h.elim

def s_X3_pullsInAll : ab_Sem := fun as M Po => match as with
  | [.ref 16, .int b] => Po (some (.int (pa_l M b (nc_X M) 0 0))) M
  | _ => False
theorem q_X3_pullsInAll {b : Int32} {M : ab_M} {Po : ab_P} : s_X3_pullsInAll [.ref 16, .int b] M Po = (Po (some (.int (pa_l M b (nc_X M) 0 0))) M) := rfl
abbrev x_X3_pullsInAll : ab_X := (some .int, fl_X3, [(92, 1, s_X2_menCount), (146, 3, s_X3_pullsOf)], kl_X3, gs_X3, ab_ros)
theorem ca_X3_pullsInAll_46 {v0 : Value} {st : List Value} {M : ab_M} {k : List Value → ab_M → Prop} : ab_ca x_X3_pullsInAll (2 * 46) (v0 :: st) M k = (st.length ≤ 4 ∧ s_X2_menCount [v0] M (fun r M' => k (r.toList ++ st) M')) := rfl
theorem ca_X3_pullsInAll_73 {v0 v1 v2 : Value} {st : List Value} {M : ab_M} {k : List Value → ab_M → Prop} : ab_ca x_X3_pullsInAll (2 * 73) (v2 :: v1 :: v0 :: st) M k = (st.length ≤ 4 ∧ s_X3_pullsOf [v0, v1, v2] M (fun r M' => k (r.toList ++ st) M')) := rfl
theorem r_X3_pullsInAll : ∀ (as : List Value) (M : ab_M) (Po : ab_P), s_X3_pullsInAll as M Po → ∃ (q : Nat) (as' : List Value) (ci : Nat) (T : u_T) (N : Nat) (fs : List ab_F), as = .ref q :: as' ∧ ab_sh[q]? = some (.inl (ci, fs)) ∧ vwCl[ci]? = some (yX3_pullsInAll.cls, T, N) := by
  intro as M Po h
  unfold s_X3_pullsInAll at h
  split at h
  · first | exact ⟨_, _, 3, _, _, _, rfl, rfl, rfl⟩ | (rcases h.1 with rfl | rfl | rfl <;> exact ⟨_, _, 3, _, _, _, rfl, rfl, rfl⟩)
  · exact h.elim
set_option maxRecDepth 20000 in
set_option maxHeartbeats 4000000 in
theorem lp_X3_pullsInAll {G : ab_K} {Po : ab_P} (hG : ab_Clo cX3_pullsInAll x_X3_pullsInAll Po G) {M : ab_M} {b : Int32} : ∀ (j i : Nat) (s : Int32), i + j = nc_X M → Po (some (.int (pa_l M b j i s))) M → G 4 [some (.ref 16), some (.int b), some (.int s), some (.int (nI i))] [] M := by
  intro j
  have h31 := nc_31 M
  induction j with
  | zero =>
    intro i s hi h
    unfold pa_l at h
    refine ab_go1 hG [4] 80 _ _ _ _ ?_
    simp (decide := true) only [ew_s, ew_0, Option.toList_some, Option.toList_none, List.cons_append, List.nil_append, true_and, and_true, List.length_cons, List.length_nil, Nat.reduceAdd, Nat.reduceLeDiff, Int32.reduceAdd, Int32.reduceSub, Int32.reduceMul, Int32.reduceLT, Int32.reduceLE, Int32.reduceToNatClampNeg, ↓reduceIte, and_self, si_1, si_2, sl_1, sl_2, false_and, and_false, dX3_pullsInAll_0, dX3_pullsInAll_1, dX3_pullsInAll_2, dX3_pullsInAll_3, dX3_pullsInAll_4, dX3_pullsInAll_5, dX3_pullsInAll_6, dX3_pullsInAll_9, dX3_pullsInAll_12, dX3_pullsInAll_15, dX3_pullsInAll_16, dX3_pullsInAll_17, dX3_pullsInAll_18, dX3_pullsInAll_19, dX3_pullsInAll_22, dX3_pullsInAll_23, dX3_pullsInAll_24, dX3_pullsInAll_27, dX3_pullsInAll_30, dX3_pullsInAll_31, ca_X3_pullsInAll_46, ca_X3_pullsInAll_73, e_aload_n0, e_callv, e_getfield, e_iadd, e_iload_n1, e_iload_n2, e_iload_n3, e_ireturn, e_istore_n2i, e_istore_n2n, e_istore_n2r, e_istore_n3i, e_istore_n3n, e_istore_n3r, gf_X3_15_16, j_goto_27_m23, j_ic_0, j_icmp_ge_12_18, j_ii_3_1, q_X2_menCount, q_X3_pullsOf, ab_rn, bi_0, bi_1, ite_not]
    rw [if_neg (nc_ge (by omega) (by omega))]
    exact h
  | succ j ih =>
    intro i s hi h
    unfold pa_l at h
    refine ab_go1 hG [4] 80 _ _ _ _ ?_
    simp (decide := true) only [ew_s, ew_0, Option.toList_some, Option.toList_none, List.cons_append, List.nil_append, true_and, and_true, List.length_cons, List.length_nil, Nat.reduceAdd, Nat.reduceLeDiff, Int32.reduceAdd, Int32.reduceSub, Int32.reduceMul, Int32.reduceLT, Int32.reduceLE, Int32.reduceToNatClampNeg, ↓reduceIte, and_self, si_1, si_2, sl_1, sl_2, false_and, and_false, dX3_pullsInAll_0, dX3_pullsInAll_1, dX3_pullsInAll_2, dX3_pullsInAll_3, dX3_pullsInAll_4, dX3_pullsInAll_5, dX3_pullsInAll_6, dX3_pullsInAll_9, dX3_pullsInAll_12, dX3_pullsInAll_15, dX3_pullsInAll_16, dX3_pullsInAll_17, dX3_pullsInAll_18, dX3_pullsInAll_19, dX3_pullsInAll_22, dX3_pullsInAll_23, dX3_pullsInAll_24, dX3_pullsInAll_27, dX3_pullsInAll_30, dX3_pullsInAll_31, ca_X3_pullsInAll_46, ca_X3_pullsInAll_73, e_aload_n0, e_callv, e_getfield, e_iadd, e_iload_n1, e_iload_n2, e_iload_n3, e_ireturn, e_istore_n2i, e_istore_n2n, e_istore_n2r, e_istore_n3i, e_istore_n3n, e_istore_n3r, gf_X3_15_16, j_goto_27_m23, j_ic_0, j_icmp_ge_12_18, j_ii_3_1, q_X2_menCount, q_X3_pullsOf, ab_rn, bi_0, bi_1, ite_not]
    rw [if_pos (nc_lt (by omega)), nI_1]
    exact ih (i + 1) _ (by omega) h
set_option maxRecDepth 20000 in
set_option maxHeartbeats 4000000 in
theorem c_X3_pullsInAll {l : Launch} : ab_ctr l yX3_pullsInAll cX3_pullsInAll 4 (some .int) 3 62 s_X3_pullsInAll := by
  refine ab_met x_X3_pullsInAll (by decide) rfl fo_X3 ko_X3 so_X3 rfl (ab_cs_cons (ab_kV c_X2_menCount ml_X3_46 v_X2_menCount ⟨rfl, rfl⟩ r_X2_menCount) (ab_cs_cons (ab_kV c_X3_pullsOf ml_X3_73 v_X3_pullsOf ⟨rfl, rfl⟩ r_X3_pullsOf) ab_cs_nil)) ?_ ?_
  · intro as M Po h
    unfold s_X3_pullsInAll at h
    split at h
    · simp [ab_e0]
    · exact h.elim
  · intro as M Po h G hG
    unfold s_X3_pullsInAll at h
    split at h
    · simp only [ab_en, ab_e0, List.length_cons, List.length_nil, Nat.reduceAdd, Nat.reduceSub, List.replicate, List.cons_append, List.nil_append]
      refine ab_go hG [4] 80 _ _ _ _ ?_
      simp (decide := true) only [ew_s, ew_0, Option.toList_some, Option.toList_none, List.cons_append, List.nil_append, true_and, and_true, List.length_cons, List.length_nil, Nat.reduceAdd, Nat.reduceLeDiff, Int32.reduceAdd, Int32.reduceSub, Int32.reduceMul, Int32.reduceLT, Int32.reduceLE, Int32.reduceToNatClampNeg, ↓reduceIte, and_self, si_1, si_2, sl_1, sl_2, false_and, and_false, dX3_pullsInAll_0, dX3_pullsInAll_1, dX3_pullsInAll_2, dX3_pullsInAll_3, dX3_pullsInAll_4, dX3_pullsInAll_5, dX3_pullsInAll_6, dX3_pullsInAll_9, dX3_pullsInAll_12, dX3_pullsInAll_15, dX3_pullsInAll_16, dX3_pullsInAll_17, dX3_pullsInAll_18, dX3_pullsInAll_19, dX3_pullsInAll_22, dX3_pullsInAll_23, dX3_pullsInAll_24, dX3_pullsInAll_27, dX3_pullsInAll_30, dX3_pullsInAll_31, ca_X3_pullsInAll_46, ca_X3_pullsInAll_73, e_aload_n0, e_callv, e_getfield, e_iadd, e_iload_n1, e_iload_n2, e_iload_n3, e_ireturn, e_istore_n2i, e_istore_n2n, e_istore_n2r, e_istore_n3i, e_istore_n3n, e_istore_n3r, gf_X3_15_16, j_goto_27_m23, j_ic_0, j_icmp_ge_12_18, j_ii_3_1, q_X2_menCount, q_X3_pullsOf, ab_rn, bi_0, bi_1, ite_not]
      exact lp_X3_pullsInAll hG _ 0 _ (by omega) h
    · exact h.elim

def s_X3_pullFigures : ab_Sem := fun as M Po => match as with
  | [.ref 16, .int b] => Po (some (.int (pf_l M b (nc_X M) 0 0))) M
  | _ => False
theorem q_X3_pullFigures {b : Int32} {M : ab_M} {Po : ab_P} : s_X3_pullFigures [.ref 16, .int b] M Po = (Po (some (.int (pf_l M b (nc_X M) 0 0))) M) := rfl
abbrev x_X3_pullFigures : ab_X := (some .int, fl_X3, [(92, 1, s_X2_menCount), (146, 3, s_X3_pullsOf)], kl_X3, gs_X3, ab_ros)
theorem ca_X3_pullFigures_46 {v0 : Value} {st : List Value} {M : ab_M} {k : List Value → ab_M → Prop} : ab_ca x_X3_pullFigures (2 * 46) (v0 :: st) M k = (st.length ≤ 4 ∧ s_X2_menCount [v0] M (fun r M' => k (r.toList ++ st) M')) := rfl
theorem ca_X3_pullFigures_73 {v0 v1 v2 : Value} {st : List Value} {M : ab_M} {k : List Value → ab_M → Prop} : ab_ca x_X3_pullFigures (2 * 73) (v2 :: v1 :: v0 :: st) M k = (st.length ≤ 4 ∧ s_X3_pullsOf [v0, v1, v2] M (fun r M' => k (r.toList ++ st) M')) := rfl
theorem r_X3_pullFigures : ∀ (as : List Value) (M : ab_M) (Po : ab_P), s_X3_pullFigures as M Po → ∃ (q : Nat) (as' : List Value) (ci : Nat) (T : u_T) (N : Nat) (fs : List ab_F), as = .ref q :: as' ∧ ab_sh[q]? = some (.inl (ci, fs)) ∧ vwCl[ci]? = some (yX3_pullFigures.cls, T, N) := by
  intro as M Po h
  unfold s_X3_pullFigures at h
  split at h
  · first | exact ⟨_, _, 3, _, _, _, rfl, rfl, rfl⟩ | (rcases h.1 with rfl | rfl | rfl <;> exact ⟨_, _, 3, _, _, _, rfl, rfl, rfl⟩)
  · exact h.elim
set_option maxRecDepth 20000 in
set_option maxHeartbeats 4000000 in
theorem lp_X3_pullFigures {G : ab_K} {Po : ab_P} (hG : ab_Clo cX3_pullFigures x_X3_pullFigures Po G) {M : ab_M} {b : Int32} : ∀ (j i : Nat) (s : Int32), i + j = nc_X M → Po (some (.int (pf_l M b j i s))) M → G 4 [some (.ref 16), some (.int b), some (.int s), some (.int (nI i))] [] M := by
  intro j
  have h31 := nc_31 M
  induction j with
  | zero =>
    intro i s hi h
    unfold pf_l at h
    refine ab_go1 hG [4] 80 _ _ _ _ ?_
    simp (decide := true) only [ew_s, ew_0, Option.toList_some, Option.toList_none, List.cons_append, List.nil_append, true_and, and_true, List.length_cons, List.length_nil, Nat.reduceAdd, Nat.reduceLeDiff, Int32.reduceAdd, Int32.reduceSub, Int32.reduceMul, Int32.reduceLT, Int32.reduceLE, Int32.reduceToNatClampNeg, ↓reduceIte, and_self, si_1, si_2, sl_1, sl_2, false_and, and_false, dX3_pullFigures_0, dX3_pullFigures_1, dX3_pullFigures_2, dX3_pullFigures_3, dX3_pullFigures_4, dX3_pullFigures_5, dX3_pullFigures_6, dX3_pullFigures_9, dX3_pullFigures_12, dX3_pullFigures_15, dX3_pullFigures_17, dX3_pullFigures_18, dX3_pullFigures_19, dX3_pullFigures_20, dX3_pullFigures_21, dX3_pullFigures_22, dX3_pullFigures_25, dX3_pullFigures_26, dX3_pullFigures_27, dX3_pullFigures_30, dX3_pullFigures_33, dX3_pullFigures_34, ca_X3_pullFigures_46, ca_X3_pullFigures_73, e_aload_n0, e_callv, e_getfield, e_iadd, e_iload_n1, e_iload_n2, e_iload_n3, e_imul, e_ireturn, e_istore_n2i, e_istore_n2n, e_istore_n2r, e_istore_n3i, e_istore_n3n, e_istore_n3r, gf_X3_15_16, j_bp_10, j_goto_30_m26, j_ic_0, j_icmp_ge_12_21, j_ii_3_1, q_X2_menCount, q_X3_pullsOf, ab_rn, bi_0, bi_1, ite_not]
    rw [if_neg (nc_ge (by omega) (by omega))]
    exact h
  | succ j ih =>
    intro i s hi h
    unfold pf_l at h
    refine ab_go1 hG [4] 80 _ _ _ _ ?_
    simp (decide := true) only [ew_s, ew_0, Option.toList_some, Option.toList_none, List.cons_append, List.nil_append, true_and, and_true, List.length_cons, List.length_nil, Nat.reduceAdd, Nat.reduceLeDiff, Int32.reduceAdd, Int32.reduceSub, Int32.reduceMul, Int32.reduceLT, Int32.reduceLE, Int32.reduceToNatClampNeg, ↓reduceIte, and_self, si_1, si_2, sl_1, sl_2, false_and, and_false, dX3_pullFigures_0, dX3_pullFigures_1, dX3_pullFigures_2, dX3_pullFigures_3, dX3_pullFigures_4, dX3_pullFigures_5, dX3_pullFigures_6, dX3_pullFigures_9, dX3_pullFigures_12, dX3_pullFigures_15, dX3_pullFigures_17, dX3_pullFigures_18, dX3_pullFigures_19, dX3_pullFigures_20, dX3_pullFigures_21, dX3_pullFigures_22, dX3_pullFigures_25, dX3_pullFigures_26, dX3_pullFigures_27, dX3_pullFigures_30, dX3_pullFigures_33, dX3_pullFigures_34, ca_X3_pullFigures_46, ca_X3_pullFigures_73, e_aload_n0, e_callv, e_getfield, e_iadd, e_iload_n1, e_iload_n2, e_iload_n3, e_imul, e_ireturn, e_istore_n2i, e_istore_n2n, e_istore_n2r, e_istore_n3i, e_istore_n3n, e_istore_n3r, gf_X3_15_16, j_bp_10, j_goto_30_m26, j_ic_0, j_icmp_ge_12_21, j_ii_3_1, q_X2_menCount, q_X3_pullsOf, ab_rn, bi_0, bi_1, ite_not]
    rw [if_pos (nc_lt (by omega)), nI_1]
    exact ih (i + 1) _ (by omega) h
set_option maxRecDepth 20000 in
set_option maxHeartbeats 4000000 in
theorem c_X3_pullFigures {l : Launch} : ab_ctr l yX3_pullFigures cX3_pullFigures 4 (some .int) 3 62 s_X3_pullFigures := by
  refine ab_met x_X3_pullFigures (by decide) rfl fo_X3 ko_X3 so_X3 rfl (ab_cs_cons (ab_kV c_X2_menCount ml_X3_46 v_X2_menCount ⟨rfl, rfl⟩ r_X2_menCount) (ab_cs_cons (ab_kV c_X3_pullsOf ml_X3_73 v_X3_pullsOf ⟨rfl, rfl⟩ r_X3_pullsOf) ab_cs_nil)) ?_ ?_
  · intro as M Po h
    unfold s_X3_pullFigures at h
    split at h
    · simp [ab_e0]
    · exact h.elim
  · intro as M Po h G hG
    unfold s_X3_pullFigures at h
    split at h
    · simp only [ab_en, ab_e0, List.length_cons, List.length_nil, Nat.reduceAdd, Nat.reduceSub, List.replicate, List.cons_append, List.nil_append]
      refine ab_go hG [4] 80 _ _ _ _ ?_
      simp (decide := true) only [ew_s, ew_0, Option.toList_some, Option.toList_none, List.cons_append, List.nil_append, true_and, and_true, List.length_cons, List.length_nil, Nat.reduceAdd, Nat.reduceLeDiff, Int32.reduceAdd, Int32.reduceSub, Int32.reduceMul, Int32.reduceLT, Int32.reduceLE, Int32.reduceToNatClampNeg, ↓reduceIte, and_self, si_1, si_2, sl_1, sl_2, false_and, and_false, dX3_pullFigures_0, dX3_pullFigures_1, dX3_pullFigures_2, dX3_pullFigures_3, dX3_pullFigures_4, dX3_pullFigures_5, dX3_pullFigures_6, dX3_pullFigures_9, dX3_pullFigures_12, dX3_pullFigures_15, dX3_pullFigures_17, dX3_pullFigures_18, dX3_pullFigures_19, dX3_pullFigures_20, dX3_pullFigures_21, dX3_pullFigures_22, dX3_pullFigures_25, dX3_pullFigures_26, dX3_pullFigures_27, dX3_pullFigures_30, dX3_pullFigures_33, dX3_pullFigures_34, ca_X3_pullFigures_46, ca_X3_pullFigures_73, e_aload_n0, e_callv, e_getfield, e_iadd, e_iload_n1, e_iload_n2, e_iload_n3, e_imul, e_ireturn, e_istore_n2i, e_istore_n2n, e_istore_n2r, e_istore_n3i, e_istore_n3n, e_istore_n3r, gf_X3_15_16, j_bp_10, j_goto_30_m26, j_ic_0, j_icmp_ge_12_21, j_ii_3_1, q_X2_menCount, q_X3_pullsOf, ab_rn, bi_0, bi_1, ite_not]
      exact lp_X3_pullFigures hG _ 0 _ (by omega) h
    · exact h.elim

def s_X3_canPull : ab_Sem := fun as M Po => match as with
  | [.ref 16, .int b] => Po (some (.int (cp_l M b (nc_X M) 0))) M
  | _ => False
theorem q_X3_canPull {b : Int32} {M : ab_M} {Po : ab_P} : s_X3_canPull [.ref 16, .int b] M Po = (Po (some (.int (cp_l M b (nc_X M) 0))) M) := rfl
abbrev x_X3_canPull : ab_X := (some .boolean, fl_X3, [(92, 1, s_X2_menCount), (146, 3, s_X3_pullsOf), (152, 2, s_X2_thornsOf)], kl_X3, gs_X3, ab_ros)
theorem ca_X3_canPull_46 {v0 : Value} {st : List Value} {M : ab_M} {k : List Value → ab_M → Prop} : ab_ca x_X3_canPull (2 * 46) (v0 :: st) M k = (st.length ≤ 4 ∧ s_X2_menCount [v0] M (fun r M' => k (r.toList ++ st) M')) := rfl
theorem ca_X3_canPull_73 {v0 v1 v2 : Value} {st : List Value} {M : ab_M} {k : List Value → ab_M → Prop} : ab_ca x_X3_canPull (2 * 73) (v2 :: v1 :: v0 :: st) M k = (st.length ≤ 4 ∧ s_X3_pullsOf [v0, v1, v2] M (fun r M' => k (r.toList ++ st) M')) := rfl
theorem ca_X3_canPull_76 {v0 v1 : Value} {st : List Value} {M : ab_M} {k : List Value → ab_M → Prop} : ab_ca x_X3_canPull (2 * 76) (v1 :: v0 :: st) M k = (st.length ≤ 4 ∧ s_X2_thornsOf [v0, v1] M (fun r M' => k (r.toList ++ st) M')) := rfl
theorem r_X3_canPull : ∀ (as : List Value) (M : ab_M) (Po : ab_P), s_X3_canPull as M Po → ∃ (q : Nat) (as' : List Value) (ci : Nat) (T : u_T) (N : Nat) (fs : List ab_F), as = .ref q :: as' ∧ ab_sh[q]? = some (.inl (ci, fs)) ∧ vwCl[ci]? = some (yX3_canPull.cls, T, N) := by
  intro as M Po h
  unfold s_X3_canPull at h
  split at h
  · first | exact ⟨_, _, 3, _, _, _, rfl, rfl, rfl⟩ | (rcases h.1 with rfl | rfl | rfl <;> exact ⟨_, _, 3, _, _, _, rfl, rfl, rfl⟩)
  · exact h.elim
set_option maxRecDepth 20000 in
set_option maxHeartbeats 4000000 in
theorem lp_X3_canPull {G : ab_K} {Po : ab_P} (hG : ab_Clo cX3_canPull x_X3_canPull Po G) {M : ab_M} {b : Int32} : ∀ (j i : Nat), i + j = nc_X M → Po (some (.int (cp_l M b j i))) M → G 2 [some (.ref 16), some (.int b), some (.int (nI i))] [] M := by
  intro j
  have h31 := nc_31 M
  induction j with
  | zero =>
    intro i hi h
    unfold cp_l at h
    refine ab_go1 hG [2] 80 _ _ _ _ ?_
    simp (decide := true) only [ew_s, ew_0, Option.toList_some, Option.toList_none, List.cons_append, List.nil_append, true_and, and_true, List.length_cons, List.length_nil, Nat.reduceAdd, Nat.reduceLeDiff, Int32.reduceAdd, Int32.reduceSub, Int32.reduceMul, Int32.reduceLT, Int32.reduceLE, Int32.reduceToNatClampNeg, ↓reduceIte, and_self, si_1, si_2, sl_1, sl_2, false_and, and_false, dX3_canPull_0, dX3_canPull_1, dX3_canPull_2, dX3_canPull_3, dX3_canPull_4, dX3_canPull_7, dX3_canPull_10, dX3_canPull_13, dX3_canPull_14, dX3_canPull_15, dX3_canPull_16, dX3_canPull_19, dX3_canPull_20, dX3_canPull_23, dX3_canPull_24, dX3_canPull_27, dX3_canPull_30, dX3_canPull_31, dX3_canPull_32, dX3_canPull_35, dX3_canPull_38, dX3_canPull_39, ca_X3_canPull_46, ca_X3_canPull_73, ca_X3_canPull_76, e_aload_n0, e_callv, e_getfield, e_iload_n1, e_iload_n2, e_ireturn, e_istore_n2i, e_istore_n2n, e_istore_n2r, gf_X3_15_16, j_goto_35_m33, j_ic_0, j_ic_1, j_icmp_ge_10_28, j_icmp_le_27_5, j_ii_2_1, q_X2_menCount, q_X2_thornsOf, q_X3_pullsOf, ab_rn, bi_0, bi_1, ite_not]
    rw [if_neg (nc_ge (by omega) (by omega))]
    exact h
  | succ j ih =>
    intro i hi h
    unfold cp_l at h
    refine ab_go1 hG [2] 80 _ _ _ _ ?_
    simp (decide := true) only [ew_s, ew_0, Option.toList_some, Option.toList_none, List.cons_append, List.nil_append, true_and, and_true, List.length_cons, List.length_nil, Nat.reduceAdd, Nat.reduceLeDiff, Int32.reduceAdd, Int32.reduceSub, Int32.reduceMul, Int32.reduceLT, Int32.reduceLE, Int32.reduceToNatClampNeg, ↓reduceIte, and_self, si_1, si_2, sl_1, sl_2, false_and, and_false, dX3_canPull_0, dX3_canPull_1, dX3_canPull_2, dX3_canPull_3, dX3_canPull_4, dX3_canPull_7, dX3_canPull_10, dX3_canPull_13, dX3_canPull_14, dX3_canPull_15, dX3_canPull_16, dX3_canPull_19, dX3_canPull_20, dX3_canPull_23, dX3_canPull_24, dX3_canPull_27, dX3_canPull_30, dX3_canPull_31, dX3_canPull_32, dX3_canPull_35, dX3_canPull_38, dX3_canPull_39, ca_X3_canPull_46, ca_X3_canPull_73, ca_X3_canPull_76, e_aload_n0, e_callv, e_getfield, e_iload_n1, e_iload_n2, e_ireturn, e_istore_n2i, e_istore_n2n, e_istore_n2r, gf_X3_15_16, j_goto_35_m33, j_ic_0, j_ic_1, j_icmp_ge_10_28, j_icmp_le_27_5, j_ii_2_1, q_X2_menCount, q_X2_thornsOf, q_X3_pullsOf, ab_rn, bi_0, bi_1, ite_not]
    rw [if_pos (nc_lt (by omega)), nI_1]
    split
    · rename_i h2
      rw [if_pos h2] at h
      exact h
    · rename_i h2
      rw [if_neg h2] at h
      exact ih (i + 1) (by omega) h
set_option maxRecDepth 20000 in
set_option maxHeartbeats 4000000 in
theorem c_X3_canPull {l : Launch} : ab_ctr l yX3_canPull cX3_canPull 3 (some .boolean) 3 62 s_X3_canPull := by
  refine ab_met x_X3_canPull (by decide) rfl fo_X3 ko_X3 so_X3 rfl (ab_cs_cons (ab_kV c_X2_menCount ml_X3_46 v_X2_menCount ⟨rfl, rfl⟩ r_X2_menCount) (ab_cs_cons (ab_kV c_X3_pullsOf ml_X3_73 v_X3_pullsOf ⟨rfl, rfl⟩ r_X3_pullsOf) (ab_cs_cons (ab_kV c_X2_thornsOf ml_X3_76 v_X2_thornsOf ⟨rfl, rfl⟩ r_X2_thornsOf) ab_cs_nil))) ?_ ?_
  · intro as M Po h
    unfold s_X3_canPull at h
    split at h
    · simp [ab_e0]
    · exact h.elim
  · intro as M Po h G hG
    unfold s_X3_canPull at h
    split at h
    · simp only [ab_en, ab_e0, List.length_cons, List.length_nil, Nat.reduceAdd, Nat.reduceSub, List.replicate, List.cons_append, List.nil_append]
      refine ab_go hG [2] 80 _ _ _ _ ?_
      simp (decide := true) only [ew_s, ew_0, Option.toList_some, Option.toList_none, List.cons_append, List.nil_append, true_and, and_true, List.length_cons, List.length_nil, Nat.reduceAdd, Nat.reduceLeDiff, Int32.reduceAdd, Int32.reduceSub, Int32.reduceMul, Int32.reduceLT, Int32.reduceLE, Int32.reduceToNatClampNeg, ↓reduceIte, and_self, si_1, si_2, sl_1, sl_2, false_and, and_false, dX3_canPull_0, dX3_canPull_1, dX3_canPull_2, dX3_canPull_3, dX3_canPull_4, dX3_canPull_7, dX3_canPull_10, dX3_canPull_13, dX3_canPull_14, dX3_canPull_15, dX3_canPull_16, dX3_canPull_19, dX3_canPull_20, dX3_canPull_23, dX3_canPull_24, dX3_canPull_27, dX3_canPull_30, dX3_canPull_31, dX3_canPull_32, dX3_canPull_35, dX3_canPull_38, dX3_canPull_39, ca_X3_canPull_46, ca_X3_canPull_73, ca_X3_canPull_76, e_aload_n0, e_callv, e_getfield, e_iload_n1, e_iload_n2, e_ireturn, e_istore_n2i, e_istore_n2n, e_istore_n2r, gf_X3_15_16, j_goto_35_m33, j_ic_0, j_ic_1, j_icmp_ge_10_28, j_icmp_le_27_5, j_ii_2_1, q_X2_menCount, q_X2_thornsOf, q_X3_pullsOf, ab_rn, bi_0, bi_1, ite_not]
      exact lp_X3_canPull hG _ 0 (by omega) h
    · exact h.elim

def s_X3_isInTime : ab_Sem := fun as M Po => match as with
  | [.ref 16, .int b, .int x] => ¬ x < 0 ∧ ∀ s : mr_T, Po (some (.int (it_n M b x.toNatClampNeg))) (mws M 18 s)
  | _ => False
theorem q_X3_isInTime {b x : Int32} {M : ab_M} {Po : ab_P} : s_X3_isInTime [.ref 16, .int b, .int x] M Po = (¬ x < 0 ∧ ∀ s : mr_T, Po (some (.int (it_n M b x.toNatClampNeg))) (mws M 18 s)) := rfl
abbrev x_X3_isInTime : ab_X := (some .boolean, fl_X3, [(44, 2, s_X2_follow), (92, 1, s_X2_menCount), (146, 3, s_X3_pullsOf), (158, 3, s_X2_easeTimes), (78, 2, s_X2_goToEnd)], kl_X3, gs_X3, ab_ros)
theorem ca_X3_isInTime_22 {v0 v1 : Value} {st : List Value} {M : ab_M} {k : List Value → ab_M → Prop} : ab_ca x_X3_isInTime (2 * 22) (v1 :: v0 :: st) M k = (st.length ≤ 4 ∧ s_X2_follow [v0, v1] M (fun r M' => k (r.toList ++ st) M')) := rfl
theorem ca_X3_isInTime_46 {v0 : Value} {st : List Value} {M : ab_M} {k : List Value → ab_M → Prop} : ab_ca x_X3_isInTime (2 * 46) (v0 :: st) M k = (st.length ≤ 4 ∧ s_X2_menCount [v0] M (fun r M' => k (r.toList ++ st) M')) := rfl
theorem ca_X3_isInTime_73 {v0 v1 v2 : Value} {st : List Value} {M : ab_M} {k : List Value → ab_M → Prop} : ab_ca x_X3_isInTime (2 * 73) (v2 :: v1 :: v0 :: st) M k = (st.length ≤ 4 ∧ s_X3_pullsOf [v0, v1, v2] M (fun r M' => k (r.toList ++ st) M')) := rfl
theorem ca_X3_isInTime_79 {v0 v1 v2 : Value} {st : List Value} {M : ab_M} {k : List Value → ab_M → Prop} : ab_ca x_X3_isInTime (2 * 79) (v2 :: v1 :: v0 :: st) M k = (st.length ≤ 4 ∧ s_X2_easeTimes [v0, v1, v2] M (fun r M' => k (r.toList ++ st) M')) := rfl
theorem ca_X3_isInTime_39 {v0 v1 : Value} {st : List Value} {M : ab_M} {k : List Value → ab_M → Prop} : ab_ca x_X3_isInTime (2 * 39) (v1 :: v0 :: st) M k = (st.length ≤ 4 ∧ s_X2_goToEnd [v0, v1] M (fun r M' => k (r.toList ++ st) M')) := rfl
theorem r_X3_isInTime : ∀ (as : List Value) (M : ab_M) (Po : ab_P), s_X3_isInTime as M Po → ∃ (q : Nat) (as' : List Value) (ci : Nat) (T : u_T) (N : Nat) (fs : List ab_F), as = .ref q :: as' ∧ ab_sh[q]? = some (.inl (ci, fs)) ∧ vwCl[ci]? = some (yX3_isInTime.cls, T, N) := by
  intro as M Po h
  unfold s_X3_isInTime at h
  split at h
  · first | exact ⟨_, _, 3, _, _, _, rfl, rfl, rfl⟩ | (rcases h.1 with rfl | rfl | rfl <;> exact ⟨_, _, 3, _, _, _, rfl, rfl, rfl⟩)
  · exact h.elim
set_option maxRecDepth 20000 in
set_option maxHeartbeats 4000000 in
theorem lq_X3_isInTime {G : ab_K} {Po : ab_P} (hG : ab_Clo cX3_isInTime x_X3_isInTime Po G) {M : ab_M} {m d p b x : Int32} (hx : ¬ x < 0) : ∀ (j i : Nat) (f : Nat → Int32), i + j = nc_X M → Po (some (.int (if (ge_X M x.toNatClampNeg 0 (m, d, p, pl_l M b j i f)).1 = -9 then 0 else 1))) (mws M 18 (ge_X M x.toNatClampNeg 0 (m, d, p, pl_l M b j i f)).2) → G 13 [some (.ref 16), some (.int b), some (.int x), some (.int (nI i))] [] (mw M 18 m d p f) := by
  intro j
  have h31 := nc_31 M
  induction j with
  | zero =>
    intro i f hi h
    unfold pl_l at h
    refine ab_go1 hG [13] 80 _ _ _ _ ?_
    simp (decide := true) only [ew_s, ew_0, Option.toList_some, Option.toList_none, List.cons_append, List.nil_append, true_and, and_true, List.length_cons, List.length_nil, Nat.reduceAdd, Nat.reduceLeDiff, Int32.reduceAdd, Int32.reduceSub, Int32.reduceMul, Int32.reduceLT, Int32.reduceLE, ↓reduceIte, and_self, si_1, si_2, sl_1, sl_2, false_and, and_false, dX3_isInTime_0, dX3_isInTime_1, dX3_isInTime_4, dX3_isInTime_5, dX3_isInTime_8, dX3_isInTime_11, dX3_isInTime_12, dX3_isInTime_13, dX3_isInTime_14, dX3_isInTime_15, dX3_isInTime_18, dX3_isInTime_21, dX3_isInTime_24, dX3_isInTime_25, dX3_isInTime_28, dX3_isInTime_29, dX3_isInTime_30, dX3_isInTime_31, dX3_isInTime_32, dX3_isInTime_35, dX3_isInTime_38, dX3_isInTime_41, dX3_isInTime_44, dX3_isInTime_45, dX3_isInTime_48, dX3_isInTime_49, dX3_isInTime_52, dX3_isInTime_54, dX3_isInTime_57, dX3_isInTime_58, dX3_isInTime_61, dX3_isInTime_62, ca_X3_isInTime_22, ca_X3_isInTime_39, ca_X3_isInTime_46, ca_X3_isInTime_73, ca_X3_isInTime_79, e_aload_n0, e_callv, e_getfield, e_iload_n1, e_iload_n2, e_iload_n3, e_ireturn, e_istore_n3i, e_istore_n3n, e_istore_n3r, gf_X3_15_16, gf_X3_19_16, j_bp_m9, j_goto_41_m28, j_goto_58_4, j_ic_0, j_ic_1, j_icmp_eq_54_7, j_icmp_ge_21_23, j_ii_3_1, q_X2_menCount, q_X3_pullsOf, eq_g18, w_o83_18, ab_rn, bi_0, bi_1, ite_not]
    rw [if_neg (nc_ge (by omega) (by omega))]
    refine ⟨hx, ?_⟩
    split
    · rename_i h2
      rw [if_pos h2] at h
      exact h
    · rename_i h2
      rw [if_neg h2] at h
      exact h
  | succ j ih =>
    intro i f hi h
    unfold pl_l at h
    refine ab_go1 hG [13] 80 _ _ _ _ ?_
    simp (decide := true) only [ew_s, ew_0, Option.toList_some, Option.toList_none, List.cons_append, List.nil_append, true_and, and_true, List.length_cons, List.length_nil, Nat.reduceAdd, Nat.reduceLeDiff, Int32.reduceAdd, Int32.reduceSub, Int32.reduceMul, Int32.reduceLT, Int32.reduceLE, ↓reduceIte, and_self, si_1, si_2, sl_1, sl_2, false_and, and_false, dX3_isInTime_0, dX3_isInTime_1, dX3_isInTime_4, dX3_isInTime_5, dX3_isInTime_8, dX3_isInTime_11, dX3_isInTime_12, dX3_isInTime_13, dX3_isInTime_14, dX3_isInTime_15, dX3_isInTime_18, dX3_isInTime_21, dX3_isInTime_24, dX3_isInTime_25, dX3_isInTime_28, dX3_isInTime_29, dX3_isInTime_30, dX3_isInTime_31, dX3_isInTime_32, dX3_isInTime_35, dX3_isInTime_38, dX3_isInTime_41, dX3_isInTime_44, dX3_isInTime_45, dX3_isInTime_48, dX3_isInTime_49, dX3_isInTime_52, dX3_isInTime_54, dX3_isInTime_57, dX3_isInTime_58, dX3_isInTime_61, dX3_isInTime_62, ca_X3_isInTime_22, ca_X3_isInTime_39, ca_X3_isInTime_46, ca_X3_isInTime_73, ca_X3_isInTime_79, e_aload_n0, e_callv, e_getfield, e_iload_n1, e_iload_n2, e_iload_n3, e_ireturn, e_istore_n3i, e_istore_n3n, e_istore_n3r, gf_X3_15_16, gf_X3_19_16, j_bp_m9, j_goto_41_m28, j_goto_58_4, j_ic_0, j_ic_1, j_icmp_eq_54_7, j_icmp_ge_21_23, j_ii_3_1, q_X2_menCount, q_X3_pullsOf, et_w18, po_w18, w_o83_18, ab_rn, bi_0, bi_1, ite_not]
    rw [if_pos (nc_lt (by omega)), nI_1]
    exact ih (i + 1) _ (by omega) h
theorem ln_X3_isInTime {M : ab_M} {b : Int32} {f : Nat → Int32} {Po : ab_P} (n : Nat) (h : ∀ s : mr_T, Po (some (.int (it_n M b n))) (mws M 18 s)) : Po (some (.int (if (ge_X M n 0 (M.1 12 3, M.1 12 4, -1, pl_l M b (nc_X M) 0 (fi_5 (M.1 13) f))).1 = -9 then 0 else 1))) (mws M 18 (ge_X M n 0 (M.1 12 3, M.1 12 4, -1, pl_l M b (nc_X M) 0 (fi_5 (M.1 13) f))).2) := by
  have e : m5 (M.1 12 3, M.1 12 4, -1, pl_l M b (nc_X M) 0 (fi_5 (M.1 13) f)) (M.1 12 3, M.1 12 4, -1, pl_l M b (nc_X M) 0 (M.1 13)) := m5_mk (pl_e5 _ _ (fi_e5 _ _))
  rw [ge_m5 (M := M) n 0 e]
  exact h _
set_option maxRecDepth 20000 in
set_option maxHeartbeats 4000000 in
theorem lp_X3_isInTime {G : ab_K} {Po : ab_P} (hG : ab_Clo cX3_isInTime x_X3_isInTime Po G) {M : ab_M} {m d p b x : Int32} {f : Nat → Int32} (hx : ¬ x < 0) (h : ∀ s : mr_T, Po (some (.int (it_n M b x.toNatClampNeg))) (mws M 18 s)) : G 0 [some (.ref 16), some (.int b), some (.int x), none] [] (mw M 18 m d p f) := by
  refine ab_go hG [13] 80 _ _ _ _ ?_
  simp (decide := true) only [ew_s, ew_0, Option.toList_some, Option.toList_none, List.cons_append, List.nil_append, true_and, and_true, List.length_cons, List.length_nil, Nat.reduceAdd, Nat.reduceLeDiff, Int32.reduceAdd, Int32.reduceSub, Int32.reduceMul, Int32.reduceLT, Int32.reduceLE, ↓reduceIte, and_self, si_1, si_2, sl_1, sl_2, false_and, and_false, dX3_isInTime_0, dX3_isInTime_1, dX3_isInTime_4, dX3_isInTime_5, dX3_isInTime_8, dX3_isInTime_11, dX3_isInTime_12, dX3_isInTime_13, dX3_isInTime_14, dX3_isInTime_15, dX3_isInTime_18, dX3_isInTime_21, dX3_isInTime_24, dX3_isInTime_25, dX3_isInTime_28, dX3_isInTime_29, dX3_isInTime_30, dX3_isInTime_31, dX3_isInTime_32, dX3_isInTime_35, dX3_isInTime_38, dX3_isInTime_41, dX3_isInTime_44, dX3_isInTime_45, dX3_isInTime_48, dX3_isInTime_49, dX3_isInTime_52, dX3_isInTime_54, dX3_isInTime_57, dX3_isInTime_58, dX3_isInTime_61, dX3_isInTime_62, ca_X3_isInTime_22, ca_X3_isInTime_39, ca_X3_isInTime_46, ca_X3_isInTime_73, ca_X3_isInTime_79, e_aload_n0, e_callv, e_getfield, e_iload_n1, e_iload_n2, e_iload_n3, e_ireturn, e_istore_n3i, e_istore_n3n, e_istore_n3r, gf_X3_15_16, gf_X3_19_16, j_bp_m9, j_goto_41_m28, j_goto_58_4, j_ic_0, j_ic_1, j_icmp_eq_54_7, j_icmp_ge_21_23, j_ii_3_1, q_X2_menCount, q_X3_pullsOf, fq_w18, ab_rn, bi_0, bi_1, ite_not]
  exact lq_X3_isInTime hG hx _ 0 _ (by omega) (ln_X3_isInTime _ h)
set_option maxRecDepth 20000 in
set_option maxHeartbeats 4000000 in
theorem c_X3_isInTime {l : Launch} : ab_ctr l yX3_isInTime cX3_isInTime 4 (some .boolean) 4 94 s_X3_isInTime := by
  refine ab_met x_X3_isInTime (by decide) rfl fo_X3 ko_X3 so_X3 rfl (ab_cs_cons (ab_kV c_X2_follow ml_X3_22 v_X2_follow ⟨rfl, rfl⟩ r_X2_follow) (ab_cs_cons (ab_kV c_X2_menCount ml_X3_46 v_X2_menCount ⟨rfl, rfl⟩ r_X2_menCount) (ab_cs_cons (ab_kV c_X3_pullsOf ml_X3_73 v_X3_pullsOf ⟨rfl, rfl⟩ r_X3_pullsOf) (ab_cs_cons (ab_kV c_X2_easeTimes ml_X3_79 v_X2_easeTimes ⟨rfl, rfl⟩ r_X2_easeTimes) (ab_cs_cons (ab_kV c_X2_goToEnd ml_X3_39 v_X2_goToEnd ⟨rfl, rfl⟩ r_X2_goToEnd) ab_cs_nil))))) ?_ ?_
  · intro as M Po h
    unfold s_X3_isInTime at h
    split at h
    · simp [ab_e0]
    · exact h.elim
  · intro as M Po h G hG
    unfold s_X3_isInTime at h
    split at h
    · simp only [ab_en, ab_e0, List.length_cons, List.length_nil, Nat.reduceAdd, Nat.reduceSub, List.replicate, List.cons_append, List.nil_append]
      have key := lp_X3_isInTime hG (m := M.1 18 3) (d := M.1 18 4) (p := M.1 18 5) (f := M.1 19) h.1 h.2
      rw [show mw M 18 (M.1 18 3) (M.1 18 4) (M.1 18 5) (M.1 19) = M from mw_id] at key
      exact key
    · exact h.elim

/-- the fewest pulls: so many ways are left, the i-th is next, the best so far, how many it has -/
def fp_l (M : ab_M) (d : Nat) : Nat → Nat → Int32 → Int32 → Int32
  | 0, _, b, _ => b
  | n + 1, i, b, f => if (b = -9 ∨ pa_l M (nI i) (nc_X M) 0 0 < f) ∧ ¬ cp_l M (nI i) (nc_X M) 0 = 0 ∧ ¬ it_n M (nI i) d = 0 then fp_l M d n (i + 1) (nI i) (pa_l M (nI i) (nc_X M) 0 0) else fp_l M d n (i + 1) b f
def nw_4 (M : ab_M) : Nat := (pw_X 4 (nc_X M)).toNatClampNeg
theorem w4_31 (M : ab_M) : nw_4 M < 2 ^ 31 := by
  have h : (pw_X 4 (nc_X M)).toNatClampNeg = (pw_X 4 (nc_X M)).toInt.toNat := rfl
  have h2 := Int32.toInt_lt (pw_X 4 (nc_X M))
  unfold nw_4
  omega
theorem w4_lt {M : ab_M} {i : Nat} (h : i < nw_4 M) : nI i < pw_X 4 (nc_X M) := by
  have h31 := w4_31 M
  rw [Int32.lt_iff_toInt_lt, nI_toInt (by omega)]
  have : (pw_X 4 (nc_X M)).toNatClampNeg = (pw_X 4 (nc_X M)).toInt.toNat := rfl
  unfold nw_4 at h
  omega
theorem w4_ge {M : ab_M} {i : Nat} (h : nw_4 M ≤ i) (hi : i < 2 ^ 31) : ¬ nI i < pw_X 4 (nc_X M) := by
  rw [Int32.lt_iff_toInt_lt, nI_toInt hi]
  have : (pw_X 4 (nc_X M)).toNatClampNeg = (pw_X 4 (nc_X M)).toInt.toNat := rfl
  unfold nw_4 at h
  omega
theorem qa_w18 {M : ab_M} {m d p b : Int32} {f : Nat → Int32} {Po : ab_P} : s_X3_pullsInAll [.ref 16, .int b] (mw M 18 m d p f) Po = Po (some (.int (pa_l M b (nc_X M) 0 0))) (mw M 18 m d p f) := by
  rw [q_X3_pullsInAll, nc_w18, pa_w18]
theorem qc_w18 {M : ab_M} {m d p b : Int32} {f : Nat → Int32} {Po : ab_P} : s_X3_canPull [.ref 16, .int b] (mw M 18 m d p f) Po = Po (some (.int (cp_l M b (nc_X M) 0))) (mw M 18 m d p f) := by
  rw [q_X3_canPull, nc_w18, cp_w18]
theorem qi_w18 {M : ab_M} {m d p b x : Int32} {f : Nat → Int32} {Po : ab_P} : s_X3_isInTime [.ref 16, .int b, .int x] (mw M 18 m d p f) Po = (¬ x < 0 ∧ ∀ s : mr_T, Po (some (.int (it_n M b x.toNatClampNeg))) (mws M 18 s)) := by
  rw [q_X3_isInTime, it_w18]
  simp only [mws_w18]
def s_X3_fewestPulls : ab_Sem := fun as M Po => match as with
  | [.ref 16, .int x] => ¬ x < 0 ∧ ∀ s : mr_T, Po (some (.int (fp_l M x.toNatClampNeg (nw_4 M) 0 (-9) 0))) (mws M 18 s)
  | _ => False
theorem q_X3_fewestPulls {x : Int32} {M : ab_M} {Po : ab_P} : s_X3_fewestPulls [.ref 16, .int x] M Po = (¬ x < 0 ∧ ∀ s : mr_T, Po (some (.int (fp_l M x.toNatClampNeg (nw_4 M) 0 (-9) 0))) (mws M 18 s)) := rfl
abbrev x_X3_fewestPulls : ab_X := (some .int, fl_X3, [(92, 1, s_X2_menCount), (119, 2, s_X8_power), (126, 2, s_X3_pullsInAll), (132, 2, s_X3_canPull), (138, 3, s_X3_isInTime)], kl_X3, gs_X3, ab_ros)
theorem ca_X3_fewestPulls_46 {v0 : Value} {st : List Value} {M : ab_M} {k : List Value → ab_M → Prop} : ab_ca x_X3_fewestPulls (2 * 46) (v0 :: st) M k = (st.length ≤ 4 ∧ s_X2_menCount [v0] M (fun r M' => k (r.toList ++ st) M')) := rfl
theorem ca_X3_fewestPulls_59 {v0 v1 : Value} {st : List Value} {M : ab_M} {k : List Value → ab_M → Prop} : ab_ca x_X3_fewestPulls (2 * 59 + 1) (v1 :: v0 :: st) M k = (st.length ≤ 4 ∧ s_X8_power [v0, v1] M (fun r M' => k (r.toList ++ st) M')) := rfl
theorem ca_X3_fewestPulls_63 {v0 v1 : Value} {st : List Value} {M : ab_M} {k : List Value → ab_M → Prop} : ab_ca x_X3_fewestPulls (2 * 63) (v1 :: v0 :: st) M k = (st.length ≤ 4 ∧ s_X3_pullsInAll [v0, v1] M (fun r M' => k (r.toList ++ st) M')) := rfl
theorem ca_X3_fewestPulls_66 {v0 v1 : Value} {st : List Value} {M : ab_M} {k : List Value → ab_M → Prop} : ab_ca x_X3_fewestPulls (2 * 66) (v1 :: v0 :: st) M k = (st.length ≤ 4 ∧ s_X3_canPull [v0, v1] M (fun r M' => k (r.toList ++ st) M')) := rfl
theorem ca_X3_fewestPulls_69 {v0 v1 v2 : Value} {st : List Value} {M : ab_M} {k : List Value → ab_M → Prop} : ab_ca x_X3_fewestPulls (2 * 69) (v2 :: v1 :: v0 :: st) M k = (st.length ≤ 4 ∧ s_X3_isInTime [v0, v1, v2] M (fun r M' => k (r.toList ++ st) M')) := rfl
theorem r_X3_fewestPulls : ∀ (as : List Value) (M : ab_M) (Po : ab_P), s_X3_fewestPulls as M Po → ∃ (q : Nat) (as' : List Value) (ci : Nat) (T : u_T) (N : Nat) (fs : List ab_F), as = .ref q :: as' ∧ ab_sh[q]? = some (.inl (ci, fs)) ∧ vwCl[ci]? = some (yX3_fewestPulls.cls, T, N) := by
  intro as M Po h
  unfold s_X3_fewestPulls at h
  split at h
  · first | exact ⟨_, _, 3, _, _, _, rfl, rfl, rfl⟩ | (rcases h.1 with rfl | rfl | rfl <;> exact ⟨_, _, 3, _, _, _, rfl, rfl, rfl⟩)
  · exact h.elim
set_option maxRecDepth 20000 in
set_option maxHeartbeats 4000000 in
theorem lq_X3_fewestPulls {G : ab_K} {Po : ab_P} (hG : ab_Clo cX3_fewestPulls x_X3_fewestPulls Po G) {M : ab_M} {x : Int32} (hx : ¬ x < 0) : ∀ (j i : Nat) (b f : Int32) (m d p : Int32) (g : Nat → Int32) (c : Option Value), i + j = nw_4 M → (∀ s : mr_T, Po (some (.int (fp_l M x.toNatClampNeg j i b f))) (mws M 18 s)) → G 21 [some (.ref 16), some (.int x), some (.int b), some (.int f), some (.int (pw_X 4 (nc_X M))), some (.int (nI i)), c] [] (mw M 18 m d p g) := by
  intro j
  have h31 := w4_31 M
  induction j with
  | zero =>
    intro i b f m d p g c hi h
    unfold fp_l at h
    refine ab_go1 hG [21] 80 _ _ _ _ ?_
    simp (decide := true) only [ew_s, ew_0, Option.toList_some, Option.toList_none, List.cons_append, List.nil_append, true_and, and_true, List.length_cons, List.length_nil, Nat.reduceAdd, Nat.reduceLeDiff, Int32.reduceAdd, Int32.reduceSub, Int32.reduceMul, Int32.reduceLT, Int32.reduceLE, ↓reduceIte, and_self, si_1, si_2, sl_1, sl_2, false_and, and_false, dX3_fewestPulls_0, dX3_fewestPulls_2, dX3_fewestPulls_3, dX3_fewestPulls_4, dX3_fewestPulls_5, dX3_fewestPulls_6, dX3_fewestPulls_7, dX3_fewestPulls_10, dX3_fewestPulls_13, dX3_fewestPulls_16, dX3_fewestPulls_18, dX3_fewestPulls_19, dX3_fewestPulls_21, dX3_fewestPulls_23, dX3_fewestPulls_25, dX3_fewestPulls_28, dX3_fewestPulls_29, dX3_fewestPulls_31, dX3_fewestPulls_34, dX3_fewestPulls_36, dX3_fewestPulls_37, dX3_fewestPulls_39, dX3_fewestPulls_42, dX3_fewestPulls_44, dX3_fewestPulls_45, dX3_fewestPulls_48, dX3_fewestPulls_49, dX3_fewestPulls_51, dX3_fewestPulls_54, dX3_fewestPulls_57, dX3_fewestPulls_58, dX3_fewestPulls_60, dX3_fewestPulls_61, dX3_fewestPulls_64, dX3_fewestPulls_67, dX3_fewestPulls_69, dX3_fewestPulls_70, dX3_fewestPulls_72, dX3_fewestPulls_73, dX3_fewestPulls_76, dX3_fewestPulls_79, dX3_fewestPulls_80, ca_X3_fewestPulls_46, ca_X3_fewestPulls_59, ca_X3_fewestPulls_63, ca_X3_fewestPulls_66, ca_X3_fewestPulls_69, e_aload_n0, e_calls, e_callv, e_getfield, e_iload4, e_iload5, e_iload6, e_iload_n1, e_iload_n2, e_iload_n3, e_ireturn, e_istore4i, e_istore4n, e_istore4r, e_istore5i, e_istore5n, e_istore5r, e_istore6i, e_istore6n, e_istore6r, e_istore_n2i, e_istore_n2n, e_istore_n2r, e_istore_n3i, e_istore_n3n, e_istore_n3r, gf_X3_15_16, j_bp_m9, j_goto_76_m55, j_ic_0, j_ic_4, j_icmp_eq_39_9, j_icmp_ge_25_54, j_icmp_ge_45_28, j_if_eq_54_19, j_if_eq_64_9, j_ii_5_1, q_X2_menCount, q_X8_power, qa_w18, qc_w18, qi_w18, ab_rn, bi_0, bi_1, ite_not]
    rw [if_neg (w4_ge (by omega) (by omega))]
    exact h (m, d, p, g)
  | succ j ih =>
    intro i b f m d p g c hi h
    unfold fp_l at h
    refine ab_go1 hG [21] 80 _ _ _ _ ?_
    simp (decide := true) only [ew_s, ew_0, Option.toList_some, Option.toList_none, List.cons_append, List.nil_append, true_and, and_true, List.length_cons, List.length_nil, Nat.reduceAdd, Nat.reduceLeDiff, Int32.reduceAdd, Int32.reduceSub, Int32.reduceMul, Int32.reduceLT, Int32.reduceLE, ↓reduceIte, and_self, si_1, si_2, sl_1, sl_2, false_and, and_false, dX3_fewestPulls_0, dX3_fewestPulls_2, dX3_fewestPulls_3, dX3_fewestPulls_4, dX3_fewestPulls_5, dX3_fewestPulls_6, dX3_fewestPulls_7, dX3_fewestPulls_10, dX3_fewestPulls_13, dX3_fewestPulls_16, dX3_fewestPulls_18, dX3_fewestPulls_19, dX3_fewestPulls_21, dX3_fewestPulls_23, dX3_fewestPulls_25, dX3_fewestPulls_28, dX3_fewestPulls_29, dX3_fewestPulls_31, dX3_fewestPulls_34, dX3_fewestPulls_36, dX3_fewestPulls_37, dX3_fewestPulls_39, dX3_fewestPulls_42, dX3_fewestPulls_44, dX3_fewestPulls_45, dX3_fewestPulls_48, dX3_fewestPulls_49, dX3_fewestPulls_51, dX3_fewestPulls_54, dX3_fewestPulls_57, dX3_fewestPulls_58, dX3_fewestPulls_60, dX3_fewestPulls_61, dX3_fewestPulls_64, dX3_fewestPulls_67, dX3_fewestPulls_69, dX3_fewestPulls_70, dX3_fewestPulls_72, dX3_fewestPulls_73, dX3_fewestPulls_76, dX3_fewestPulls_79, dX3_fewestPulls_80, ca_X3_fewestPulls_46, ca_X3_fewestPulls_59, ca_X3_fewestPulls_63, ca_X3_fewestPulls_66, ca_X3_fewestPulls_69, e_aload_n0, e_calls, e_callv, e_getfield, e_iload4, e_iload5, e_iload6, e_iload_n1, e_iload_n2, e_iload_n3, e_ireturn, e_istore4i, e_istore4n, e_istore4r, e_istore5i, e_istore5n, e_istore5r, e_istore6i, e_istore6n, e_istore6r, e_istore_n2i, e_istore_n2n, e_istore_n2r, e_istore_n3i, e_istore_n3n, e_istore_n3r, gf_X3_15_16, j_bp_m9, j_goto_76_m55, j_ic_0, j_ic_4, j_icmp_eq_39_9, j_icmp_ge_25_54, j_icmp_ge_45_28, j_if_eq_54_19, j_if_eq_64_9, j_ii_5_1, q_X2_menCount, q_X8_power, qa_w18, qc_w18, qi_w18, ab_rn, bi_0, bi_1, ite_not]
    rw [if_pos (w4_lt (by omega)), nI_1]
    have ih1 := fun b f m d p g c => ih (i + 1) b f m d p g c (by omega)
    by_cases hb : b = -9 ∨ pa_l M (nI i) (nc_X M) 0 0 < f
    · by_cases hc : cp_l M (nI i) (nc_X M) 0 = 0
      · rw [if_neg (fun hh => hh.2.1 hc)] at h
        rw [if_pos hc]
        split
        · exact ih1 _ _ _ _ _ _ _ h
        · split
          · exact ih1 _ _ _ _ _ _ _ h
          · exact ih1 _ _ _ _ _ _ _ h
      · rw [if_neg hc]
        have key : ¬ x < 0 ∧ ∀ s : mr_T, if it_n M (nI i) x.toNatClampNeg = 0 then G 21 [some (.ref 16), some (.int x), some (.int b), some (.int f), some (.int (pw_X 4 (nc_X M))), some (.int (nI (i + 1))), some (.int (pa_l M (nI i) (nc_X M) 0 0))] [] (mws M 18 s) else G 21 [some (.ref 16), some (.int x), some (.int (nI i)), some (.int (pa_l M (nI i) (nc_X M) 0 0)), some (.int (pw_X 4 (nc_X M))), some (.int (nI (i + 1))), some (.int (pa_l M (nI i) (nc_X M) 0 0))] [] (mws M 18 s) := by
          refine ⟨hx, fun s => ?_⟩
          split
          · rename_i ht
            rw [if_neg (fun hh => hh.2.2 ht)] at h
            exact ih1 _ _ _ _ _ _ _ h
          · rename_i ht
            rw [if_pos ⟨hb, hc, ht⟩] at h
            exact ih1 _ _ _ _ _ _ _ h
        split
        · exact key
        · rename_i h1
          rw [if_pos (hb.resolve_left h1)]
          exact key
    · rw [if_neg (fun hh => hb hh.1)] at h
      rw [if_neg (fun hh => hb (Or.inl hh)), if_neg (fun hh => hb (Or.inr hh))]
      exact ih1 _ _ _ _ _ _ _ h
set_option maxRecDepth 20000 in
set_option maxHeartbeats 4000000 in
theorem lp_X3_fewestPulls {G : ab_K} {Po : ab_P} (hG : ab_Clo cX3_fewestPulls x_X3_fewestPulls Po G) {M : ab_M} {m d p x : Int32} {f : Nat → Int32} (hx : ¬ x < 0) (h : ∀ s : mr_T, Po (some (.int (fp_l M x.toNatClampNeg (nw_4 M) 0 (-9) 0))) (mws M 18 s)) : G 0 [some (.ref 16), some (.int x), none, none, none, none, none] [] (mw M 18 m d p f) := by
  refine ab_go hG [21] 80 _ _ _ _ ?_
  simp (decide := true) only [ew_s, ew_0, Option.toList_some, Option.toList_none, List.cons_append, List.nil_append, true_and, and_true, List.length_cons, List.length_nil, Nat.reduceAdd, Nat.reduceLeDiff, Int32.reduceAdd, Int32.reduceSub, Int32.reduceMul, Int32.reduceLT, Int32.reduceLE, ↓reduceIte, and_self, si_1, si_2, sl_1, sl_2, false_and, and_false, dX3_fewestPulls_0, dX3_fewestPulls_2, dX3_fewestPulls_3, dX3_fewestPulls_4, dX3_fewestPulls_5, dX3_fewestPulls_6, dX3_fewestPulls_7, dX3_fewestPulls_10, dX3_fewestPulls_13, dX3_fewestPulls_16, dX3_fewestPulls_18, dX3_fewestPulls_19, dX3_fewestPulls_21, dX3_fewestPulls_23, dX3_fewestPulls_25, dX3_fewestPulls_28, dX3_fewestPulls_29, dX3_fewestPulls_31, dX3_fewestPulls_34, dX3_fewestPulls_36, dX3_fewestPulls_37, dX3_fewestPulls_39, dX3_fewestPulls_42, dX3_fewestPulls_44, dX3_fewestPulls_45, dX3_fewestPulls_48, dX3_fewestPulls_49, dX3_fewestPulls_51, dX3_fewestPulls_54, dX3_fewestPulls_57, dX3_fewestPulls_58, dX3_fewestPulls_60, dX3_fewestPulls_61, dX3_fewestPulls_64, dX3_fewestPulls_67, dX3_fewestPulls_69, dX3_fewestPulls_70, dX3_fewestPulls_72, dX3_fewestPulls_73, dX3_fewestPulls_76, dX3_fewestPulls_79, dX3_fewestPulls_80, ca_X3_fewestPulls_46, ca_X3_fewestPulls_59, ca_X3_fewestPulls_63, ca_X3_fewestPulls_66, ca_X3_fewestPulls_69, e_aload_n0, e_calls, e_callv, e_getfield, e_iload4, e_iload5, e_iload6, e_iload_n1, e_iload_n2, e_iload_n3, e_ireturn, e_istore4i, e_istore4n, e_istore4r, e_istore5i, e_istore5n, e_istore5r, e_istore6i, e_istore6n, e_istore6r, e_istore_n2i, e_istore_n2n, e_istore_n2r, e_istore_n3i, e_istore_n3n, e_istore_n3r, gf_X3_15_16, j_bp_m9, j_goto_76_m55, j_ic_0, j_ic_4, j_icmp_eq_39_9, j_icmp_ge_25_54, j_icmp_ge_45_28, j_if_eq_54_19, j_if_eq_64_9, j_ii_5_1, q_X2_menCount, q_X3_canPull, q_X3_isInTime, q_X3_pullsInAll, q_X8_power, w_o83_18, ab_rn, bi_0, bi_1, ite_not]
  exact lq_X3_fewestPulls hG hx _ 0 _ _ _ _ _ _ _ (by omega) h
set_option maxRecDepth 20000 in
set_option maxHeartbeats 4000000 in
theorem c_X3_fewestPulls {l : Launch} : ab_ctr l yX3_fewestPulls cX3_fewestPulls 7 (some .int) 5 117 s_X3_fewestPulls := by
  refine ab_met x_X3_fewestPulls (by decide) rfl fo_X3 ko_X3 so_X3 rfl (ab_cs_cons (ab_kV c_X2_menCount ml_X3_46 v_X2_menCount ⟨rfl, rfl⟩ r_X2_menCount) (ab_cs_cons (ab_kN c_X8_power ml_X3_59 v_X8_power ⟨rfl, rfl⟩) (ab_cs_cons (ab_kV c_X3_pullsInAll ml_X3_63 v_X3_pullsInAll ⟨rfl, rfl⟩ r_X3_pullsInAll) (ab_cs_cons (ab_kV c_X3_canPull ml_X3_66 v_X3_canPull ⟨rfl, rfl⟩ r_X3_canPull) (ab_cs_cons (ab_kV c_X3_isInTime ml_X3_69 v_X3_isInTime ⟨rfl, rfl⟩ r_X3_isInTime) ab_cs_nil))))) ?_ ?_
  · intro as M Po h
    unfold s_X3_fewestPulls at h
    split at h
    · simp [ab_e0]
    · exact h.elim
  · intro as M Po h G hG
    unfold s_X3_fewestPulls at h
    split at h
    · simp only [ab_en, ab_e0, List.length_cons, List.length_nil, Nat.reduceAdd, Nat.reduceSub, List.replicate, List.cons_append, List.nil_append]
      have key := lp_X3_fewestPulls hG (m := M.1 18 3) (d := M.1 18 4) (p := M.1 18 5) (f := M.1 19) h.1 h.2
      rw [show mw M 18 (M.1 18 3) (M.1 18 4) (M.1 18 5) (M.1 19) = M from mw_id] at key
      exact key
    · exact h.elim

