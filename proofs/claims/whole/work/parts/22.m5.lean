/-! METHODS: March, its loops -/
/-- a march written anew: mile, day, who is there, thorns -/
def mw (M : ab_M) (q : Nat) (m d p : Int32) (f : Nat → Int32) : ab_M := (fun a b => if a = q then (if b = 3 then m else if b = 4 then d else if b = 5 then p else M.1 a b) else if a = q + 1 then f b else M.1 a b, M.2)
def up_f (f : Nat → Int32) (k : Nat) (x : Int32) : Nat → Int32 := fun j => if j = k then x else f j
abbrev mr_T : Type := Int32 × Int32 × Int32 × (Nat → Int32)
def mws (M : ab_M) (q : Nat) (s : mr_T) : ab_M := mw M q s.1 s.2.1 s.2.2.1 s.2.2.2
def mrs (M : ab_M) (q : Nat) : mr_T := (M.1 q 3, M.1 q 4, M.1 q 5, M.1 (q + 1))
theorem mw_3 {M : ab_M} {q : Nat} {m d p x : Int32} {f : Nat → Int32} : ab_si (mw M q m d p f) q 3 x = mw M q x d p f := by
  refine Prod.ext (funext fun a => funext fun b => ?_) rfl
  simp only [ab_si, mw]
  by_cases ha : a = q <;> by_cases hb : b = 3 <;> simp [ha, hb]
theorem mw_4 {M : ab_M} {q : Nat} {m d p x : Int32} {f : Nat → Int32} : ab_si (mw M q m d p f) q 4 x = mw M q m x p f := by
  refine Prod.ext (funext fun a => funext fun b => ?_) rfl
  simp only [ab_si, mw]
  by_cases ha : a = q <;> by_cases hb : b = 4 <;> simp [ha, hb]
theorem mw_5 {M : ab_M} {q : Nat} {m d p x : Int32} {f : Nat → Int32} : ab_si (mw M q m d p f) q 5 x = mw M q m d x f := by
  refine Prod.ext (funext fun a => funext fun b => ?_) rfl
  simp only [ab_si, mw]
  by_cases ha : a = q <;> by_cases hb : b = 5 <;> simp [ha, hb]
theorem mw_t {M : ab_M} {q k : Nat} {m d p x : Int32} {f : Nat → Int32} : ab_si (mw M q m d p f) (q + 1) k x = mw M q m d p (up_f f k x) := by
  refine Prod.ext (funext fun a => funext fun b => ?_) rfl
  simp only [ab_si, mw, up_f]
  by_cases ha : a = q + 1 <;> by_cases hb : b = k <;> simp [ha, hb]
theorem mw_id {M : ab_M} {q : Nat} : mw M q (M.1 q 3) (M.1 q 4) (M.1 q 5) (M.1 (q + 1)) = M := by
  refine Prod.ext (funext fun a => funext fun b => ?_) rfl
  simp only [mw]
  by_cases ha : a = q
  · subst ha
    by_cases h3 : b = 3
    · subst h3; simp
    by_cases h4 : b = 4
    · subst h4; simp
    by_cases h5 : b = 5
    · subst h5; simp
    simp [h3, h4, h5]
  · by_cases ha1 : a = q + 1
    · subst ha1; simp
    · simp [ha, ha1]
theorem mw_mw {M : ab_M} {q : Nat} {m d p m' d' p' : Int32} {f f' : Nat → Int32} : mw (mw M q m d p f) q m' d' p' f' = mw M q m' d' p' f' := by
  refine Prod.ext (funext fun a => funext fun b => ?_) rfl
  simp only [mw]
  by_cases ha : a = q <;> by_cases ha1 : a = q + 1 <;> simp [ha, ha1] <;> (try split) <;> simp_all
theorem mws_id {M : ab_M} {q : Nat} : mws M q (mrs M q) = M := mw_id
theorem mws_mws {M : ab_M} {q : Nat} {s t : mr_T} : mws (mws M q s) q t = mws M q t := mw_mw
theorem mw_r3 {M : ab_M} {q : Nat} {m d p : Int32} {f : Nat → Int32} : (mw M q m d p f).1 q 3 = m := by simp [mw]
theorem mw_r4 {M : ab_M} {q : Nat} {m d p : Int32} {f : Nat → Int32} : (mw M q m d p f).1 q 4 = d := by simp [mw]
theorem mw_r5 {M : ab_M} {q : Nat} {m d p : Int32} {f : Nat → Int32} : (mw M q m d p f).1 q 5 = p := by simp [mw]
theorem mw_rt {M : ab_M} {q : Nat} {m d p : Int32} {f : Nat → Int32} : (mw M q m d p f).1 (q + 1) = f := by
  funext b; simp [mw]
theorem mw_ro {M : ab_M} {q a : Nat} {m d p : Int32} {f : Nat → Int32} (h : a ≠ q) (h1 : a ≠ q + 1) : (mw M q m d p f).1 a = M.1 a := by
  funext b; simp [mw, h, h1]
theorem mrs_mws {M : ab_M} {q : Nat} {s : mr_T} : mrs (mws M q s) q = s := by
  simp only [mrs, mws, mw_r3, mw_r4, mw_r5, mw_rt]
/-- so many men are looked at -/
def nm_X (M : ab_M) : Nat := min 5 (M.1 8 3).toNatClampNeg
def ld_l (M : ab_M) (p : Int32) (f : Nat → Int32) : Nat → Nat → Int32 → Int32 → Int32
  | 0, _, s, _ => s
  | n + 1, i, s, l => if (p >>> (nI i &&& 31)) &&& 1 = 1 then (if s = -9 then ld_l M p f n (i + 1) (nI i) (sp_X (pc_X M (nI i)) (kd_X M (nI i)) (f i)) else if sp_X (pc_X M (nI i)) (kd_X M (nI i)) (f i) < l then ld_l M p f n (i + 1) (nI i) (sp_X (pc_X M (nI i)) (kd_X M (nI i)) (f i)) else ld_l M p f n (i + 1) s l) else ld_l M p f n (i + 1) s l
def ld_X (M : ab_M) (p : Int32) (f : Nat → Int32) : Int32 := ld_l M p f (nm_X M) 0 (-9) 0
theorem nm_lt {M : ab_M} {i : Nat} (h : i < nm_X M) : nI i < M.1 8 3 ∧ nI i < 5 ∧ i < 5 := by
  have h5 : i < 5 := by unfold nm_X at h; omega
  have hc : i < (M.1 8 3).toNatClampNeg := by unfold nm_X at h; omega
  refine ⟨?_, nI_lt (b := 5) h5 (by omega), h5⟩
  rw [Int32.lt_iff_toInt_lt, nI_toInt (by omega)]
  have : (M.1 8 3).toNatClampNeg = (M.1 8 3).toInt.toNat := rfl
  omega
theorem nm_ge {M : ab_M} {i : Nat} (h : nm_X M ≤ i) (h5 : i ≤ 5) : ¬ nI i < M.1 8 3 ∨ ¬ nI i < 5 := by
  by_cases e : i = 5
  · right; subst e; decide
  · left
    rw [Int32.lt_iff_toInt_lt, nI_toInt (by omega)]
    have : (M.1 8 3).toNatClampNeg = (M.1 8 3).toInt.toNat := rfl
    unfold nm_X at h
    omega
def s_X2_leader : ab_Sem := fun as M Po => match as with
  | [.ref q] => (q = 12 ∨ q = 18 ∨ q = 23) ∧ Po (some (.int (ld_X M (M.1 q 5) (M.1 (q + 1))))) M
  | _ => False
theorem q_X2_leader {q : Nat} {M : ab_M} {Po : ab_P} : s_X2_leader [.ref q] M Po = ((q = 12 ∨ q = 18 ∨ q = 23) ∧ Po (some (.int (ld_X M (M.1 q 5) (M.1 (q + 1))))) M) := rfl
abbrev x_X2_leader : ab_X := (some .int, fl_X2, [(78, 1, s_X7_count), (112, 2, s_X7_paceOf), (118, 2, s_X7_kindOf), (131, 3, s_X8_speedBy)], kl_X2, gs_X2, ab_ros)
theorem ca_X2_leader_39 {v0 : Value} {st : List Value} {M : ab_M} {k : List Value → ab_M → Prop} : ab_ca x_X2_leader (2 * 39) (v0 :: st) M k = (st.length ≤ 4 ∧ s_X7_count [v0] M (fun r M' => k (r.toList ++ st) M')) := rfl
theorem ca_X2_leader_56 {v0 v1 : Value} {st : List Value} {M : ab_M} {k : List Value → ab_M → Prop} : ab_ca x_X2_leader (2 * 56) (v1 :: v0 :: st) M k = (st.length ≤ 4 ∧ s_X7_paceOf [v0, v1] M (fun r M' => k (r.toList ++ st) M')) := rfl
theorem ca_X2_leader_59 {v0 v1 : Value} {st : List Value} {M : ab_M} {k : List Value → ab_M → Prop} : ab_ca x_X2_leader (2 * 59) (v1 :: v0 :: st) M k = (st.length ≤ 4 ∧ s_X7_kindOf [v0, v1] M (fun r M' => k (r.toList ++ st) M')) := rfl
theorem ca_X2_leader_65 {v0 v1 v2 : Value} {st : List Value} {M : ab_M} {k : List Value → ab_M → Prop} : ab_ca x_X2_leader (2 * 65 + 1) (v2 :: v1 :: v0 :: st) M k = (st.length ≤ 4 ∧ s_X8_speedBy [v0, v1, v2] M (fun r M' => k (r.toList ++ st) M')) := rfl
theorem r_X2_leader : ∀ (as : List Value) (M : ab_M) (Po : ab_P), s_X2_leader as M Po → ∃ (q : Nat) (as' : List Value) (ci : Nat) (T : u_T) (N : Nat) (fs : List ab_F), as = .ref q :: as' ∧ ab_sh[q]? = some (.inl (ci, fs)) ∧ vwCl[ci]? = some (yX2_leader.cls, T, N) := by
  intro as M Po h
  unfold s_X2_leader at h
  split at h
  · first | exact ⟨_, _, 2, _, _, _, rfl, rfl, rfl⟩ | (rcases h.1 with rfl | rfl | rfl <;> exact ⟨_, _, 2, _, _, _, rfl, rfl, rfl⟩)
  · exact h.elim
set_option maxRecDepth 20000 in
set_option maxHeartbeats 4000000 in
theorem lp_X2_leader {G : ab_K} {Po : ab_P} (hG : ab_Clo cX2_leader x_X2_leader Po G) {M : ab_M} {q : Nat} (hq : q = 12 ∨ q = 18 ∨ q = 23) : ∀ (j i : Nat) (s l : Int32) (c : Option Value), i + j = nm_X M → Po (some (.int (ld_l M (M.1 q 5) (M.1 (q + 1)) j i s l))) M → G 16 [some (.ref q), some (.int s), some (.int l), some (.int (M.1 8 3)), some (.int (nI i)), c] [] M := by
  intro j
  induction j with
  | zero =>
    intro i s l c hi h
    unfold ld_l at h
    have h5 : i ≤ 5 := by unfold nm_X at hi; omega
    rcases hq with rfl | rfl | rfl
    all_goals
      refine ab_go1 hG [16] 80 _ _ _ _ ?_
      simp (decide := true) only [ew_s, ew_0, Option.toList_some, Option.toList_none, List.cons_append, List.nil_append, true_and, and_true, List.length_cons, List.length_nil, Nat.reduceAdd, Nat.reduceLeDiff, Int32.reduceAdd, Int32.reduceSub, Int32.reduceMul, Int32.reduceLT, Int32.reduceLE, Int32.reduceToNatClampNeg, ↓reduceIte, and_self, si_1, si_2, sl_1, sl_2, false_and, and_false, dX2_leader_0, dX2_leader_2, dX2_leader_3, dX2_leader_4, dX2_leader_5, dX2_leader_6, dX2_leader_9, dX2_leader_12, dX2_leader_13, dX2_leader_14, dX2_leader_16, dX2_leader_18, dX2_leader_19, dX2_leader_22, dX2_leader_24, dX2_leader_25, dX2_leader_28, dX2_leader_29, dX2_leader_32, dX2_leader_33, dX2_leader_36, dX2_leader_38, dX2_leader_39, dX2_leader_40, dX2_leader_41, dX2_leader_42, dX2_leader_45, dX2_leader_46, dX2_leader_49, dX2_leader_51, dX2_leader_54, dX2_leader_55, dX2_leader_58, dX2_leader_60, dX2_leader_63, dX2_leader_64, dX2_leader_67, dX2_leader_69, dX2_leader_70, dX2_leader_73, dX2_leader_75, dX2_leader_76, dX2_leader_78, dX2_leader_81, dX2_leader_83, dX2_leader_84, dX2_leader_87, dX2_leader_89, dX2_leader_90, dX2_leader_92, dX2_leader_93, dX2_leader_96, dX2_leader_99, dX2_leader_100, ca_X2_leader_39, ca_X2_leader_56, ca_X2_leader_59, ca_X2_leader_65, e_alen, e_aload_n0, e_calls, e_callv, e_getfield, e_iaload, e_iand, e_iload4, e_iload5, e_iload_n1, e_iload_n2, e_iload_n3, e_ireturn, e_ishr, e_istore4i, e_istore4n, e_istore4r, e_istore5i, e_istore5n, e_istore5r, e_istore_n1i, e_istore_n1n, e_istore_n1r, e_istore_n2i, e_istore_n2n, e_istore_n2r, e_istore_n3i, e_istore_n3n, e_istore_n3r, ea_13, ea_19, ea_24, el_13, el_19, el_24, gf_X2_15_12, gf_X2_15_18, gf_X2_15_23, gf_X2_23_12, gf_X2_23_18, gf_X2_23_23, gf_X2_9_12, gf_X2_9_18, gf_X2_9_23, j_bp_m9, j_goto_96_m80, j_ic_0, j_ic_1, j_icmp_eq_78_9, j_icmp_ge_19_80, j_icmp_ge_29_70, j_icmp_ge_84_9, j_icmp_ne_42_51, j_ii_4_1, q_X7_count, q_X7_kindOf, q_X7_paceOf, q_X8_speedBy, ab_rn, bi_0, bi_1, ite_not]
      rcases nm_ge (M := M) (i := i) (by omega) h5 with hh | hh
      · rw [if_neg hh]
        exact h
      · simp only [if_neg hh]
        split <;> exact h
  | succ j ih =>
    intro i s l c hi h
    obtain ⟨h1, h2, h5⟩ := nm_lt (M := M) (i := i) (by omega)
    unfold ld_l at h
    have hc : (nI i).toNatClampNeg = i := nI_clamp (by omega)
    have hb : 0 ≤ nI i ∧ nI i < 5 := ⟨nI_pos' (by omega), h2⟩
    rcases hq with rfl | rfl | rfl
    all_goals
      simp only [Nat.reduceAdd] at h ih
      refine ab_go1 hG [16] 80 _ _ _ _ ?_
      simp (decide := true) only [ew_s, ew_0, Option.toList_some, Option.toList_none, List.cons_append, List.nil_append, true_and, and_true, List.length_cons, List.length_nil, Nat.reduceAdd, Nat.reduceLeDiff, Int32.reduceAdd, Int32.reduceSub, Int32.reduceMul, Int32.reduceLT, Int32.reduceLE, Int32.reduceToNatClampNeg, ↓reduceIte, and_self, si_1, si_2, sl_1, sl_2, false_and, and_false, dX2_leader_0, dX2_leader_2, dX2_leader_3, dX2_leader_4, dX2_leader_5, dX2_leader_6, dX2_leader_9, dX2_leader_12, dX2_leader_13, dX2_leader_14, dX2_leader_16, dX2_leader_18, dX2_leader_19, dX2_leader_22, dX2_leader_24, dX2_leader_25, dX2_leader_28, dX2_leader_29, dX2_leader_32, dX2_leader_33, dX2_leader_36, dX2_leader_38, dX2_leader_39, dX2_leader_40, dX2_leader_41, dX2_leader_42, dX2_leader_45, dX2_leader_46, dX2_leader_49, dX2_leader_51, dX2_leader_54, dX2_leader_55, dX2_leader_58, dX2_leader_60, dX2_leader_63, dX2_leader_64, dX2_leader_67, dX2_leader_69, dX2_leader_70, dX2_leader_73, dX2_leader_75, dX2_leader_76, dX2_leader_78, dX2_leader_81, dX2_leader_83, dX2_leader_84, dX2_leader_87, dX2_leader_89, dX2_leader_90, dX2_leader_92, dX2_leader_93, dX2_leader_96, dX2_leader_99, dX2_leader_100, ca_X2_leader_39, ca_X2_leader_56, ca_X2_leader_59, ca_X2_leader_65, e_alen, e_aload_n0, e_calls, e_callv, e_getfield, e_iaload, e_iand, e_iload4, e_iload5, e_iload_n1, e_iload_n2, e_iload_n3, e_ireturn, e_ishr, e_istore4i, e_istore4n, e_istore4r, e_istore5i, e_istore5n, e_istore5r, e_istore_n1i, e_istore_n1n, e_istore_n1r, e_istore_n2i, e_istore_n2n, e_istore_n2r, e_istore_n3i, e_istore_n3n, e_istore_n3r, ea_13, ea_19, ea_24, el_13, el_19, el_24, gf_X2_15_12, gf_X2_15_18, gf_X2_15_23, gf_X2_23_12, gf_X2_23_18, gf_X2_23_23, gf_X2_9_12, gf_X2_9_18, gf_X2_9_23, j_bp_m9, j_goto_96_m80, j_ic_0, j_ic_1, j_icmp_eq_78_9, j_icmp_ge_19_80, j_icmp_ge_29_70, j_icmp_ge_84_9, j_icmp_ne_42_51, j_ii_4_1, q_X7_count, q_X7_kindOf, q_X7_paceOf, q_X8_speedBy, ab_rn, bi_0, bi_1, ite_not]
      rw [if_pos h1, if_pos h2]
      simp only [hc, nI_1]
      split
      · rename_i hp
        rw [if_pos hp] at h
        refine ⟨hb, ?_⟩
        split
        · rename_i hs
          rw [if_pos hs] at h
          exact ih (i + 1) _ _ _ (by omega) h
        · rename_i hs
          rw [if_neg hs] at h
          split
          · rename_i hv
            rw [if_pos hv] at h
            exact ih (i + 1) _ _ _ (by omega) h
          · rename_i hv
            rw [if_neg hv] at h
            exact ih (i + 1) _ _ _ (by omega) h
      · rename_i hp
        rw [if_neg hp] at h
        exact ih (i + 1) _ _ _ (by omega) h
set_option maxRecDepth 20000 in
set_option maxHeartbeats 4000000 in
theorem c_X2_leader {l : Launch} : ab_ctr l yX2_leader cX2_leader 6 (some .int) 1 24 s_X2_leader := by
  refine ab_met x_X2_leader (by decide) rfl fo_X2 ko_X2 so_X2 rfl (ab_cs_cons (ab_kV c_X7_count ml_X2_39 v_X7_count ⟨rfl, rfl⟩ r_X7_count) (ab_cs_cons (ab_kV c_X7_paceOf ml_X2_56 v_X7_paceOf ⟨rfl, rfl⟩ r_X7_paceOf) (ab_cs_cons (ab_kV c_X7_kindOf ml_X2_59 v_X7_kindOf ⟨rfl, rfl⟩ r_X7_kindOf) (ab_cs_cons (ab_kN c_X8_speedBy ml_X2_65 v_X8_speedBy ⟨rfl, rfl⟩) ab_cs_nil)))) ?_ ?_
  · intro as M Po h
    unfold s_X2_leader at h
    split at h
    · simp [ab_e0]
    · exact h.elim
  · intro as M Po h G hG
    unfold s_X2_leader at h
    split at h
    · simp only [ab_en, ab_e0, List.length_cons, List.length_nil, Nat.reduceAdd, Nat.reduceSub, List.replicate, List.cons_append, List.nil_append]
      obtain ⟨hq, h⟩ := h
      have hq2 := hq
      rcases hq with rfl | rfl | rfl
      all_goals
        refine ab_go hG [16] 80 _ _ _ _ ?_
        simp (decide := true) only [ew_s, ew_0, Option.toList_some, Option.toList_none, List.cons_append, List.nil_append, true_and, and_true, List.length_cons, List.length_nil, Nat.reduceAdd, Nat.reduceLeDiff, Int32.reduceAdd, Int32.reduceSub, Int32.reduceMul, Int32.reduceLT, Int32.reduceLE, Int32.reduceToNatClampNeg, ↓reduceIte, and_self, si_1, si_2, sl_1, sl_2, false_and, and_false, dX2_leader_0, dX2_leader_2, dX2_leader_3, dX2_leader_4, dX2_leader_5, dX2_leader_6, dX2_leader_9, dX2_leader_12, dX2_leader_13, dX2_leader_14, dX2_leader_16, dX2_leader_18, dX2_leader_19, dX2_leader_22, dX2_leader_24, dX2_leader_25, dX2_leader_28, dX2_leader_29, dX2_leader_32, dX2_leader_33, dX2_leader_36, dX2_leader_38, dX2_leader_39, dX2_leader_40, dX2_leader_41, dX2_leader_42, dX2_leader_45, dX2_leader_46, dX2_leader_49, dX2_leader_51, dX2_leader_54, dX2_leader_55, dX2_leader_58, dX2_leader_60, dX2_leader_63, dX2_leader_64, dX2_leader_67, dX2_leader_69, dX2_leader_70, dX2_leader_73, dX2_leader_75, dX2_leader_76, dX2_leader_78, dX2_leader_81, dX2_leader_83, dX2_leader_84, dX2_leader_87, dX2_leader_89, dX2_leader_90, dX2_leader_92, dX2_leader_93, dX2_leader_96, dX2_leader_99, dX2_leader_100, ca_X2_leader_39, ca_X2_leader_56, ca_X2_leader_59, ca_X2_leader_65, e_alen, e_aload_n0, e_calls, e_callv, e_getfield, e_iaload, e_iand, e_iload4, e_iload5, e_iload_n1, e_iload_n2, e_iload_n3, e_ireturn, e_ishr, e_istore4i, e_istore4n, e_istore4r, e_istore5i, e_istore5n, e_istore5r, e_istore_n1i, e_istore_n1n, e_istore_n1r, e_istore_n2i, e_istore_n2n, e_istore_n2r, e_istore_n3i, e_istore_n3n, e_istore_n3r, ea_13, ea_19, ea_24, el_13, el_19, el_24, gf_X2_15_12, gf_X2_15_18, gf_X2_15_23, gf_X2_23_12, gf_X2_23_18, gf_X2_23_23, gf_X2_9_12, gf_X2_9_18, gf_X2_9_23, j_bp_m9, j_goto_96_m80, j_ic_0, j_ic_1, j_icmp_eq_78_9, j_icmp_ge_19_80, j_icmp_ge_29_70, j_icmp_ge_84_9, j_icmp_ne_42_51, j_ii_4_1, q_X7_count, q_X7_kindOf, q_X7_paceOf, q_X8_speedBy, ab_rn, bi_0, bi_1, ite_not]
        exact lp_X2_leader hG hq2 _ 0 _ _ _ (by omega) h
    · exact h.elim

def s_X2_leaderSpeed : ab_Sem := fun as M Po => match as with
  | [.ref q] => (q = 12 ∨ q = 18 ∨ q = 23) ∧ Po (some (.int (if ld_X M (M.1 q 5) (M.1 (q + 1)) = -9 then 0 else sp_X (pc_X M (ld_X M (M.1 q 5) (M.1 (q + 1)))) (kd_X M (ld_X M (M.1 q 5) (M.1 (q + 1)))) (th_X M q (ld_X M (M.1 q 5) (M.1 (q + 1))))))) M
  | _ => False
theorem q_X2_leaderSpeed {q : Nat} {M : ab_M} {Po : ab_P} : s_X2_leaderSpeed [.ref q] M Po = ((q = 12 ∨ q = 18 ∨ q = 23) ∧ Po (some (.int (if ld_X M (M.1 q 5) (M.1 (q + 1)) = -9 then 0 else sp_X (pc_X M (ld_X M (M.1 q 5) (M.1 (q + 1)))) (kd_X M (ld_X M (M.1 q 5) (M.1 (q + 1)))) (th_X M q (ld_X M (M.1 q 5) (M.1 (q + 1))))))) M) := rfl
abbrev x_X2_leaderSpeed : ab_X := (some .int, fl_X2, [(138, 1, s_X2_leader), (144, 2, s_X2_speedOf)], kl_X2, gs_X2, ab_ros)
theorem ca_X2_leaderSpeed_69 {v0 : Value} {st : List Value} {M : ab_M} {k : List Value → ab_M → Prop} : ab_ca x_X2_leaderSpeed (2 * 69) (v0 :: st) M k = (st.length ≤ 4 ∧ s_X2_leader [v0] M (fun r M' => k (r.toList ++ st) M')) := rfl
theorem ca_X2_leaderSpeed_72 {v0 v1 : Value} {st : List Value} {M : ab_M} {k : List Value → ab_M → Prop} : ab_ca x_X2_leaderSpeed (2 * 72) (v1 :: v0 :: st) M k = (st.length ≤ 4 ∧ s_X2_speedOf [v0, v1] M (fun r M' => k (r.toList ++ st) M')) := rfl
theorem r_X2_leaderSpeed : ∀ (as : List Value) (M : ab_M) (Po : ab_P), s_X2_leaderSpeed as M Po → ∃ (q : Nat) (as' : List Value) (ci : Nat) (T : u_T) (N : Nat) (fs : List ab_F), as = .ref q :: as' ∧ ab_sh[q]? = some (.inl (ci, fs)) ∧ vwCl[ci]? = some (yX2_leaderSpeed.cls, T, N) := by
  intro as M Po h
  unfold s_X2_leaderSpeed at h
  split at h
  · first | exact ⟨_, _, 2, _, _, _, rfl, rfl, rfl⟩ | (rcases h.1 with rfl | rfl | rfl <;> exact ⟨_, _, 2, _, _, _, rfl, rfl, rfl⟩)
  · exact h.elim
set_option maxRecDepth 20000 in
set_option maxHeartbeats 4000000 in
theorem c_X2_leaderSpeed {l : Launch} : ab_ctr l yX2_leaderSpeed cX2_leaderSpeed 2 (some .int) 2 49 s_X2_leaderSpeed := by
  refine ab_met x_X2_leaderSpeed (by decide) rfl fo_X2 ko_X2 so_X2 rfl (ab_cs_cons (ab_kV c_X2_leader ml_X2_69 v_X2_leader ⟨rfl, rfl⟩ r_X2_leader) (ab_cs_cons (ab_kV c_X2_speedOf ml_X2_72 v_X2_speedOf ⟨rfl, rfl⟩ r_X2_speedOf) ab_cs_nil)) ?_ ?_
  · intro as M Po h
    unfold s_X2_leaderSpeed at h
    split at h
    · simp [ab_e0]
    · exact h.elim
  · intro as M Po h G hG
    unfold s_X2_leaderSpeed at h
    split at h
    · simp only [ab_en, ab_e0, List.length_cons, List.length_nil, Nat.reduceAdd, Nat.reduceSub, List.replicate, List.cons_append, List.nil_append]
      obtain ⟨hq, h⟩ := h
      (try simp only [Nat.reduceAdd] at h)
      rcases hq with rfl | rfl | rfl <;> (try simp only [Nat.reduceAdd] at h)
      all_goals refine ab_go hG [] 60 _ _ _ _ ?_
      all_goals simp (decide := true) only [ew_n, ew_0, Option.toList_some, Option.toList_none, List.cons_append, List.nil_append, true_and, and_true, List.length_cons, List.length_nil, Nat.reduceAdd, Nat.reduceLeDiff, Int32.reduceAdd, Int32.reduceSub, Int32.reduceMul, Int32.reduceLT, Int32.reduceLE, Int32.reduceToNatClampNeg, ↓reduceIte, and_self, si_1, si_2, sl_1, sl_2, false_and, and_false, dX2_leaderSpeed_0, dX2_leaderSpeed_1, dX2_leaderSpeed_4, dX2_leaderSpeed_5, dX2_leaderSpeed_6, dX2_leaderSpeed_8, dX2_leaderSpeed_11, dX2_leaderSpeed_12, dX2_leaderSpeed_15, dX2_leaderSpeed_16, dX2_leaderSpeed_17, dX2_leaderSpeed_20, ca_X2_leaderSpeed_69, ca_X2_leaderSpeed_72, e_aload_n0, e_callv, e_iload_n1, e_ireturn, e_istore_n1i, e_istore_n1n, e_istore_n1r, j_bp_m9, j_goto_12_8, j_ic_0, j_icmp_ne_8_7, q_X2_leader, q_X2_speedOf, ab_rn, bi_0, bi_1, ite_not]
      all_goals
        (repeat' split) <;> (try simp (decide := true) only [i0_le, *, not_false_eq_true, not_true_eq_false, and_self, true_and, and_true, or_false, false_or, or_true, true_or, false_and, and_false, not_and, ↓reduceIte] at h) <;> (try simp (decide := true) only [i0_le, *, not_false_eq_true, not_true_eq_false, and_self, true_and, and_true, or_false, false_or, or_true, true_or, false_and, and_false, not_and, ↓reduceIte]) <;> first | done | exact h | (exfalso; simp_all (decide := true) only [not_true_eq_false, not_false_eq_true, false_and, and_false, true_and, and_true]; done)
    · exact h.elim

/-- every man but the old ones has a thorn less, as far as the k-th -/
def he_k (M : ab_M) (f : Nat → Int32) (k : Nat) : Nat → Int32 := fun i => if i < k ∧ 0 < f i ∧ ¬ kd_X M (nI i) = 3 then f i - 1 else f i
def he_X (M : ab_M) (f : Nat → Int32) : Nat → Int32 := he_k M f 5
theorem he_0 (M : ab_M) (f : Nat → Int32) : he_k M f 0 = f := by
  funext i; simp [he_k]
theorem he_at (M : ab_M) (f : Nat → Int32) (k : Nat) : he_k M f k k = f k := by simp [he_k]
theorem he_s (M : ab_M) (f : Nat → Int32) (k : Nat) : he_k M f (k + 1) = if 0 < f k ∧ ¬ kd_X M (nI k) = 3 then up_f (he_k M f k) k (f k - 1) else he_k M f k := by
  funext i
  by_cases e : i = k
  · subst e
    split <;> rename_i h <;> simp [he_k, up_f, h]
  · have : (i < k + 1) = (i < k) := by
      apply propext; omega
    split <;> simp [he_k, up_f, e, this]
def wt (M : ab_M) (p : Nat) (f : Nat → Int32) : ab_M := (fun a b => if a = p then f b else M.1 a b, M.2)
theorem wt_id {M : ab_M} {p : Nat} : wt M p (M.1 p) = M := by
  refine Prod.ext (funext fun a => funext fun b => ?_) rfl
  simp only [wt]
  split
  · rename_i h; rw [h]
  · rfl
theorem wt_s {M : ab_M} {p k : Nat} {f : Nat → Int32} {x : Int32} : ab_si (wt M p f) p k x = wt M p (up_f f k x) := by
  refine Prod.ext (funext fun a => funext fun b => ?_) rfl
  simp only [wt, ab_si, up_f]
  by_cases ha : a = p <;> by_cases hb : b = k <;> simp [ha, hb]
theorem wt_r {M : ab_M} {p : Nat} {f : Nat → Int32} : (wt M p f).1 p = f := by funext b; simp [wt]
theorem wt_o {M : ab_M} {p a : Nat} {f : Nat → Int32} (h : a ≠ p) : (wt M p f).1 a = M.1 a := by funext b; simp [wt, h]
theorem wt_1 {M : ab_M} {p a b : Nat} {f : Nat → Int32} : (wt M p f).1 a b = if a = p then f b else M.1 a b := rfl
theorem wt_2 {M : ab_M} {p : Nat} {f : Nat → Int32} : (wt M p f).2 = M.2 := rfl
theorem kd_wt {M : ab_M} {p : Nat} {f : Nat → Int32} {x : Int32} (h : p = 13 ∨ p = 19 ∨ p = 24) : kd_X (wt M p f) x = kd_X M x := by
  rcases h with rfl | rfl | rfl <;> rfl
def s_X2_healAll : ab_Sem := fun as M Po => match as with
  | [.ref q] => (q = 12 ∨ q = 18 ∨ q = 23) ∧ Po none (wt M (q + 1) (he_X M (M.1 (q + 1))))
  | _ => False
theorem q_X2_healAll {q : Nat} {M : ab_M} {Po : ab_P} : s_X2_healAll [.ref q] M Po = ((q = 12 ∨ q = 18 ∨ q = 23) ∧ Po none (wt M (q + 1) (he_X M (M.1 (q + 1))))) := rfl
abbrev x_X2_healAll : ab_X := (none, fl_X2, [(118, 2, s_X7_kindOf)], kl_X2, gs_X2, ab_ros)
theorem ca_X2_healAll_59 {v0 v1 : Value} {st : List Value} {M : ab_M} {k : List Value → ab_M → Prop} : ab_ca x_X2_healAll (2 * 59) (v1 :: v0 :: st) M k = (st.length ≤ 4 ∧ s_X7_kindOf [v0, v1] M (fun r M' => k (r.toList ++ st) M')) := rfl
theorem r_X2_healAll : ∀ (as : List Value) (M : ab_M) (Po : ab_P), s_X2_healAll as M Po → ∃ (q : Nat) (as' : List Value) (ci : Nat) (T : u_T) (N : Nat) (fs : List ab_F), as = .ref q :: as' ∧ ab_sh[q]? = some (.inl (ci, fs)) ∧ vwCl[ci]? = some (yX2_healAll.cls, T, N) := by
  intro as M Po h
  unfold s_X2_healAll at h
  split at h
  · first | exact ⟨_, _, 2, _, _, _, rfl, rfl, rfl⟩ | (rcases h.1 with rfl | rfl | rfl <;> exact ⟨_, _, 2, _, _, _, rfl, rfl, rfl⟩)
  · exact h.elim
set_option maxRecDepth 20000 in
set_option maxHeartbeats 4000000 in
theorem lp_X2_healAll {G : ab_K} {Po : ab_P} (hG : ab_Clo cX2_healAll x_X2_healAll Po G) {M : ab_M} {q : Nat} (hq : q = 12 ∨ q = 18 ∨ q = 23) (h : Po none (wt M (q + 1) (he_X M (M.1 (q + 1))))) : ∀ (j i : Nat), i + j = 5 → G 2 [some (.ref q), some (.int (nI i))] [] (wt M (q + 1) (he_k M (M.1 (q + 1)) i)) := by
  intro j
  induction j with
  | zero =>
    intro i hi
    have e : i = 5 := by omega
    subst e
    rcases hq with rfl | rfl | rfl
    all_goals
      refine ab_go1 hG [2] 80 _ _ _ _ ?_
      simp (decide := true) only [ew_s, ew_0, Option.toList_some, Option.toList_none, List.cons_append, List.nil_append, true_and, and_true, List.length_cons, List.length_nil, Nat.reduceAdd, Nat.reduceLeDiff, Int32.reduceAdd, Int32.reduceSub, Int32.reduceMul, Int32.reduceLT, Int32.reduceLE, Int32.reduceToNatClampNeg, ↓reduceIte, and_self, si_1, si_2, sl_1, sl_2, false_and, and_false, dX2_healAll_0, dX2_healAll_1, dX2_healAll_2, dX2_healAll_3, dX2_healAll_4, dX2_healAll_7, dX2_healAll_8, dX2_healAll_11, dX2_healAll_12, dX2_healAll_15, dX2_healAll_16, dX2_healAll_17, dX2_healAll_20, dX2_healAll_21, dX2_healAll_24, dX2_healAll_25, dX2_healAll_28, dX2_healAll_29, dX2_healAll_32, dX2_healAll_33, dX2_healAll_36, dX2_healAll_37, dX2_healAll_38, dX2_healAll_39, dX2_healAll_40, dX2_healAll_41, dX2_healAll_42, dX2_healAll_45, dX2_healAll_48, ca_X2_healAll_59, e_alen, e_aload_n0, e_callv, e_dup2, e_getfield, e_iaload, e_iastore, e_iload_n1, e_istore_n1i, e_istore_n1n, e_istore_n1r, e_isub, e_return, ea_13, ea_19, ea_24, el_13, el_19, el_24, es_13, es_19, es_24, gf_X2_23_12, gf_X2_23_18, gf_X2_23_23, gf_X2_9_12, gf_X2_9_18, gf_X2_9_23, j_goto_45_m43, j_ic_0, j_ic_1, j_ic_3, j_icmp_eq_29_13, j_icmp_ge_8_40, j_if_le_17_25, j_ii_1_1, q_X7_kindOf, ab_rn, bi_0, bi_1, ite_not]
      exact h
  | succ j ih =>
    intro i hi
    have h2 : nI i < 5 := nI_lt (b := 5) (by omega) (by omega)
    have hc : (nI i).toNatClampNeg = i := nI_clamp (by omega)
    have hb : 0 ≤ nI i ∧ nI i < 5 := ⟨nI_pos' (by omega), h2⟩
    have hkd : ∀ f, kd_X (wt M (q + 1) f) (nI i) = kd_X M (nI i) := fun f => kd_wt (by omega)
    have hs := he_s M (M.1 (q + 1)) i
    have ih1 := ih (i + 1) (by omega)
    rw [hs] at ih1
    rcases hq with rfl | rfl | rfl
    all_goals
      simp only [Nat.reduceAdd] at ih1 hkd
      refine ab_go1 hG [2] 80 _ _ _ _ ?_
      simp (decide := true) only [ew_s, ew_0, Option.toList_some, Option.toList_none, List.cons_append, List.nil_append, true_and, and_true, List.length_cons, List.length_nil, Nat.reduceAdd, Nat.reduceLeDiff, Int32.reduceAdd, Int32.reduceSub, Int32.reduceMul, Int32.reduceLT, Int32.reduceLE, Int32.reduceToNatClampNeg, ↓reduceIte, and_self, si_1, si_2, sl_1, sl_2, false_and, and_false, dX2_healAll_0, dX2_healAll_1, dX2_healAll_2, dX2_healAll_3, dX2_healAll_4, dX2_healAll_7, dX2_healAll_8, dX2_healAll_11, dX2_healAll_12, dX2_healAll_15, dX2_healAll_16, dX2_healAll_17, dX2_healAll_20, dX2_healAll_21, dX2_healAll_24, dX2_healAll_25, dX2_healAll_28, dX2_healAll_29, dX2_healAll_32, dX2_healAll_33, dX2_healAll_36, dX2_healAll_37, dX2_healAll_38, dX2_healAll_39, dX2_healAll_40, dX2_healAll_41, dX2_healAll_42, dX2_healAll_45, dX2_healAll_48, ca_X2_healAll_59, e_alen, e_aload_n0, e_callv, e_dup2, e_getfield, e_iaload, e_iastore, e_iload_n1, e_istore_n1i, e_istore_n1n, e_istore_n1r, e_isub, e_return, ea_13, ea_19, ea_24, el_13, el_19, el_24, es_13, es_19, es_24, gf_X2_23_12, gf_X2_23_18, gf_X2_23_23, gf_X2_9_12, gf_X2_9_18, gf_X2_9_23, j_goto_45_m43, j_ic_0, j_ic_1, j_ic_3, j_icmp_eq_29_13, j_icmp_ge_8_40, j_if_le_17_25, j_ii_1_1, q_X7_kindOf, ab_rn, bi_0, bi_1, ite_not]
      rw [if_pos h2]
      simp only [hc, nI_1, hkd, wt_1, ↓reduceIte, he_at, wt_s]
      refine ⟨hb, ?_⟩
      split
      · rename_i h3
        split
        · rename_i h4
          rw [if_neg (fun hh => hh.2 h4)] at ih1
          exact ih1
        · rename_i h4
          rw [if_pos ⟨h3, h4⟩] at ih1
          exact ⟨hb, hb, ih1⟩
      · rename_i h3
        rw [if_neg (fun hh => h3 hh.1)] at ih1
        exact ih1
set_option maxRecDepth 20000 in
set_option maxHeartbeats 4000000 in
theorem c_X2_healAll {l : Launch} : ab_ctr l yX2_healAll cX2_healAll 2 none 1 21 s_X2_healAll := by
  refine ab_met x_X2_healAll (by decide) rfl fo_X2 ko_X2 so_X2 rfl (ab_cs_cons (ab_kV c_X7_kindOf ml_X2_59 v_X7_kindOf ⟨rfl, rfl⟩ r_X7_kindOf) ab_cs_nil) ?_ ?_
  · intro as M Po h
    unfold s_X2_healAll at h
    split at h
    · simp [ab_e0]
    · exact h.elim
  · intro as M Po h G hG
    unfold s_X2_healAll at h
    split at h
    · simp only [ab_en, ab_e0, List.length_cons, List.length_nil, Nat.reduceAdd, Nat.reduceSub, List.replicate, List.cons_append, List.nil_append]
      obtain ⟨hq, h⟩ := h
      have hq2 := hq
      have key := lp_X2_healAll hG hq2 h 5 0 (by omega)
      rw [he_0, wt_id] at key
      rcases hq with rfl | rfl | rfl
      all_goals
        refine ab_go hG [2] 80 _ _ _ _ ?_
        simp (decide := true) only [ew_s, ew_0, Option.toList_some, Option.toList_none, List.cons_append, List.nil_append, true_and, and_true, List.length_cons, List.length_nil, Nat.reduceAdd, Nat.reduceLeDiff, Int32.reduceAdd, Int32.reduceSub, Int32.reduceMul, Int32.reduceLT, Int32.reduceLE, Int32.reduceToNatClampNeg, ↓reduceIte, and_self, si_1, si_2, sl_1, sl_2, false_and, and_false, dX2_healAll_0, dX2_healAll_1, dX2_healAll_2, dX2_healAll_3, dX2_healAll_4, dX2_healAll_7, dX2_healAll_8, dX2_healAll_11, dX2_healAll_12, dX2_healAll_15, dX2_healAll_16, dX2_healAll_17, dX2_healAll_20, dX2_healAll_21, dX2_healAll_24, dX2_healAll_25, dX2_healAll_28, dX2_healAll_29, dX2_healAll_32, dX2_healAll_33, dX2_healAll_36, dX2_healAll_37, dX2_healAll_38, dX2_healAll_39, dX2_healAll_40, dX2_healAll_41, dX2_healAll_42, dX2_healAll_45, dX2_healAll_48, ca_X2_healAll_59, e_alen, e_aload_n0, e_callv, e_dup2, e_getfield, e_iaload, e_iastore, e_iload_n1, e_istore_n1i, e_istore_n1n, e_istore_n1r, e_isub, e_return, ea_13, ea_19, ea_24, el_13, el_19, el_24, es_13, es_19, es_24, gf_X2_23_12, gf_X2_23_18, gf_X2_23_23, gf_X2_9_12, gf_X2_9_18, gf_X2_9_23, j_goto_45_m43, j_ic_0, j_ic_1, j_ic_3, j_icmp_eq_29_13, j_icmp_ge_8_40, j_if_le_17_25, j_ii_1_1, q_X7_kindOf, ab_rn, bi_0, bi_1, ite_not]
        exact key
    · exact h.elim

