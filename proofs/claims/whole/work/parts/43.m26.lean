/-! METHODS: the model, reading -/
theorem xI_add (a b : Nat) : nI a + nI b = nI (a + b) := (Int32.ofNat_add a b).symm
theorem xI_mul (a b : Nat) : nI a * nI b = nI (a * b) := (Int32.ofNat_mul a b).symm
theorem xI_p1 (p : Nat) : nI (p + 1) - 1 = nI p := by
  rw [← nI_1, Int32.add_sub_cancel]
theorem cI {i b : Nat} (h : i < b) (hb : b < 2 ^ 31) : (nI i).toNatClampNeg = i ∧ (0 ≤ nI i ∧ nI i < nI b) :=
  ⟨nI_clamp (by omega), Int32.le_iff_toInt_le.mpr (by rw [nI_toInt (by omega)]; exact Int.natCast_nonneg i), nI_lt h hb⟩
def lw_M (a : Int64) : Nat → Int64
  | 0 => 1
  | n + 1 => lw_M a n * a
def s_X9_longPower : ab_Sem := fun as M Po => match as with
  | [.long a, .int t] => ¬ t < 0 ∧ Po (some (.long (lw_M a t.toNatClampNeg))) M
  | _ => False
theorem q_X9_longPower {a : Int64} {t : Int32} {M : ab_M} {Po : ab_P} : s_X9_longPower [.long a, .int t] M Po = (¬ t < 0 ∧ Po (some (.long (lw_M a t.toNatClampNeg))) M) := rfl
abbrev x_X9_longPower : ab_X := (some .long, fl_X9, [], kl_X9, gs_X9, ab_ros)
set_option maxRecDepth 20000 in
set_option maxHeartbeats 4000000 in
theorem lp_X9_longPower {G : ab_K} {Po : ab_P} (hG : ab_Clo cX9_longPower x_X9_longPower Po G) {a : Int64} {M : ab_M} (n : Nat) (hn : n < 2 ^ 31) (h : Po (some (.long (lw_M a n))) M) : ∀ j i : Nat, i + j = n → G 5 [some (.long a), none, some (.int (nI n)), some (.long (lw_M a i)), none, some (.int (nI i))] [] M := by
  intro j
  induction j with
  | zero =>
    intro i hi
    have e : i = n := by omega
    subst e
    refine ab_go1 hG [5] 80 _ _ _ _ ?_
    simp (decide := true) only [ew_s, ew_0, Option.toList_some, Option.toList_none, List.cons_append, List.nil_append, true_and, and_true, List.length_cons, List.length_nil, Nat.reduceAdd, Nat.reduceLeDiff, Int32.reduceAdd, Int32.reduceSub, Int32.reduceMul, Int32.reduceLT, Int32.reduceLE, Int32.reduceToNatClampNeg, ↓reduceIte, and_self, si_1, si_2, sl_1, sl_2, false_and, and_false, dX9_longPower_0, dX9_longPower_1, dX9_longPower_2, dX9_longPower_3, dX9_longPower_5, dX9_longPower_7, dX9_longPower_8, dX9_longPower_11, dX9_longPower_12, dX9_longPower_13, dX9_longPower_14, dX9_longPower_15, dX9_longPower_18, dX9_longPower_21, dX9_longPower_22, e_iload5, e_iload_n2, e_istore5i, e_istore5n, e_istore5r, e_lconst1, e_lload_n0, e_lload_n3, e_lmul, e_lreturn, e_lstore3ii, e_lstore3il, e_lstore3in, e_lstore3ir, e_lstore3ni, e_lstore3nl, e_lstore3nn, e_lstore3nr, e_lstore3ri, e_lstore3rl, e_lstore3rn, e_lstore3rr, j_goto_18_m13, j_ic_0, j_icmp_ge_8_13, j_ii_5_1, ab_rn, bi_0, bi_1, ite_not]
    rw [if_neg (nI_nlt (Nat.le_refl i) hn)]
    exact h
  | succ j ih =>
    intro i hi
    refine ab_go1 hG [5] 80 _ _ _ _ ?_
    simp (decide := true) only [ew_s, ew_0, Option.toList_some, Option.toList_none, List.cons_append, List.nil_append, true_and, and_true, List.length_cons, List.length_nil, Nat.reduceAdd, Nat.reduceLeDiff, Int32.reduceAdd, Int32.reduceSub, Int32.reduceMul, Int32.reduceLT, Int32.reduceLE, Int32.reduceToNatClampNeg, ↓reduceIte, and_self, si_1, si_2, sl_1, sl_2, false_and, and_false, dX9_longPower_0, dX9_longPower_1, dX9_longPower_2, dX9_longPower_3, dX9_longPower_5, dX9_longPower_7, dX9_longPower_8, dX9_longPower_11, dX9_longPower_12, dX9_longPower_13, dX9_longPower_14, dX9_longPower_15, dX9_longPower_18, dX9_longPower_21, dX9_longPower_22, e_iload5, e_iload_n2, e_istore5i, e_istore5n, e_istore5r, e_lconst1, e_lload_n0, e_lload_n3, e_lmul, e_lreturn, e_lstore3ii, e_lstore3il, e_lstore3in, e_lstore3ir, e_lstore3ni, e_lstore3nl, e_lstore3nn, e_lstore3nr, e_lstore3ri, e_lstore3rl, e_lstore3rn, e_lstore3rr, j_goto_18_m13, j_ic_0, j_icmp_ge_8_13, j_ii_5_1, ab_rn, bi_0, bi_1, ite_not]
    rw [if_pos (nI_lt (by omega) hn), nI_1]
    exact ih (i + 1) (by omega)
set_option maxRecDepth 20000 in
set_option maxHeartbeats 4000000 in
theorem c_X9_longPower {l : Launch} : ab_ctr l yX9_longPower cX9_longPower 6 (some .long) 0 0 s_X9_longPower := by
  refine ab_met x_X9_longPower (by decide) rfl fo_X9 ko_X9 so_X9 rfl ab_cs_nil ?_ ?_
  · intro as M Po h
    unfold s_X9_longPower at h
    split at h
    · simp [ab_e0]
    · exact h.elim
  · intro as M Po h G hG
    unfold s_X9_longPower at h
    split at h
    · simp only [ab_en, ab_e0, List.length_cons, List.length_nil, Nat.reduceAdd, Nat.reduceSub, List.replicate, List.cons_append, List.nil_append]
      rename_i a t
      obtain ⟨ht, h⟩ := h
      obtain ⟨n, hn, rfl⟩ := nI_of ht
      rw [nI_clamp hn] at h
      have key := lp_X9_longPower hG n hn h n 0 (by omega)
      refine ab_go hG [5] 80 _ _ _ _ ?_
      simp (decide := true) only [ew_s, ew_0, Option.toList_some, Option.toList_none, List.cons_append, List.nil_append, true_and, and_true, List.length_cons, List.length_nil, Nat.reduceAdd, Nat.reduceLeDiff, Int32.reduceAdd, Int32.reduceSub, Int32.reduceMul, Int32.reduceLT, Int32.reduceLE, Int32.reduceToNatClampNeg, ↓reduceIte, and_self, si_1, si_2, sl_1, sl_2, false_and, and_false, dX9_longPower_0, dX9_longPower_1, dX9_longPower_2, dX9_longPower_3, dX9_longPower_5, dX9_longPower_7, dX9_longPower_8, dX9_longPower_11, dX9_longPower_12, dX9_longPower_13, dX9_longPower_14, dX9_longPower_15, dX9_longPower_18, dX9_longPower_21, dX9_longPower_22, e_iload5, e_iload_n2, e_istore5i, e_istore5n, e_istore5r, e_lconst1, e_lload_n0, e_lload_n3, e_lmul, e_lreturn, e_lstore3ii, e_lstore3il, e_lstore3in, e_lstore3ir, e_lstore3ni, e_lstore3nl, e_lstore3nn, e_lstore3nr, e_lstore3ri, e_lstore3rl, e_lstore3rn, e_lstore3rr, j_goto_18_m13, j_ic_0, j_icmp_ge_8_13, j_ii_5_1, ab_rn, bi_0, bi_1, ite_not]
      exact key
    · exact h.elim

/-- the book with its first page left out, as far as k; with a page laid at a, as far as k -/
def bs_k (g : Nat → Int32) (k : Nat) : Nat → Int32 := fun i => if i < k then g (i + 7) else g i
def bw_k (g : Nat → Int32) (a : Nat) (P : Nat → Int32) (k : Nat) : Nat → Int32 := fun i => if 7 * a ≤ i ∧ i < 7 * a + k then P (i - 7 * a) else g i
theorem bs_0 (g : Nat → Int32) : bs_k g 0 = g := by funext i; simp [bs_k]
theorem bs_at (g : Nat → Int32) (k : Nat) : bs_k g k (k + 7) = g (k + 7) := by
  have h : ¬ k + 7 < k := by omega
  simp only [bs_k, if_neg h]
theorem bs_s (g : Nat → Int32) (k : Nat) : up_f (bs_k g k) k (g (k + 7)) = bs_k g (k + 1) := by
  funext i
  simp only [up_f, bs_k]
  by_cases h : i = k
  · subst h
    rw [if_pos rfl, if_pos (by omega)]
  · rw [if_neg h]
    by_cases h2 : i < k
    · rw [if_pos h2, if_pos (by omega)]
    · rw [if_neg h2, if_neg (by omega)]
theorem bw_0 (g : Nat → Int32) (a : Nat) (P : Nat → Int32) : bw_k g a P 0 = g := by
  funext i
  have h : ¬ (7 * a ≤ i ∧ i < 7 * a + 0) := by omega
  simp only [bw_k, if_neg h]
theorem bw_s (g : Nat → Int32) (a : Nat) (P : Nat → Int32) (k : Nat) : up_f (bw_k g a P k) (7 * a + k) (P k) = bw_k g a P (k + 1) := by
  funext i
  simp only [up_f, bw_k]
  by_cases h : i = 7 * a + k
  · subst h
    rw [if_pos rfl, if_pos (by omega), Nat.add_sub_cancel_left]
  · rw [if_neg h]
    by_cases h2 : 7 * a ≤ i ∧ i < 7 * a + k
    · rw [if_pos h2, if_pos (by omega)]
    · rw [if_neg h2, if_neg (by omega)]
theorem i7_eq {a i : Nat} : 7 * nI a + nI i = nI (7 * a + i) := by
  rw [show (7 : Int32) = nI 7 from rfl, xI_mul, xI_add]
theorem n41_30 {M : ab_M} {g : Nat → Int32} {b : Nat} : (wt M 41 g).1 30 b = M.1 30 b := rfl
theorem n41_38 {M : ab_M} {g : Nat → Int32} {b : Nat} : (wt M 41 g).1 38 b = M.1 38 b := rfl
theorem n41_41 {M : ab_M} {g : Nat → Int32} {b : Nat} : (wt M 41 g).1 41 b = g b := rfl
def nt_M (M : ab_M) (a : Nat) : ab_M := if a = 14 then ab_si (wt (ab_si (wt M 41 (bs_k (M.1 41) 91)) 30 19 13) 41 (bw_k (bs_k (M.1 41) 91) 13 (M.1 38) 7)) 30 19 14 else ab_si (wt M 41 (bw_k (M.1 41) a (M.1 38) 7)) 30 19 (nI (a + 1))
def s_X9_note : ab_Sem := fun as M Po => match as with
  | [.ref 30] => ∃ a : Nat, a ≤ 14 ∧ M.1 30 19 = nI a ∧ Po none (nt_M M a)
  | _ => False
theorem q_X9_note {M : ab_M} {Po : ab_P} : s_X9_note [.ref 30] M Po = (∃ a : Nat, a ≤ 14 ∧ M.1 30 19 = nI a ∧ Po none (nt_M M a)) := rfl
abbrev x_X9_note : ab_X := (none, fl_X9, [], kl_X9, gs_X9, ab_ros)
theorem r_X9_note : ∀ (as : List Value) (M : ab_M) (Po : ab_P), s_X9_note as M Po → ∃ (q : Nat) (as' : List Value) (ci : Nat) (T : u_T) (N : Nat) (fs : List ab_F), as = .ref q :: as' ∧ ab_sh[q]? = some (.inl (ci, fs)) ∧ vwCl[ci]? = some (yX9_note.cls, T, N) := by
  intro as M Po h
  unfold s_X9_note at h
  split at h
  · first | exact ⟨_, _, 9, _, _, _, rfl, rfl, rfl⟩ | (rcases h.1 with rfl | rfl | rfl <;> exact ⟨_, _, 9, _, _, _, rfl, rfl, rfl⟩)
  · exact h.elim
set_option maxRecDepth 20000 in
set_option maxHeartbeats 4000000 in
theorem lB_X9_note {G : ab_K} {Po : ab_P} (hG : ab_Clo cX9_note x_X9_note Po G) {M : ab_M} {a : Nat} {g : Nat → Int32} (ha : a < 14) (hm : M.1 30 19 = nI a) (h : Po none (ab_si (wt M 41 (bw_k g a (M.1 38) 7)) 30 19 (nI (a + 1)))) : ∀ j i : Nat, i + j = 7 → G 50 [some (.ref 30), some (.int (nI i))] [] (wt M 41 (bw_k g a (M.1 38) i)) := by
  intro j
  induction j with
  | zero =>
    intro i hi
    have e : i = 7 := by omega
    subst e
    refine ab_go1 hG [50] 80 _ _ _ _ ?_
    simp (decide := true) only [ew_s, ew_0, Option.toList_some, Option.toList_none, List.cons_append, List.nil_append, true_and, and_true, List.length_cons, List.length_nil, Nat.reduceAdd, Nat.reduceLeDiff, Int32.reduceAdd, Int32.reduceSub, Int32.reduceMul, Int32.reduceLT, Int32.reduceLE, Int32.reduceToNatClampNeg, ↓reduceIte, and_self, si_1, si_2, sl_1, sl_2, false_and, and_false, dX9_note_0, dX9_note_1, dX9_note_4, dX9_note_6, dX9_note_9, dX9_note_10, dX9_note_11, dX9_note_12, dX9_note_14, dX9_note_17, dX9_note_18, dX9_note_21, dX9_note_22, dX9_note_23, dX9_note_26, dX9_note_27, dX9_note_29, dX9_note_30, dX9_note_31, dX9_note_32, dX9_note_35, dX9_note_38, dX9_note_39, dX9_note_40, dX9_note_43, dX9_note_44, dX9_note_45, dX9_note_48, dX9_note_49, dX9_note_50, dX9_note_51, dX9_note_53, dX9_note_56, dX9_note_57, dX9_note_60, dX9_note_62, dX9_note_63, dX9_note_66, dX9_note_67, dX9_note_68, dX9_note_69, dX9_note_70, dX9_note_73, dX9_note_74, dX9_note_75, dX9_note_76, dX9_note_79, dX9_note_82, dX9_note_83, dX9_note_84, dX9_note_87, dX9_note_88, dX9_note_89, dX9_note_92, e_aload_n0, e_dupi, e_dupr, e_getfield, e_iadd, e_iaload, e_iastore, e_iload_n1, e_imul, e_istore_n1i, e_istore_n1n, e_istore_n1r, e_isub, e_putfield, e_return, ea_38, ea_41, es_38, es_41, gf_X9_114_30, gf_X9_31_30, gf_X9_40_30, j_bp_14, j_bp_7, j_bp_91, j_goto_35_m24, j_goto_79_m29, j_ic_0, j_ic_1, j_icmp_ge_14_24, j_icmp_ge_53_29, j_icmp_ne_6_42, j_ii_1_1, pf_X9_114_30, n41_30, n41_38, n41_41, hm, nI_1, ab_rn, bi_0, bi_1, ite_not]
    exact h
  | succ j ih =>
    intro i hi
    obtain ⟨e1, e2⟩ := cI (i := i) (b := 7) (by omega) (by omega)
    obtain ⟨e3, e4⟩ := cI (i := 7 * a + i) (b := 98) (by omega) (by omega)
    have ih1 := ih (i + 1) (by omega)
    rw [← bw_s] at ih1
    refine ab_go1 hG [50] 80 _ _ _ _ ?_
    simp (decide := true) only [ew_s, ew_0, Option.toList_some, Option.toList_none, List.cons_append, List.nil_append, true_and, and_true, List.length_cons, List.length_nil, Nat.reduceAdd, Nat.reduceLeDiff, Int32.reduceAdd, Int32.reduceSub, Int32.reduceMul, Int32.reduceLT, Int32.reduceLE, Int32.reduceToNatClampNeg, ↓reduceIte, and_self, si_1, si_2, sl_1, sl_2, false_and, and_false, dX9_note_0, dX9_note_1, dX9_note_4, dX9_note_6, dX9_note_9, dX9_note_10, dX9_note_11, dX9_note_12, dX9_note_14, dX9_note_17, dX9_note_18, dX9_note_21, dX9_note_22, dX9_note_23, dX9_note_26, dX9_note_27, dX9_note_29, dX9_note_30, dX9_note_31, dX9_note_32, dX9_note_35, dX9_note_38, dX9_note_39, dX9_note_40, dX9_note_43, dX9_note_44, dX9_note_45, dX9_note_48, dX9_note_49, dX9_note_50, dX9_note_51, dX9_note_53, dX9_note_56, dX9_note_57, dX9_note_60, dX9_note_62, dX9_note_63, dX9_note_66, dX9_note_67, dX9_note_68, dX9_note_69, dX9_note_70, dX9_note_73, dX9_note_74, dX9_note_75, dX9_note_76, dX9_note_79, dX9_note_82, dX9_note_83, dX9_note_84, dX9_note_87, dX9_note_88, dX9_note_89, dX9_note_92, e_aload_n0, e_dupi, e_dupr, e_getfield, e_iadd, e_iaload, e_iastore, e_iload_n1, e_imul, e_istore_n1i, e_istore_n1n, e_istore_n1r, e_isub, e_putfield, e_return, ea_38, ea_41, es_38, es_41, gf_X9_114_30, gf_X9_31_30, gf_X9_40_30, j_bp_14, j_bp_7, j_bp_91, j_goto_35_m24, j_goto_79_m29, j_ic_0, j_ic_1, j_icmp_ge_14_24, j_icmp_ge_53_29, j_icmp_ne_6_42, j_ii_1_1, pf_X9_114_30, n41_30, n41_38, n41_41, hm, i7_eq, e1, e3, wt_s, ab_rn, bi_0, bi_1, ite_not]
    rw [if_pos (show nI i < 7 from nI_lt (b := 7) (by omega) (by omega)), nI_1]
    exact ⟨e2, e4, ih1⟩
set_option maxRecDepth 20000 in
set_option maxHeartbeats 4000000 in
theorem lA_X9_note {G : ab_K} {Po : ab_P} (hG : ab_Clo cX9_note x_X9_note Po G) {M : ab_M} (hm : M.1 30 19 = 14) (h : Po none (ab_si (wt (ab_si (wt M 41 (bs_k (M.1 41) 91)) 30 19 13) 41 (bw_k (bs_k (M.1 41) 91) 13 (M.1 38) 7)) 30 19 14)) : ∀ j i : Nat, i + j = 91 → G 11 [some (.ref 30), some (.int (nI i))] [] (wt M 41 (bs_k (M.1 41) i)) := by
  intro j
  induction j with
  | zero =>
    intro i hi
    have e : i = 91 := by omega
    subst e
    have key := lB_X9_note hG (M := ab_si (wt M 41 (bs_k (M.1 41) 91)) 30 19 13) (a := 13) (g := bs_k (M.1 41) 91) (by omega) rfl h 7 0 (by omega)
    rw [bw_0, show wt (ab_si (wt M 41 (bs_k (M.1 41) 91)) 30 19 13) 41 (bs_k (M.1 41) 91) = ab_si (wt M 41 (bs_k (M.1 41) 91)) 30 19 13 from wt_id (M := ab_si (wt M 41 (bs_k (M.1 41) 91)) 30 19 13) (p := 41)] at key
    refine ab_go1 hG [11, 50] 80 _ _ _ _ ?_
    simp (decide := true) only [ew_s, ew_0, Option.toList_some, Option.toList_none, List.cons_append, List.nil_append, true_and, and_true, List.length_cons, List.length_nil, Nat.reduceAdd, Nat.reduceLeDiff, Int32.reduceAdd, Int32.reduceSub, Int32.reduceMul, Int32.reduceLT, Int32.reduceLE, Int32.reduceToNatClampNeg, ↓reduceIte, and_self, si_1, si_2, sl_1, sl_2, false_and, and_false, dX9_note_0, dX9_note_1, dX9_note_4, dX9_note_6, dX9_note_9, dX9_note_10, dX9_note_11, dX9_note_12, dX9_note_14, dX9_note_17, dX9_note_18, dX9_note_21, dX9_note_22, dX9_note_23, dX9_note_26, dX9_note_27, dX9_note_29, dX9_note_30, dX9_note_31, dX9_note_32, dX9_note_35, dX9_note_38, dX9_note_39, dX9_note_40, dX9_note_43, dX9_note_44, dX9_note_45, dX9_note_48, dX9_note_49, dX9_note_50, dX9_note_51, dX9_note_53, dX9_note_56, dX9_note_57, dX9_note_60, dX9_note_62, dX9_note_63, dX9_note_66, dX9_note_67, dX9_note_68, dX9_note_69, dX9_note_70, dX9_note_73, dX9_note_74, dX9_note_75, dX9_note_76, dX9_note_79, dX9_note_82, dX9_note_83, dX9_note_84, dX9_note_87, dX9_note_88, dX9_note_89, dX9_note_92, e_aload_n0, e_dupi, e_dupr, e_getfield, e_iadd, e_iaload, e_iastore, e_iload_n1, e_imul, e_istore_n1i, e_istore_n1n, e_istore_n1r, e_isub, e_putfield, e_return, ea_38, ea_41, es_38, es_41, gf_X9_114_30, gf_X9_31_30, gf_X9_40_30, j_bp_14, j_bp_7, j_bp_91, j_goto_35_m24, j_goto_79_m29, j_ic_0, j_ic_1, j_icmp_ge_14_24, j_icmp_ge_53_29, j_icmp_ne_6_42, j_ii_1_1, pf_X9_114_30, n41_30, n41_38, n41_41, hm, ab_rn, bi_0, bi_1, ite_not]
    exact key
  | succ j ih =>
    intro i hi
    obtain ⟨e1, e2⟩ := cI (i := i) (b := 98) (by omega) (by omega)
    obtain ⟨e3, e4⟩ := cI (i := i + 7) (b := 98) (by omega) (by omega)
    have e5 : nI i + 7 = nI (i + 7) := xI_add i 7
    have ih1 := ih (i + 1) (by omega)
    rw [← bs_s] at ih1
    refine ab_go1 hG [11, 50] 80 _ _ _ _ ?_
    simp (decide := true) only [ew_s, ew_0, Option.toList_some, Option.toList_none, List.cons_append, List.nil_append, true_and, and_true, List.length_cons, List.length_nil, Nat.reduceAdd, Nat.reduceLeDiff, Int32.reduceAdd, Int32.reduceSub, Int32.reduceMul, Int32.reduceLT, Int32.reduceLE, Int32.reduceToNatClampNeg, ↓reduceIte, and_self, si_1, si_2, sl_1, sl_2, false_and, and_false, dX9_note_0, dX9_note_1, dX9_note_4, dX9_note_6, dX9_note_9, dX9_note_10, dX9_note_11, dX9_note_12, dX9_note_14, dX9_note_17, dX9_note_18, dX9_note_21, dX9_note_22, dX9_note_23, dX9_note_26, dX9_note_27, dX9_note_29, dX9_note_30, dX9_note_31, dX9_note_32, dX9_note_35, dX9_note_38, dX9_note_39, dX9_note_40, dX9_note_43, dX9_note_44, dX9_note_45, dX9_note_48, dX9_note_49, dX9_note_50, dX9_note_51, dX9_note_53, dX9_note_56, dX9_note_57, dX9_note_60, dX9_note_62, dX9_note_63, dX9_note_66, dX9_note_67, dX9_note_68, dX9_note_69, dX9_note_70, dX9_note_73, dX9_note_74, dX9_note_75, dX9_note_76, dX9_note_79, dX9_note_82, dX9_note_83, dX9_note_84, dX9_note_87, dX9_note_88, dX9_note_89, dX9_note_92, e_aload_n0, e_dupi, e_dupr, e_getfield, e_iadd, e_iaload, e_iastore, e_iload_n1, e_imul, e_istore_n1i, e_istore_n1n, e_istore_n1r, e_isub, e_putfield, e_return, ea_38, ea_41, es_38, es_41, gf_X9_114_30, gf_X9_31_30, gf_X9_40_30, j_bp_14, j_bp_7, j_bp_91, j_goto_35_m24, j_goto_79_m29, j_ic_0, j_ic_1, j_icmp_ge_14_24, j_icmp_ge_53_29, j_icmp_ne_6_42, j_ii_1_1, pf_X9_114_30, n41_30, n41_38, n41_41, hm, e1, e5, e3, wt_s, bs_at, ab_rn, bi_0, bi_1, ite_not]
    rw [if_pos (show nI i < 91 from nI_lt (b := 91) (by omega) (by omega)), nI_1]
    exact ⟨e4, e2, ih1⟩
set_option maxRecDepth 20000 in
set_option maxHeartbeats 4000000 in
theorem c_X9_note {l : Launch} : ab_ctr l yX9_note cX9_note 2 none 0 0 s_X9_note := by
  refine ab_met x_X9_note (by decide) rfl fo_X9 ko_X9 so_X9 rfl ab_cs_nil ?_ ?_
  · intro as M Po h
    unfold s_X9_note at h
    split at h
    · simp [ab_e0]
    · exact h.elim
  · intro as M Po h G hG
    unfold s_X9_note at h
    split at h
    · simp only [ab_en, ab_e0, List.length_cons, List.length_nil, Nat.reduceAdd, Nat.reduceSub, List.replicate, List.cons_append, List.nil_append]
      obtain ⟨a, ha, hm, h⟩ := h
      unfold nt_M at h
      by_cases h1 : a = 14
      · rw [if_pos h1] at h
        subst h1
        have key := lA_X9_note hG hm h 91 0 (by omega)
        rw [bs_0, wt_id] at key
        refine ab_go hG [11, 50] 80 _ _ _ _ ?_
        simp (decide := true) only [ew_s, ew_0, Option.toList_some, Option.toList_none, List.cons_append, List.nil_append, true_and, and_true, List.length_cons, List.length_nil, Nat.reduceAdd, Nat.reduceLeDiff, Int32.reduceAdd, Int32.reduceSub, Int32.reduceMul, Int32.reduceLT, Int32.reduceLE, Int32.reduceToNatClampNeg, ↓reduceIte, and_self, si_1, si_2, sl_1, sl_2, false_and, and_false, dX9_note_0, dX9_note_1, dX9_note_4, dX9_note_6, dX9_note_9, dX9_note_10, dX9_note_11, dX9_note_12, dX9_note_14, dX9_note_17, dX9_note_18, dX9_note_21, dX9_note_22, dX9_note_23, dX9_note_26, dX9_note_27, dX9_note_29, dX9_note_30, dX9_note_31, dX9_note_32, dX9_note_35, dX9_note_38, dX9_note_39, dX9_note_40, dX9_note_43, dX9_note_44, dX9_note_45, dX9_note_48, dX9_note_49, dX9_note_50, dX9_note_51, dX9_note_53, dX9_note_56, dX9_note_57, dX9_note_60, dX9_note_62, dX9_note_63, dX9_note_66, dX9_note_67, dX9_note_68, dX9_note_69, dX9_note_70, dX9_note_73, dX9_note_74, dX9_note_75, dX9_note_76, dX9_note_79, dX9_note_82, dX9_note_83, dX9_note_84, dX9_note_87, dX9_note_88, dX9_note_89, dX9_note_92, e_aload_n0, e_dupi, e_dupr, e_getfield, e_iadd, e_iaload, e_iastore, e_iload_n1, e_imul, e_istore_n1i, e_istore_n1n, e_istore_n1r, e_isub, e_putfield, e_return, ea_38, ea_41, es_38, es_41, gf_X9_114_30, gf_X9_31_30, gf_X9_40_30, j_bp_14, j_bp_7, j_bp_91, j_goto_35_m24, j_goto_79_m29, j_ic_0, j_ic_1, j_icmp_ge_14_24, j_icmp_ge_53_29, j_icmp_ne_6_42, j_ii_1_1, pf_X9_114_30, hm, ab_rn, bi_0, bi_1, ite_not]
        exact key
      · rw [if_neg h1] at h
        have key := lB_X9_note hG (by omega) hm h 7 0 (by omega)
        rw [bw_0, wt_id] at key
        have hne : ¬ nI a = 14 := fun h2 => h1 (by have h3 := congrArg Int32.toNatClampNeg h2; rw [nI_clamp (by omega)] at h3; exact h3)
        refine ab_go hG [11, 50] 80 _ _ _ _ ?_
        simp (decide := true) only [ew_s, ew_0, Option.toList_some, Option.toList_none, List.cons_append, List.nil_append, true_and, and_true, List.length_cons, List.length_nil, Nat.reduceAdd, Nat.reduceLeDiff, Int32.reduceAdd, Int32.reduceSub, Int32.reduceMul, Int32.reduceLT, Int32.reduceLE, Int32.reduceToNatClampNeg, ↓reduceIte, and_self, si_1, si_2, sl_1, sl_2, false_and, and_false, dX9_note_0, dX9_note_1, dX9_note_4, dX9_note_6, dX9_note_9, dX9_note_10, dX9_note_11, dX9_note_12, dX9_note_14, dX9_note_17, dX9_note_18, dX9_note_21, dX9_note_22, dX9_note_23, dX9_note_26, dX9_note_27, dX9_note_29, dX9_note_30, dX9_note_31, dX9_note_32, dX9_note_35, dX9_note_38, dX9_note_39, dX9_note_40, dX9_note_43, dX9_note_44, dX9_note_45, dX9_note_48, dX9_note_49, dX9_note_50, dX9_note_51, dX9_note_53, dX9_note_56, dX9_note_57, dX9_note_60, dX9_note_62, dX9_note_63, dX9_note_66, dX9_note_67, dX9_note_68, dX9_note_69, dX9_note_70, dX9_note_73, dX9_note_74, dX9_note_75, dX9_note_76, dX9_note_79, dX9_note_82, dX9_note_83, dX9_note_84, dX9_note_87, dX9_note_88, dX9_note_89, dX9_note_92, e_aload_n0, e_dupi, e_dupr, e_getfield, e_iadd, e_iaload, e_iastore, e_iload_n1, e_imul, e_istore_n1i, e_istore_n1n, e_istore_n1r, e_isub, e_putfield, e_return, ea_38, ea_41, es_38, es_41, gf_X9_114_30, gf_X9_31_30, gf_X9_40_30, j_bp_14, j_bp_7, j_bp_91, j_goto_35_m24, j_goto_79_m29, j_ic_0, j_ic_1, j_icmp_ge_14_24, j_icmp_ge_53_29, j_icmp_ne_6_42, j_ii_1_1, pf_X9_114_30, hm, hne, ab_rn, bi_0, bi_1, ite_not]
        exact key
    · exact h.elim

