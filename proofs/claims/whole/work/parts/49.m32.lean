/-! METHODS: the model, the plan -/
theorem pw_N (b : Nat) : ∀ k : Nat, pw_X (nI b) k = nI (b ^ k)
  | 0 => rfl
  | k + 1 => by rw [pw_X, pw_N b k, xI_mul, Nat.pow_succ]
/-- the figure of a man, in a way of pulling -/
def d4 (n b i : Nat) : Nat := b / 4 ^ (n - 1 - i) % 4
/-- so many men are left; the page as it is, how many are pulled, the figures, the page behind it -/
def pl_M (A : Nat → Int32) (n b : Nat) : Nat → Nat → Int32 → Int32 → (Nat → Int32) → Int32 × Int32 × (Nat → Int32)
  | 0, _, s, w, P => (s, w, P)
  | j + 1, i, s, w, P => if A (2 + i) < nI (d4 n b i) then (-9, w, P) else pl_M A n b j (i + 1) (s + nI (d4 n b i)) (10 * w + nI (d4 n b i)) (up_f P (2 + i) (P (2 + i) - nI (d4 n b i)))
theorem pl_e7 {A : Nat → Int32} {n b : Nat} (hn : n ≤ 5) : ∀ (j i : Nat) (s w : Int32) {P Q : Nat → Int32}, i + j = n → e7 P Q → (pl_M A n b j i s w P).1 = (pl_M A n b j i s w Q).1 ∧ (pl_M A n b j i s w P).2.1 = (pl_M A n b j i s w Q).2.1 ∧ e7 (pl_M A n b j i s w P).2.2 (pl_M A n b j i s w Q).2.2
  | 0, _, _, _, _, _, _, h => ⟨rfl, rfl, h⟩
  | j + 1, i, s, w, P, Q, hi, h => by
    unfold pl_M
    split
    · exact ⟨rfl, rfl, h⟩
    · exact pl_e7 hn j (i + 1) _ _ (by omega) (e7_up2 h (by omega) _)
theorem p4_lt {n i : Nat} (hn : n ≤ 5) : 4 ^ (n - 1 - i) < 2 ^ 31 ∧ 0 < 4 ^ (n - 1 - i) := by
  have h1 : n - 1 - i ≤ 4 := by omega
  have h2 : 4 ^ (n - 1 - i) ≤ 4 ^ 4 := Nat.pow_le_pow_right (by omega) h1
  exact ⟨by omega, Nat.pow_pos (by omega)⟩
theorem p4_0 {n : Nat} {i : Nat} (hn : n ≤ 5) (hi : i < n) : pw_X 4 (nI n - 1 - nI i).toNatClampNeg = nI (4 ^ (n - 1 - i)) ∧ ¬ nI (4 ^ (n - 1 - i)) = 0 := by
  obtain ⟨h1, h2⟩ := p4_lt (i := i) hn
  have e : nI n - 1 - nI i = nI (n - 1 - i) := by
    rw [show (1 : Int32) = nI 1 from rfl, pk_sub (by omega), pk_sub (by omega)]
  refine ⟨?_, nI_ne0 h2 h1⟩
  rw [e, nI_clamp (by omega)]
  exact pw_N 4 _
theorem p4_d {n b i : Nat} (hn : n ≤ 5) (hb : b < 2 ^ 31) : nI b / nI (4 ^ (n - 1 - i)) - nI b / nI (4 ^ (n - 1 - i)) / 4 * 4 = nI (d4 n b i) := by
  obtain ⟨h1, h2⟩ := p4_lt (i := i) hn
  rw [pk_div hb h2 h1]
  exact pk_rem (d := 4) (by have := Nat.div_le_self b (4 ^ (n - 1 - i)); omega) (by omega) (by omega)
def s_X9_pulls : ab_Sem := fun as M Po => match as with
  | [.ref 30, .int x] => ∃ n s b : Nat, ct_M M n s ∧ b < 2 ^ 31 ∧ x = nI b ∧ Po (some (.int (pl_M (M.1 38) n b n 0 0 0 (cp7 (M.1 38) (M.1 39))).1)) (wt (ab_si M 30 28 (pl_M (M.1 38) n b n 0 0 0 (cp7 (M.1 38) (M.1 39))).2.1) 39 (pl_M (M.1 38) n b n 0 0 0 (cp7 (M.1 38) (M.1 39))).2.2)
  | _ => False
theorem q_X9_pulls {x : Int32} {M : ab_M} {Po : ab_P} : s_X9_pulls [.ref 30, .int x] M Po = (∃ n s b : Nat, ct_M M n s ∧ b < 2 ^ 31 ∧ x = nI b ∧ Po (some (.int (pl_M (M.1 38) n b n 0 0 0 (cp7 (M.1 38) (M.1 39))).1)) (wt (ab_si M 30 28 (pl_M (M.1 38) n b n 0 0 0 (cp7 (M.1 38) (M.1 39))).2.1) 39 (pl_M (M.1 38) n b n 0 0 0 (cp7 (M.1 38) (M.1 39))).2.2)) := rfl
abbrev x_X9_pulls : ab_X := (some .int, fl_X9, [(338, 1, s_X9_begin), (371, 2, s_X9_power)], kl_X9, gs_X9, ab_ros)
theorem ca_X9_pulls_169 {v0 : Value} {st : List Value} {M : ab_M} {k : List Value → ab_M → Prop} : ab_ca x_X9_pulls (2 * 169) (v0 :: st) M k = (st.length ≤ 4 ∧ s_X9_begin [v0] M (fun r M' => k (r.toList ++ st) M')) := rfl
theorem ca_X9_pulls_185 {v0 v1 : Value} {st : List Value} {M : ab_M} {k : List Value → ab_M → Prop} : ab_ca x_X9_pulls (2 * 185 + 1) (v1 :: v0 :: st) M k = (st.length ≤ 4 ∧ s_X9_power [v0, v1] M (fun r M' => k (r.toList ++ st) M')) := rfl
theorem r_X9_pulls : ∀ (as : List Value) (M : ab_M) (Po : ab_P), s_X9_pulls as M Po → ∃ (q : Nat) (as' : List Value) (ci : Nat) (T : u_T) (N : Nat) (fs : List ab_F), as = .ref q :: as' ∧ ab_sh[q]? = some (.inl (ci, fs)) ∧ vwCl[ci]? = some (yX9_pulls.cls, T, N) := by
  intro as M Po h
  unfold s_X9_pulls at h
  split at h
  · first | exact ⟨_, _, 9, _, _, _, rfl, rfl, rfl⟩ | (rcases h.1 with rfl | rfl | rfl <;> exact ⟨_, _, 9, _, _, _, rfl, rfl, rfl⟩)
  · exact h.elim
theorem uu28 {z : Nat → Int32} {x y : Int32} : up_f (up_f z 28 x) 28 y = up_f z 28 y := by
  funext i
  simp only [up_f]
  split <;> rfl
set_option maxRecDepth 20000 in
set_option maxHeartbeats 4000000 in
theorem lq_X9_pulls {G : ab_K} {Po : ab_P} (hG : ab_Clo cX9_pulls x_X9_pulls Po G) {N : ab_M} {n s b : Nat} {h p q : Nat → Int32} (hc : ct_M N n s) (hb : b < 2 ^ 31) {z0 : Nat → Int32} : ∀ (j i : Nat) (sm w : Int32) (g : Nat → Int32) (c4 : Option Value), i + j = n → Po (some (.int (pl_M (N.1 38) n b j i sm w g).1)) (jw N (up_f z0 28 (pl_M (N.1 38) n b j i sm w g).2.1) (pl_M (N.1 38) n b j i sm w g).2.2 h p q) → G 13 [some (.ref 30), some (.int (nI b)), some (.int sm), some (.int (nI i)), c4] [] (jw N (up_f z0 28 w) g h p q) := by
  have hm := hc.2.1
  have hn := hc.1
  intro j
  induction j with
  | zero =>
    intro i sm w g c4 hi hh
    have e : i = n := by omega
    subst e
    unfold pl_M at hh
    refine ab_go1 hG [13] 80 _ _ _ _ ?_
    simp (decide := true) only [ew_s, ew_0, Option.toList_some, Option.toList_none, List.cons_append, List.nil_append, true_and, and_true, List.length_cons, List.length_nil, Nat.reduceAdd, Nat.reduceLeDiff, Int32.reduceAdd, Int32.reduceSub, Int32.reduceMul, Int32.reduceLT, Int32.reduceLE, Int32.reduceToNatClampNeg, ↓reduceIte, and_self, si_1, si_2, sl_1, sl_2, false_and, and_false, dX9_pulls_0, dX9_pulls_1, dX9_pulls_4, dX9_pulls_5, dX9_pulls_6, dX9_pulls_7, dX9_pulls_8, dX9_pulls_11, dX9_pulls_12, dX9_pulls_13, dX9_pulls_14, dX9_pulls_15, dX9_pulls_18, dX9_pulls_21, dX9_pulls_22, dX9_pulls_23, dX9_pulls_24, dX9_pulls_27, dX9_pulls_28, dX9_pulls_29, dX9_pulls_30, dX9_pulls_31, dX9_pulls_34, dX9_pulls_35, dX9_pulls_36, dX9_pulls_37, dX9_pulls_39, dX9_pulls_41, dX9_pulls_42, dX9_pulls_45, dX9_pulls_46, dX9_pulls_47, dX9_pulls_48, dX9_pulls_49, dX9_pulls_52, dX9_pulls_54, dX9_pulls_55, dX9_pulls_56, dX9_pulls_59, dX9_pulls_60, dX9_pulls_61, dX9_pulls_62, dX9_pulls_63, dX9_pulls_64, dX9_pulls_66, dX9_pulls_67, dX9_pulls_68, dX9_pulls_69, dX9_pulls_71, dX9_pulls_72, dX9_pulls_73, dX9_pulls_74, dX9_pulls_76, dX9_pulls_77, dX9_pulls_80, dX9_pulls_81, dX9_pulls_83, dX9_pulls_84, dX9_pulls_87, dX9_pulls_90, dX9_pulls_93, dX9_pulls_94, ca_X9_pulls_169, ca_X9_pulls_185, e_aload_n0, e_calls, e_callv, e_dup2, e_getfield, e_iadd, e_iaload, e_iastore, e_idiv, e_iload4, e_iload_n1, e_iload_n2, e_iload_n3, e_imul, e_irem, e_ireturn, e_istore4i, e_istore4n, e_istore4r, e_istore_n2i, e_istore_n2n, e_istore_n2r, e_istore_n3i, e_istore_n3n, e_istore_n3r, e_isub, e_putfield, ea_38, ea_39, ea_40, es_38, es_39, es_40, gf_X9_182_30, gf_X9_31_30, gf_X9_34_30, gf_X9_69_30, j_bp_10, j_bp_m9, j_goto_90_m77, j_ic_0, j_ic_1, j_ic_2, j_ic_4, j_icmp_ge_18_75, j_icmp_le_49_6, j_ii_3_1, pf_X9_182_30, q_X9_power, jw_30_0, jw_30_2, jw_30_4, jw_30_7, jw_30_10, jw_30_19, jw_30_22, jw_30_27, jw_30_28, jw_30_29, jw_30_30, jw_30_31, jw_30_32, jw_30_35, jw_32, jw_32f, jw_33, jw_33f, jw_34, jw_34f, jw_35, jw_35f, jw_38, jw_38f, jw_41, jw_41f, jw_42, jw_42f, jw_43, jw_43f, jw_44, jw_44f, jw_45, jw_45f, jw_46, jw_46f, jw_39, jw_39f, jw_s39, jw_w39, jw_40, jw_40f, jw_s40, jw_w40, jw_47, jw_47f, jw_s47, jw_w47, jw_48, jw_48f, jw_s48, jw_w48, jw_z27, jw_z28, jw_z29, jw_z30, jw_z31, jw_z32, jw_z35, jw_l, uz_27_27, uz_27_28, uz_27_29, uz_27_30, uz_27_31, uz_27_32, uz_27_35, uz_28_27, uz_28_28, uz_28_29, uz_28_30, uz_28_31, uz_28_32, uz_28_35, uz_29_27, uz_29_28, uz_29_29, uz_29_30, uz_29_31, uz_29_32, uz_29_35, uz_30_27, uz_30_28, uz_30_29, uz_30_30, uz_30_31, uz_30_32, uz_30_35, uz_31_27, uz_31_28, uz_31_29, uz_31_30, uz_31_31, uz_31_32, uz_31_35, uz_32_27, uz_32_28, uz_32_29, uz_32_30, uz_32_31, uz_32_32, uz_32_35, uz_35_27, uz_35_28, uz_35_29, uz_35_30, uz_35_31, uz_35_32, uz_35_35, hm, ab_rn, bi_0, bi_1, ite_not]
    rw [if_neg (nI_nlt (Nat.le_refl i) (by omega))]
    exact hh
  | succ j ih =>
    intro i sm w g c4 hi hh
    obtain ⟨e1, e2, e3, e4⟩ := c_2i (i := i) (by omega)
    obtain ⟨p0, p1⟩ := p4_0 (i := i) hn (by omega)
    have p2 := p4_d (n := n) (i := i) hn hb
    unfold pl_M at hh
    refine ab_go1 hG [13] 80 _ _ _ _ ?_
    simp (decide := true) only [ew_s, ew_0, Option.toList_some, Option.toList_none, List.cons_append, List.nil_append, true_and, and_true, List.length_cons, List.length_nil, Nat.reduceAdd, Nat.reduceLeDiff, Int32.reduceAdd, Int32.reduceSub, Int32.reduceMul, Int32.reduceLT, Int32.reduceLE, Int32.reduceToNatClampNeg, ↓reduceIte, and_self, si_1, si_2, sl_1, sl_2, false_and, and_false, dX9_pulls_0, dX9_pulls_1, dX9_pulls_4, dX9_pulls_5, dX9_pulls_6, dX9_pulls_7, dX9_pulls_8, dX9_pulls_11, dX9_pulls_12, dX9_pulls_13, dX9_pulls_14, dX9_pulls_15, dX9_pulls_18, dX9_pulls_21, dX9_pulls_22, dX9_pulls_23, dX9_pulls_24, dX9_pulls_27, dX9_pulls_28, dX9_pulls_29, dX9_pulls_30, dX9_pulls_31, dX9_pulls_34, dX9_pulls_35, dX9_pulls_36, dX9_pulls_37, dX9_pulls_39, dX9_pulls_41, dX9_pulls_42, dX9_pulls_45, dX9_pulls_46, dX9_pulls_47, dX9_pulls_48, dX9_pulls_49, dX9_pulls_52, dX9_pulls_54, dX9_pulls_55, dX9_pulls_56, dX9_pulls_59, dX9_pulls_60, dX9_pulls_61, dX9_pulls_62, dX9_pulls_63, dX9_pulls_64, dX9_pulls_66, dX9_pulls_67, dX9_pulls_68, dX9_pulls_69, dX9_pulls_71, dX9_pulls_72, dX9_pulls_73, dX9_pulls_74, dX9_pulls_76, dX9_pulls_77, dX9_pulls_80, dX9_pulls_81, dX9_pulls_83, dX9_pulls_84, dX9_pulls_87, dX9_pulls_90, dX9_pulls_93, dX9_pulls_94, ca_X9_pulls_169, ca_X9_pulls_185, e_aload_n0, e_calls, e_callv, e_dup2, e_getfield, e_iadd, e_iaload, e_iastore, e_idiv, e_iload4, e_iload_n1, e_iload_n2, e_iload_n3, e_imul, e_irem, e_ireturn, e_istore4i, e_istore4n, e_istore4r, e_istore_n2i, e_istore_n2n, e_istore_n2r, e_istore_n3i, e_istore_n3n, e_istore_n3r, e_isub, e_putfield, ea_38, ea_39, ea_40, es_38, es_39, es_40, gf_X9_182_30, gf_X9_31_30, gf_X9_34_30, gf_X9_69_30, j_bp_10, j_bp_m9, j_goto_90_m77, j_ic_0, j_ic_1, j_ic_2, j_ic_4, j_icmp_ge_18_75, j_icmp_le_49_6, j_ii_3_1, pf_X9_182_30, q_X9_power, jw_30_0, jw_30_2, jw_30_4, jw_30_7, jw_30_10, jw_30_19, jw_30_22, jw_30_27, jw_30_28, jw_30_29, jw_30_30, jw_30_31, jw_30_32, jw_30_35, jw_32, jw_32f, jw_33, jw_33f, jw_34, jw_34f, jw_35, jw_35f, jw_38, jw_38f, jw_41, jw_41f, jw_42, jw_42f, jw_43, jw_43f, jw_44, jw_44f, jw_45, jw_45f, jw_46, jw_46f, jw_39, jw_39f, jw_s39, jw_w39, jw_40, jw_40f, jw_s40, jw_w40, jw_47, jw_47f, jw_s47, jw_w47, jw_48, jw_48f, jw_s48, jw_w48, jw_z27, jw_z28, jw_z29, jw_z30, jw_z31, jw_z32, jw_z35, jw_l, uz_27_27, uz_27_28, uz_27_29, uz_27_30, uz_27_31, uz_27_32, uz_27_35, uz_28_27, uz_28_28, uz_28_29, uz_28_30, uz_28_31, uz_28_32, uz_28_35, uz_29_27, uz_29_28, uz_29_29, uz_29_30, uz_29_31, uz_29_32, uz_29_35, uz_30_27, uz_30_28, uz_30_29, uz_30_30, uz_30_31, uz_30_32, uz_30_35, uz_31_27, uz_31_28, uz_31_29, uz_31_30, uz_31_31, uz_31_32, uz_31_35, uz_32_27, uz_32_28, uz_32_29, uz_32_30, uz_32_31, uz_32_32, uz_32_35, uz_35_27, uz_35_28, uz_35_29, uz_35_30, uz_35_31, uz_35_32, uz_35_35, uu28, hm, p0, p1, p2, e1, nI_1, ab_rn, bi_0, bi_1, ite_not]
    rw [if_pos (nI_lt (by omega) (by omega))]
    refine ⟨e2, ?_⟩
    split
    · rename_i h2
      simp only [if_pos h2] at hh
      exact hh
    · rename_i h2
      simp only [if_neg h2] at hh
      exact ⟨e2, e2, ih (i + 1) _ _ _ _ (by omega) hh⟩
set_option maxRecDepth 20000 in
set_option maxHeartbeats 4000000 in
theorem lA_X9_pulls {G : ab_K} {Po : ab_P} (hG : ab_Clo cX9_pulls x_X9_pulls Po G) {N : ab_M} {n s b : Nat} {z g h p q : Nat → Int32} (hc : ct_M N n s) (hb : b < 2 ^ 31) (hh : Po (some (.int (pl_M (N.1 38) n b n 0 0 0 (cp7 (N.1 38) g)).1)) (jw N (up_f z 28 (pl_M (N.1 38) n b n 0 0 0 (cp7 (N.1 38) g)).2.1) (pl_M (N.1 38) n b n 0 0 0 (cp7 (N.1 38) g)).2.2 h p q)) : G 0 [some (.ref 30), some (.int (nI b)), none, none, none] [] (jw N z g h p q) := by
  have key := lq_X9_pulls hG hc hb n 0 0 0 _ none (by omega) hh
  refine ab_go hG [13] 80 _ _ _ _ ?_
  simp (decide := true) only [ew_s, ew_0, Option.toList_some, Option.toList_none, List.cons_append, List.nil_append, true_and, and_true, List.length_cons, List.length_nil, Nat.reduceAdd, Nat.reduceLeDiff, Int32.reduceAdd, Int32.reduceSub, Int32.reduceMul, Int32.reduceLT, Int32.reduceLE, Int32.reduceToNatClampNeg, ↓reduceIte, and_self, si_1, si_2, sl_1, sl_2, false_and, and_false, dX9_pulls_0, dX9_pulls_1, dX9_pulls_4, dX9_pulls_5, dX9_pulls_6, dX9_pulls_7, dX9_pulls_8, dX9_pulls_11, dX9_pulls_12, dX9_pulls_13, dX9_pulls_14, dX9_pulls_15, dX9_pulls_18, dX9_pulls_21, dX9_pulls_22, dX9_pulls_23, dX9_pulls_24, dX9_pulls_27, dX9_pulls_28, dX9_pulls_29, dX9_pulls_30, dX9_pulls_31, dX9_pulls_34, dX9_pulls_35, dX9_pulls_36, dX9_pulls_37, dX9_pulls_39, dX9_pulls_41, dX9_pulls_42, dX9_pulls_45, dX9_pulls_46, dX9_pulls_47, dX9_pulls_48, dX9_pulls_49, dX9_pulls_52, dX9_pulls_54, dX9_pulls_55, dX9_pulls_56, dX9_pulls_59, dX9_pulls_60, dX9_pulls_61, dX9_pulls_62, dX9_pulls_63, dX9_pulls_64, dX9_pulls_66, dX9_pulls_67, dX9_pulls_68, dX9_pulls_69, dX9_pulls_71, dX9_pulls_72, dX9_pulls_73, dX9_pulls_74, dX9_pulls_76, dX9_pulls_77, dX9_pulls_80, dX9_pulls_81, dX9_pulls_83, dX9_pulls_84, dX9_pulls_87, dX9_pulls_90, dX9_pulls_93, dX9_pulls_94, ca_X9_pulls_169, ca_X9_pulls_185, e_aload_n0, e_calls, e_callv, e_dup2, e_getfield, e_iadd, e_iaload, e_iastore, e_idiv, e_iload4, e_iload_n1, e_iload_n2, e_iload_n3, e_imul, e_irem, e_ireturn, e_istore4i, e_istore4n, e_istore4r, e_istore_n2i, e_istore_n2n, e_istore_n2r, e_istore_n3i, e_istore_n3n, e_istore_n3r, e_isub, e_putfield, ea_38, ea_39, ea_40, es_38, es_39, es_40, gf_X9_182_30, gf_X9_31_30, gf_X9_34_30, gf_X9_69_30, j_bp_10, j_bp_m9, j_goto_90_m77, j_ic_0, j_ic_1, j_ic_2, j_ic_4, j_icmp_ge_18_75, j_icmp_le_49_6, j_ii_3_1, pf_X9_182_30, q_X9_power, jw_30_0, jw_30_2, jw_30_4, jw_30_7, jw_30_10, jw_30_19, jw_30_22, jw_30_27, jw_30_28, jw_30_29, jw_30_30, jw_30_31, jw_30_32, jw_30_35, jw_32, jw_32f, jw_33, jw_33f, jw_34, jw_34f, jw_35, jw_35f, jw_38, jw_38f, jw_41, jw_41f, jw_42, jw_42f, jw_43, jw_43f, jw_44, jw_44f, jw_45, jw_45f, jw_46, jw_46f, jw_39, jw_39f, jw_s39, jw_w39, jw_40, jw_40f, jw_s40, jw_w40, jw_47, jw_47f, jw_s47, jw_w47, jw_48, jw_48f, jw_s48, jw_w48, jw_z27, jw_z28, jw_z29, jw_z30, jw_z31, jw_z32, jw_z35, jw_l, uz_27_27, uz_27_28, uz_27_29, uz_27_30, uz_27_31, uz_27_32, uz_27_35, uz_28_27, uz_28_28, uz_28_29, uz_28_30, uz_28_31, uz_28_32, uz_28_35, uz_29_27, uz_29_28, uz_29_29, uz_29_30, uz_29_31, uz_29_32, uz_29_35, uz_30_27, uz_30_28, uz_30_29, uz_30_30, uz_30_31, uz_30_32, uz_30_35, uz_31_27, uz_31_28, uz_31_29, uz_31_30, uz_31_31, uz_31_32, uz_31_35, uz_32_27, uz_32_28, uz_32_29, uz_32_30, uz_32_31, uz_32_32, uz_32_35, uz_35_27, uz_35_28, uz_35_29, uz_35_30, uz_35_31, uz_35_32, uz_35_35, bgE, ab_rn, bi_0, bi_1, ite_not]
  exact key
set_option maxRecDepth 20000 in
set_option maxHeartbeats 4000000 in
theorem c_X9_pulls {l : Launch} : ab_ctr l yX9_pulls cX9_pulls 5 (some .int) 1 23 s_X9_pulls := by
  refine ab_met x_X9_pulls (by decide) rfl fo_X9 ko_X9 so_X9 rfl (ab_cs_cons (ab_kV c_X9_begin ml_X9_169 v_X9_begin ⟨rfl, rfl⟩ r_X9_begin) (ab_cs_cons (ab_kS c_X9_power ml_X9_185 v_X9_power ⟨rfl, rfl⟩) ab_cs_nil)) ?_ ?_
  · intro as M Po h
    unfold s_X9_pulls at h
    split at h
    · simp [ab_e0]
    · exact h.elim
  · intro as M Po h G hG
    unfold s_X9_pulls at h
    split at h
    · simp only [ab_en, ab_e0, List.length_cons, List.length_nil, Nat.reduceAdd, Nat.reduceSub, List.replicate, List.cons_append, List.nil_append]
      obtain ⟨n, s, b, hc, hb, rfl, h⟩ := h
      have key := lA_X9_pulls hG (N := M) (z := M.1 30) (g := M.1 39) (h := M.1 40) (p := M.1 47) (q := M.1 48) hc hb (by
        rw [← jw_w39 (g := M.1 39), ← jw_z28, jw_id]
        exact h)
      rw [jw_id] at key
      exact key
    · exact h.elim

theorem puE {M : ab_M} {n s b : Nat} (hc : ct_M M n s) (hb : b < 2 ^ 31) (z g h p q : Nat → Int32) (Po : ab_P) : s_X9_pulls [.ref 30, .int (nI b)] (jw M z g h p q) Po = Po (some (.int (pl_M (M.1 38) n b n 0 0 0 (cp7 (M.1 38) g)).1)) (jw M (up_f z 28 (pl_M (M.1 38) n b n 0 0 0 (cp7 (M.1 38) g)).2.1) (pl_M (M.1 38) n b n 0 0 0 (cp7 (M.1 38) g)).2.2 h p q) := by
  refine propext ⟨fun h1 => ?_, fun h1 => ⟨n, s, b, hc, hb, rfl, ?_⟩⟩
  · obtain ⟨n', s', b', hc', hb', he, h2⟩ := h1
    obtain ⟨rfl, rfl⟩ := ct_u hc hc'
    have e : b = b' := (nI_eq hb hb').mp he
    subst e
    rw [jw_z28, jw_w39] at h2
    exact h2
  · rw [jw_z28, jw_w39]
    exact h1
/-- a way of pulling: how many, the figures, in how many days they are there -/
def w4 (M : ab_M) (n i : Nat) : Int32 × Int32 × (Nat → Int32) := pl_M (M.1 38) n i n 0 0 0 (M.1 38)
def w4c (M : ab_M) (n s i : Nat) : Int32 := co_l M n s 61 0 (w4 M n i).2.2
/-- the plan: so many ways are left, the i-th is next, the best so far: how many, its figures -/
def fq_l (M : ab_M) (n s : Nat) (x : Int32) : Nat → Nat → Int32 → Int32 → Int32 × Int32
  | 0, _, b, v => (b, v)
  | j + 1, i, b, v => if ¬ (w4 M n i).1 = -9 ∧ (b = -9 ∨ (w4 M n i).1 < b) ∧ ¬ w4c M n s i = -9 ∧ ¬ x < w4c M n s i then fq_l M n s x j (i + 1) (w4 M n i).1 (w4 M n i).2.1 else fq_l M n s x j (i + 1) b v
def s_X9_findPlan : ab_Sem := fun as M Po => match as with
  | [.ref 30, .int x] => ∃ n s : Nat, ct_M M n s ∧ ∀ z g h p q : Nat → Int32, z 27 = (fq_l M n s x (4 ^ n) 0 (-9) (-9)).1 → z 35 = (fq_l M n s x (4 ^ n) 0 (-9) (-9)).2 → Po none (jw M z g h p q)
  | _ => False
theorem q_X9_findPlan {x : Int32} {M : ab_M} {Po : ab_P} : s_X9_findPlan [.ref 30, .int x] M Po = (∃ n s : Nat, ct_M M n s ∧ ∀ z g h p q : Nat → Int32, z 27 = (fq_l M n s x (4 ^ n) 0 (-9) (-9)).1 → z 35 = (fq_l M n s x (4 ^ n) 0 (-9) (-9)).2 → Po none (jw M z g h p q)) := rfl
abbrev x_X9_findPlan : ab_X := (none, fl_X9, [(371, 2, s_X9_power), (382, 2, s_X9_pulls), (352, 1, s_X9_comesOf)], kl_X9, gs_X9, ab_ros)
theorem ca_X9_findPlan_185 {v0 v1 : Value} {st : List Value} {M : ab_M} {k : List Value → ab_M → Prop} : ab_ca x_X9_findPlan (2 * 185 + 1) (v1 :: v0 :: st) M k = (st.length ≤ 4 ∧ s_X9_power [v0, v1] M (fun r M' => k (r.toList ++ st) M')) := rfl
theorem ca_X9_findPlan_191 {v0 v1 : Value} {st : List Value} {M : ab_M} {k : List Value → ab_M → Prop} : ab_ca x_X9_findPlan (2 * 191) (v1 :: v0 :: st) M k = (st.length ≤ 4 ∧ s_X9_pulls [v0, v1] M (fun r M' => k (r.toList ++ st) M')) := rfl
theorem ca_X9_findPlan_176 {v0 : Value} {st : List Value} {M : ab_M} {k : List Value → ab_M → Prop} : ab_ca x_X9_findPlan (2 * 176) (v0 :: st) M k = (st.length ≤ 4 ∧ s_X9_comesOf [v0] M (fun r M' => k (r.toList ++ st) M')) := rfl
theorem r_X9_findPlan : ∀ (as : List Value) (M : ab_M) (Po : ab_P), s_X9_findPlan as M Po → ∃ (q : Nat) (as' : List Value) (ci : Nat) (T : u_T) (N : Nat) (fs : List ab_F), as = .ref q :: as' ∧ ab_sh[q]? = some (.inl (ci, fs)) ∧ vwCl[ci]? = some (yX9_findPlan.cls, T, N) := by
  intro as M Po h
  unfold s_X9_findPlan at h
  split at h
  · first | exact ⟨_, _, 9, _, _, _, rfl, rfl, rfl⟩ | (rcases h.1 with rfl | rfl | rfl <;> exact ⟨_, _, 9, _, _, _, rfl, rfl, rfl⟩)
  · exact h.elim
theorem p4_5 {n : Nat} (hn : n ≤ 5) : 4 ^ n < 2 ^ 31 := by
  have h2 : 4 ^ n ≤ 4 ^ 5 := Nat.pow_le_pow_right (by omega) hn
  omega
theorem p4_n {n : Nat} (hn : n ≤ 5) : pw_X 4 (nI n).toNatClampNeg = nI (4 ^ n) := by
  rw [nI_clamp (by omega)]
  exact pw_N 4 n
set_option maxRecDepth 20000 in
set_option maxHeartbeats 4000000 in
theorem lq_X9_findPlan {G : ab_K} {Po : ab_P} (hG : ab_Clo cX9_findPlan x_X9_findPlan Po G) {N : ab_M} {n s : Nat} {x : Int32} {p q : Nat → Int32} (hc : ct_M N n s) : ∀ (j i : Nat) (z g h : Nat → Int32) (c3 c4 c5 : Option Value), i + j = 4 ^ n → (∀ z' g h : Nat → Int32, z' 27 = (fq_l N n s x j i (z 27) (z 35)).1 → z' 35 = (fq_l N n s x j i (z 27) (z 35)).2 → Po none (jw N z' g h p q)) → G 14 [some (.ref 30), some (.int x), some (.int (nI i)), c3, c4, c5] [] (jw N z g h p q) := by
  have cm := cmE hc
  have hm := hc.2.1
  have hn := hc.1
  have h4 := p4_5 hn
  have p0 := p4_n hn
  intro j
  induction j with
  | zero =>
    intro i z g h c3 c4 c5 hi hh
    have e : i = 4 ^ n := by omega
    unfold fq_l at hh
    refine ab_go1 hG [14] 80 _ _ _ _ ?_
    simp (decide := true) only [ew_s, ew_0, Option.toList_some, Option.toList_none, List.cons_append, List.nil_append, true_and, and_true, List.length_cons, List.length_nil, Nat.reduceAdd, Nat.reduceLeDiff, Int32.reduceAdd, Int32.reduceSub, Int32.reduceMul, Int32.reduceLT, Int32.reduceLE, Int32.reduceToNatClampNeg, ↓reduceIte, and_self, si_1, si_2, sl_1, sl_2, false_and, and_false, dX9_findPlan_0, dX9_findPlan_1, dX9_findPlan_3, dX9_findPlan_6, dX9_findPlan_7, dX9_findPlan_9, dX9_findPlan_12, dX9_findPlan_13, dX9_findPlan_14, dX9_findPlan_15, dX9_findPlan_16, dX9_findPlan_17, dX9_findPlan_20, dX9_findPlan_23, dX9_findPlan_26, dX9_findPlan_27, dX9_findPlan_28, dX9_findPlan_31, dX9_findPlan_32, dX9_findPlan_33, dX9_findPlan_35, dX9_findPlan_38, dX9_findPlan_39, dX9_findPlan_42, dX9_findPlan_44, dX9_findPlan_47, dX9_findPlan_48, dX9_findPlan_49, dX9_findPlan_52, dX9_findPlan_55, dX9_findPlan_56, dX9_findPlan_59, dX9_findPlan_61, dX9_findPlan_63, dX9_findPlan_65, dX9_findPlan_68, dX9_findPlan_70, dX9_findPlan_71, dX9_findPlan_74, dX9_findPlan_75, dX9_findPlan_78, dX9_findPlan_79, dX9_findPlan_81, dX9_findPlan_82, dX9_findPlan_84, dX9_findPlan_87, dX9_findPlan_88, dX9_findPlan_91, dX9_findPlan_94, dX9_findPlan_95, dX9_findPlan_98, dX9_findPlan_101, dX9_findPlan_102, dX9_findPlan_104, dX9_findPlan_107, dX9_findPlan_108, dX9_findPlan_111, dX9_findPlan_112, dX9_findPlan_115, dX9_findPlan_118, dX9_findPlan_121, dX9_findPlan_124, ca_X9_findPlan_176, ca_X9_findPlan_185, ca_X9_findPlan_191, e_aload_n0, e_calls, e_callv, e_getfield, e_iload4, e_iload5, e_iload_n1, e_iload_n2, e_iload_n3, e_istore4i, e_istore4n, e_istore4r, e_istore5i, e_istore5n, e_istore5r, e_istore_n2i, e_istore_n2n, e_istore_n2r, e_istore_n3i, e_istore_n3n, e_istore_n3r, e_putfield, e_return, gf_X9_179_30, gf_X9_182_30, gf_X9_188_30, gf_X9_69_30, j_bp_m9, j_goto_108_7, j_goto_121_m107, j_goto_75_4, j_goto_91_7, j_ic_0, j_ic_1, j_ic_4, j_icmp_eq_35_83, j_icmp_eq_44_11, j_icmp_eq_65_13, j_icmp_ge_23_101, j_icmp_ge_52_66, j_icmp_gt_71_7, j_if_eq_104_7, j_if_eq_84_10, j_ii_2_1, pf_X9_179_30, pf_X9_188_30, q_X9_power, jw_30_0, jw_30_2, jw_30_4, jw_30_7, jw_30_10, jw_30_19, jw_30_22, jw_30_27, jw_30_28, jw_30_29, jw_30_30, jw_30_31, jw_30_32, jw_30_35, jw_32, jw_32f, jw_33, jw_33f, jw_34, jw_34f, jw_35, jw_35f, jw_38, jw_38f, jw_41, jw_41f, jw_42, jw_42f, jw_43, jw_43f, jw_44, jw_44f, jw_45, jw_45f, jw_46, jw_46f, jw_39, jw_39f, jw_s39, jw_w39, jw_40, jw_40f, jw_s40, jw_w40, jw_47, jw_47f, jw_s47, jw_w47, jw_48, jw_48f, jw_s48, jw_w48, jw_z27, jw_z28, jw_z29, jw_z30, jw_z31, jw_z32, jw_z35, jw_l, uz_27_27, uz_27_28, uz_27_29, uz_27_30, uz_27_31, uz_27_32, uz_27_35, uz_28_27, uz_28_28, uz_28_29, uz_28_30, uz_28_31, uz_28_32, uz_28_35, uz_29_27, uz_29_28, uz_29_29, uz_29_30, uz_29_31, uz_29_32, uz_29_35, uz_30_27, uz_30_28, uz_30_29, uz_30_30, uz_30_31, uz_30_32, uz_30_35, uz_31_27, uz_31_28, uz_31_29, uz_31_30, uz_31_31, uz_31_32, uz_31_35, uz_32_27, uz_32_28, uz_32_29, uz_32_30, uz_32_31, uz_32_32, uz_32_35, uz_35_27, uz_35_28, uz_35_29, uz_35_30, uz_35_31, uz_35_32, uz_35_35, hm, p0, ab_rn, bi_0, bi_1, ite_not]
    rw [if_neg (nI_nlt (by omega) (by omega))]
    exact hh _ _ _ rfl rfl
  | succ j ih =>
    intro i z g h c3 c4 c5 hi hh
    have pu := puE hc (b := i) (by omega)
    obtain ⟨a1, a2, a3⟩ := pl_e7 (A := N.1 38) (b := i) hn n 0 0 0 (by omega) (e7_cp (f := g) (g := N.1 38))
    have a4 := co_e7 (M := N) (s := s) hn 61 0 a3
    have b1 : pl_M (N.1 38) n i n 0 0 0 (N.1 38) = w4 N n i := rfl
    have b2 : co_l N n s 61 0 (w4 N n i).2.2 = w4c N n s i := rfl
    unfold fq_l at hh
    refine ab_go1 hG [14] 80 _ _ _ _ ?_
    simp (decide := true) only [ew_s, ew_0, Option.toList_some, Option.toList_none, List.cons_append, List.nil_append, true_and, and_true, List.length_cons, List.length_nil, Nat.reduceAdd, Nat.reduceLeDiff, Int32.reduceAdd, Int32.reduceSub, Int32.reduceMul, Int32.reduceLT, Int32.reduceLE, Int32.reduceToNatClampNeg, ↓reduceIte, and_self, si_1, si_2, sl_1, sl_2, false_and, and_false, dX9_findPlan_0, dX9_findPlan_1, dX9_findPlan_3, dX9_findPlan_6, dX9_findPlan_7, dX9_findPlan_9, dX9_findPlan_12, dX9_findPlan_13, dX9_findPlan_14, dX9_findPlan_15, dX9_findPlan_16, dX9_findPlan_17, dX9_findPlan_20, dX9_findPlan_23, dX9_findPlan_26, dX9_findPlan_27, dX9_findPlan_28, dX9_findPlan_31, dX9_findPlan_32, dX9_findPlan_33, dX9_findPlan_35, dX9_findPlan_38, dX9_findPlan_39, dX9_findPlan_42, dX9_findPlan_44, dX9_findPlan_47, dX9_findPlan_48, dX9_findPlan_49, dX9_findPlan_52, dX9_findPlan_55, dX9_findPlan_56, dX9_findPlan_59, dX9_findPlan_61, dX9_findPlan_63, dX9_findPlan_65, dX9_findPlan_68, dX9_findPlan_70, dX9_findPlan_71, dX9_findPlan_74, dX9_findPlan_75, dX9_findPlan_78, dX9_findPlan_79, dX9_findPlan_81, dX9_findPlan_82, dX9_findPlan_84, dX9_findPlan_87, dX9_findPlan_88, dX9_findPlan_91, dX9_findPlan_94, dX9_findPlan_95, dX9_findPlan_98, dX9_findPlan_101, dX9_findPlan_102, dX9_findPlan_104, dX9_findPlan_107, dX9_findPlan_108, dX9_findPlan_111, dX9_findPlan_112, dX9_findPlan_115, dX9_findPlan_118, dX9_findPlan_121, dX9_findPlan_124, ca_X9_findPlan_176, ca_X9_findPlan_185, ca_X9_findPlan_191, e_aload_n0, e_calls, e_callv, e_getfield, e_iload4, e_iload5, e_iload_n1, e_iload_n2, e_iload_n3, e_istore4i, e_istore4n, e_istore4r, e_istore5i, e_istore5n, e_istore5r, e_istore_n2i, e_istore_n2n, e_istore_n2r, e_istore_n3i, e_istore_n3n, e_istore_n3r, e_putfield, e_return, gf_X9_179_30, gf_X9_182_30, gf_X9_188_30, gf_X9_69_30, j_bp_m9, j_goto_108_7, j_goto_121_m107, j_goto_75_4, j_goto_91_7, j_ic_0, j_ic_1, j_ic_4, j_icmp_eq_35_83, j_icmp_eq_44_11, j_icmp_eq_65_13, j_icmp_ge_23_101, j_icmp_ge_52_66, j_icmp_gt_71_7, j_if_eq_104_7, j_if_eq_84_10, j_ii_2_1, pf_X9_179_30, pf_X9_188_30, q_X9_power, jw_30_0, jw_30_2, jw_30_4, jw_30_7, jw_30_10, jw_30_19, jw_30_22, jw_30_27, jw_30_28, jw_30_29, jw_30_30, jw_30_31, jw_30_32, jw_30_35, jw_32, jw_32f, jw_33, jw_33f, jw_34, jw_34f, jw_35, jw_35f, jw_38, jw_38f, jw_41, jw_41f, jw_42, jw_42f, jw_43, jw_43f, jw_44, jw_44f, jw_45, jw_45f, jw_46, jw_46f, jw_39, jw_39f, jw_s39, jw_w39, jw_40, jw_40f, jw_s40, jw_w40, jw_47, jw_47f, jw_s47, jw_w47, jw_48, jw_48f, jw_s48, jw_w48, jw_z27, jw_z28, jw_z29, jw_z30, jw_z31, jw_z32, jw_z35, jw_l, uz_27_27, uz_27_28, uz_27_29, uz_27_30, uz_27_31, uz_27_32, uz_27_35, uz_28_27, uz_28_28, uz_28_29, uz_28_30, uz_28_31, uz_28_32, uz_28_35, uz_29_27, uz_29_28, uz_29_29, uz_29_30, uz_29_31, uz_29_32, uz_29_35, uz_30_27, uz_30_28, uz_30_29, uz_30_30, uz_30_31, uz_30_32, uz_30_35, uz_31_27, uz_31_28, uz_31_29, uz_31_30, uz_31_31, uz_31_32, uz_31_35, uz_32_27, uz_32_28, uz_32_29, uz_32_30, uz_32_31, uz_32_32, uz_32_35, uz_35_27, uz_35_28, uz_35_29, uz_35_30, uz_35_31, uz_35_32, uz_35_35, hm, p0, pu, cm, a1, a2, a4, b1, b2, nI_1, ab_rn, bi_0, bi_1, ite_not]
    rw [if_pos (nI_lt (by omega) (by omega))]
    generalize w4c N n s i = r at hh ⊢
    generalize (w4 N n i).2.1 = w at hh ⊢
    generalize (w4 N n i).1 = y at hh ⊢
    by_cases h1 : y = -9
    · rw [if_pos h1]
      simp only [h1, not_true_eq_false, false_and, if_false] at hh
      exact ih (i + 1) _ _ _ _ _ _ (by omega) hh
    · rw [if_neg h1]
      have fin : ∀ (hz : z 27 = -9 ∨ y < z 27) (f : Nat → Int32), if r = -9 then G 14 [some (.ref 30), some (.int x), some (.int (nI (i + 1))), some (.int y), some (.int r), some (.int 0)] [] (jw N (up_f (up_f (up_f z 28 w) 35 (z 35)) 27 (z 27)) (pl_M (N.1 38) n i n 0 0 0 (cp7 (N.1 38) g)).2.2 f p q) else if x < r then G 14 [some (.ref 30), some (.int x), some (.int (nI (i + 1))), some (.int y), some (.int r), some (.int 0)] [] (jw N (up_f (up_f (up_f z 28 w) 35 (z 35)) 27 (z 27)) (pl_M (N.1 38) n i n 0 0 0 (cp7 (N.1 38) g)).2.2 f p q) else G 14 [some (.ref 30), some (.int x), some (.int (nI (i + 1))), some (.int y), some (.int r), some (.int 1)] [] (jw N (up_f (up_f (up_f z 28 w) 35 w) 27 y) (pl_M (N.1 38) n i n 0 0 0 (cp7 (N.1 38) g)).2.2 f p q) := by
        intro hz f
        by_cases h3 : r = -9
        · rw [if_pos h3]
          rw [if_neg (fun hx => hx.2.2.1 h3)] at hh
          exact ih (i + 1) _ _ _ _ _ _ (by omega) hh
        · rw [if_neg h3]
          by_cases h4 : x < r
          · rw [if_pos h4]
            rw [if_neg (fun hx => hx.2.2.2 h4)] at hh
            exact ih (i + 1) _ _ _ _ _ _ (by omega) hh
          · rw [if_neg h4]
            rw [if_pos ⟨h1, hz, h3, h4⟩] at hh
            exact ih (i + 1) _ _ _ _ _ _ (by omega) hh
      by_cases h2 : z 27 = -9
      · rw [if_pos h2]
        exact fin (Or.inl h2)
      · rw [if_neg h2]
        by_cases h5 : y < z 27
        · rw [if_pos h5]
          exact fin (Or.inr h5)
        · rw [if_neg h5]
          rw [if_neg (fun hx => hx.2.1.elim h2 h5)] at hh
          exact ih (i + 1) _ _ _ _ _ _ (by omega) hh
set_option maxRecDepth 20000 in
set_option maxHeartbeats 4000000 in
theorem lA_X9_findPlan {G : ab_K} {Po : ab_P} (hG : ab_Clo cX9_findPlan x_X9_findPlan Po G) {N : ab_M} {n s : Nat} {x : Int32} {z g h p q : Nat → Int32} (hc : ct_M N n s) (hh : ∀ z' g h : Nat → Int32, z' 27 = (fq_l N n s x (4 ^ n) 0 (-9) (-9)).1 → z' 35 = (fq_l N n s x (4 ^ n) 0 (-9) (-9)).2 → Po none (jw N z' g h p q)) : G 0 [some (.ref 30), some (.int x), none, none, none, none] [] (jw N z g h p q) := by
  have key := lq_X9_findPlan hG (x := x) (p := p) (q := q) hc (4 ^ n) 0 (up_f (up_f z 27 (-9)) 35 (-9)) g h none none none (by omega) hh
  refine ab_go hG [14] 80 _ _ _ _ ?_
  simp (decide := true) only [ew_s, ew_0, Option.toList_some, Option.toList_none, List.cons_append, List.nil_append, true_and, and_true, List.length_cons, List.length_nil, Nat.reduceAdd, Nat.reduceLeDiff, Int32.reduceAdd, Int32.reduceSub, Int32.reduceMul, Int32.reduceLT, Int32.reduceLE, Int32.reduceToNatClampNeg, ↓reduceIte, and_self, si_1, si_2, sl_1, sl_2, false_and, and_false, dX9_findPlan_0, dX9_findPlan_1, dX9_findPlan_3, dX9_findPlan_6, dX9_findPlan_7, dX9_findPlan_9, dX9_findPlan_12, dX9_findPlan_13, dX9_findPlan_14, dX9_findPlan_15, dX9_findPlan_16, dX9_findPlan_17, dX9_findPlan_20, dX9_findPlan_23, dX9_findPlan_26, dX9_findPlan_27, dX9_findPlan_28, dX9_findPlan_31, dX9_findPlan_32, dX9_findPlan_33, dX9_findPlan_35, dX9_findPlan_38, dX9_findPlan_39, dX9_findPlan_42, dX9_findPlan_44, dX9_findPlan_47, dX9_findPlan_48, dX9_findPlan_49, dX9_findPlan_52, dX9_findPlan_55, dX9_findPlan_56, dX9_findPlan_59, dX9_findPlan_61, dX9_findPlan_63, dX9_findPlan_65, dX9_findPlan_68, dX9_findPlan_70, dX9_findPlan_71, dX9_findPlan_74, dX9_findPlan_75, dX9_findPlan_78, dX9_findPlan_79, dX9_findPlan_81, dX9_findPlan_82, dX9_findPlan_84, dX9_findPlan_87, dX9_findPlan_88, dX9_findPlan_91, dX9_findPlan_94, dX9_findPlan_95, dX9_findPlan_98, dX9_findPlan_101, dX9_findPlan_102, dX9_findPlan_104, dX9_findPlan_107, dX9_findPlan_108, dX9_findPlan_111, dX9_findPlan_112, dX9_findPlan_115, dX9_findPlan_118, dX9_findPlan_121, dX9_findPlan_124, ca_X9_findPlan_176, ca_X9_findPlan_185, ca_X9_findPlan_191, e_aload_n0, e_calls, e_callv, e_getfield, e_iload4, e_iload5, e_iload_n1, e_iload_n2, e_iload_n3, e_istore4i, e_istore4n, e_istore4r, e_istore5i, e_istore5n, e_istore5r, e_istore_n2i, e_istore_n2n, e_istore_n2r, e_istore_n3i, e_istore_n3n, e_istore_n3r, e_putfield, e_return, gf_X9_179_30, gf_X9_182_30, gf_X9_188_30, gf_X9_69_30, j_bp_m9, j_goto_108_7, j_goto_121_m107, j_goto_75_4, j_goto_91_7, j_ic_0, j_ic_1, j_ic_4, j_icmp_eq_35_83, j_icmp_eq_44_11, j_icmp_eq_65_13, j_icmp_ge_23_101, j_icmp_ge_52_66, j_icmp_gt_71_7, j_if_eq_104_7, j_if_eq_84_10, j_ii_2_1, pf_X9_179_30, pf_X9_188_30, q_X9_power, jw_30_0, jw_30_2, jw_30_4, jw_30_7, jw_30_10, jw_30_19, jw_30_22, jw_30_27, jw_30_28, jw_30_29, jw_30_30, jw_30_31, jw_30_32, jw_30_35, jw_32, jw_32f, jw_33, jw_33f, jw_34, jw_34f, jw_35, jw_35f, jw_38, jw_38f, jw_41, jw_41f, jw_42, jw_42f, jw_43, jw_43f, jw_44, jw_44f, jw_45, jw_45f, jw_46, jw_46f, jw_39, jw_39f, jw_s39, jw_w39, jw_40, jw_40f, jw_s40, jw_w40, jw_47, jw_47f, jw_s47, jw_w47, jw_48, jw_48f, jw_s48, jw_w48, jw_z27, jw_z28, jw_z29, jw_z30, jw_z31, jw_z32, jw_z35, jw_l, uz_27_27, uz_27_28, uz_27_29, uz_27_30, uz_27_31, uz_27_32, uz_27_35, uz_28_27, uz_28_28, uz_28_29, uz_28_30, uz_28_31, uz_28_32, uz_28_35, uz_29_27, uz_29_28, uz_29_29, uz_29_30, uz_29_31, uz_29_32, uz_29_35, uz_30_27, uz_30_28, uz_30_29, uz_30_30, uz_30_31, uz_30_32, uz_30_35, uz_31_27, uz_31_28, uz_31_29, uz_31_30, uz_31_31, uz_31_32, uz_31_35, uz_32_27, uz_32_28, uz_32_29, uz_32_30, uz_32_31, uz_32_32, uz_32_35, uz_35_27, uz_35_28, uz_35_29, uz_35_30, uz_35_31, uz_35_32, uz_35_35, ab_rn, bi_0, bi_1, ite_not]
  exact key
set_option maxRecDepth 20000 in
set_option maxHeartbeats 4000000 in
theorem c_X9_findPlan {l : Launch} : ab_ctr l yX9_findPlan cX9_findPlan 6 none 5 117 s_X9_findPlan := by
  refine ab_met x_X9_findPlan (by decide) rfl fo_X9 ko_X9 so_X9 rfl (ab_cs_cons (ab_kS c_X9_power ml_X9_185 v_X9_power ⟨rfl, rfl⟩) (ab_cs_cons (ab_kV c_X9_pulls ml_X9_191 v_X9_pulls ⟨rfl, rfl⟩ r_X9_pulls) (ab_cs_cons (ab_kV c_X9_comesOf ml_X9_176 v_X9_comesOf ⟨rfl, rfl⟩ r_X9_comesOf) ab_cs_nil))) ?_ ?_
  · intro as M Po h
    unfold s_X9_findPlan at h
    split at h
    · simp [ab_e0]
    · exact h.elim
  · intro as M Po h G hG
    unfold s_X9_findPlan at h
    split at h
    · simp only [ab_en, ab_e0, List.length_cons, List.length_nil, Nat.reduceAdd, Nat.reduceSub, List.replicate, List.cons_append, List.nil_append]
      rename_i x
      obtain ⟨n, s, hc, h⟩ := h
      have key := lA_X9_findPlan hG (x := x) (N := M) (z := M.1 30) (g := M.1 39) (h := M.1 40) (p := M.1 47) (q := M.1 48) hc (fun z' g h1 => h z' g h1 _ _)
      rw [jw_id] at key
      exact key
    · exact h.elim

def s_X9_plan : ab_Sem := fun as M Po => match as with
  | [.ref 30, .int x, .int y] => ∃ n s : Nat, ct_M M n s ∧ (if ¬ x < 0 ∧ ¬ 20 < x then (if ¬ y < 0 ∧ ¬ 1 < y then (∀ N, jj (t0 M) N → if y = 0 then Po (some (.int ((fq_l (t0 M) n s x (4 ^ n) 0 (-9) (-9)).1))) N else Po (some (.int ((fq_l (t0 M) n s x (4 ^ n) 0 (-9) (-9)).2))) N) else Po (some (.int (-2))) (t0 M)) else Po (some (.int (-2))) (t0 M))
  | _ => False
theorem q_X9_plan {x y : Int32} {M : ab_M} {Po : ab_P} : s_X9_plan [.ref 30, .int x, .int y] M Po = (∃ n s : Nat, ct_M M n s ∧ (if ¬ x < 0 ∧ ¬ 20 < x then (if ¬ y < 0 ∧ ¬ 1 < y then (∀ N, jj (t0 M) N → if y = 0 then Po (some (.int ((fq_l (t0 M) n s x (4 ^ n) 0 (-9) (-9)).1))) N else Po (some (.int ((fq_l (t0 M) n s x (4 ^ n) 0 (-9) (-9)).2))) N) else Po (some (.int (-2))) (t0 M)) else Po (some (.int (-2))) (t0 M))) := rfl
abbrev x_X9_plan : ab_X := (some .int, fl_X9, [(145, 3, s_X9_in), (392, 2, s_X9_findPlan)], kl_X9, gs_X9, ab_ros)
theorem ca_X9_plan_72 {v0 v1 v2 : Value} {st : List Value} {M : ab_M} {k : List Value → ab_M → Prop} : ab_ca x_X9_plan (2 * 72 + 1) (v2 :: v1 :: v0 :: st) M k = (st.length ≤ 4 ∧ s_X9_in [v0, v1, v2] M (fun r M' => k (r.toList ++ st) M')) := rfl
theorem ca_X9_plan_196 {v0 v1 : Value} {st : List Value} {M : ab_M} {k : List Value → ab_M → Prop} : ab_ca x_X9_plan (2 * 196) (v1 :: v0 :: st) M k = (st.length ≤ 4 ∧ s_X9_findPlan [v0, v1] M (fun r M' => k (r.toList ++ st) M')) := rfl
theorem r_X9_plan : ∀ (as : List Value) (M : ab_M) (Po : ab_P), s_X9_plan as M Po → ∃ (q : Nat) (as' : List Value) (ci : Nat) (T : u_T) (N : Nat) (fs : List ab_F), as = .ref q :: as' ∧ ab_sh[q]? = some (.inl (ci, fs)) ∧ vwCl[ci]? = some (yX9_plan.cls, T, N) := by
  intro as M Po h
  unfold s_X9_plan at h
  split at h
  · first | exact ⟨_, _, 9, _, _, _, rfl, rfl, rfl⟩ | (rcases h.1 with rfl | rfl | rfl <;> exact ⟨_, _, 9, _, _, _, rfl, rfl, rfl⟩)
  · exact h.elim
set_option maxRecDepth 20000 in
set_option maxHeartbeats 4000000 in
theorem c_X9_plan {l : Launch} : ab_ctr l yX9_plan cX9_plan 3 (some .int) 6 142 s_X9_plan := by
  refine ab_met x_X9_plan (by decide) rfl fo_X9 ko_X9 so_X9 rfl (ab_cs_cons (ab_kS c_X9_in ml_X9_72 v_X9_in ⟨rfl, rfl⟩) (ab_cs_cons (ab_kV c_X9_findPlan ml_X9_196 v_X9_findPlan ⟨rfl, rfl⟩ r_X9_findPlan) ab_cs_nil)) ?_ ?_
  · intro as M Po h
    unfold s_X9_plan at h
    split at h
    · simp [ab_e0]
    · exact h.elim
  · intro as M Po h G hG
    unfold s_X9_plan at h
    split at h
    · simp only [ab_en, ab_e0, List.length_cons, List.length_nil, Nat.reduceAdd, Nat.reduceSub, List.replicate, List.cons_append, List.nil_append]
      rename_i x y
      obtain ⟨n, s, hc, h⟩ := h
      by_cases h1 : ¬ x < 0 ∧ ¬ 20 < x
      · rw [if_pos h1] at h
        by_cases h2 : ¬ y < 0 ∧ ¬ 1 < y
        · rw [if_pos h2] at h
          refine ab_go hG [] 80 _ _ _ _ ?_
          simp (decide := true) only [ew_n, ew_0, Option.toList_some, Option.toList_none, List.cons_append, List.nil_append, true_and, and_true, List.length_cons, List.length_nil, Nat.reduceAdd, Nat.reduceLeDiff, Int32.reduceAdd, Int32.reduceSub, Int32.reduceMul, Int32.reduceLT, Int32.reduceLE, Int32.reduceToNatClampNeg, ↓reduceIte, and_self, si_1, si_2, sl_1, sl_2, false_and, and_false, dX9_plan_0, dX9_plan_1, dX9_plan_2, dX9_plan_5, dX9_plan_6, dX9_plan_7, dX9_plan_8, dX9_plan_11, dX9_plan_14, dX9_plan_17, dX9_plan_18, dX9_plan_19, dX9_plan_20, dX9_plan_21, dX9_plan_24, dX9_plan_27, dX9_plan_29, dX9_plan_30, dX9_plan_31, dX9_plan_32, dX9_plan_35, dX9_plan_36, dX9_plan_39, dX9_plan_40, dX9_plan_43, dX9_plan_46, dX9_plan_47, dX9_plan_50, ca_X9_plan_196, ca_X9_plan_72, e_aload_n0, e_calls, e_callv, e_getfield, e_i2l, e_iload_n1, e_iload_n2, e_ireturn, e_kl_X9_194, e_lconst0, e_lconst1, e_putfield, gf_X9_179_30, gf_X9_188_30, j_bp_m2, j_goto_43_7, j_ic_0, j_if_eq_14_13, j_if_ne_24_6, j_if_ne_36_10, pf_X9_65_30, q_X9_in, wi_0, wi_lt, wi_g255, wi_g40, wi_g20, wi_g4, wi_g3, wi_g9, wi_g10, wi_g30, wi_g1, wi_l255, wi_l40, wi_l20, wi_l4, wi_l3, wi_l9, wi_l10, wi_l30, wi_l1, t0_r, ab_rn, bi_0, bi_1, ite_not]
          rw [if_pos h1, if_pos h2]
          refine ⟨n, s, hc, fun z g h3 p q e1 e2 => ?_⟩
          simp (decide := true) only [ew_n, ew_0, Option.toList_some, Option.toList_none, List.cons_append, List.nil_append, true_and, and_true, List.length_cons, List.length_nil, Nat.reduceAdd, Nat.reduceLeDiff, Int32.reduceAdd, Int32.reduceSub, Int32.reduceMul, Int32.reduceLT, Int32.reduceLE, Int32.reduceToNatClampNeg, ↓reduceIte, and_self, si_1, si_2, sl_1, sl_2, false_and, and_false, dX9_plan_0, dX9_plan_1, dX9_plan_2, dX9_plan_5, dX9_plan_6, dX9_plan_7, dX9_plan_8, dX9_plan_11, dX9_plan_14, dX9_plan_17, dX9_plan_18, dX9_plan_19, dX9_plan_20, dX9_plan_21, dX9_plan_24, dX9_plan_27, dX9_plan_29, dX9_plan_30, dX9_plan_31, dX9_plan_32, dX9_plan_35, dX9_plan_36, dX9_plan_39, dX9_plan_40, dX9_plan_43, dX9_plan_46, dX9_plan_47, dX9_plan_50, ca_X9_plan_196, ca_X9_plan_72, e_aload_n0, e_calls, e_callv, e_getfield, e_i2l, e_iload_n1, e_iload_n2, e_ireturn, e_kl_X9_194, e_lconst0, e_lconst1, e_putfield, gf_X9_179_30, gf_X9_188_30, j_bp_m2, j_goto_43_7, j_ic_0, j_if_eq_14_13, j_if_ne_24_6, j_if_ne_36_10, pf_X9_65_30, q_X9_in, wi_0, wi_lt, wi_g255, wi_g40, wi_g20, wi_g4, wi_g3, wi_g9, wi_g10, wi_g30, wi_g1, wi_l255, wi_l40, wi_l20, wi_l4, wi_l3, wi_l9, wi_l10, wi_l30, wi_l1, jw_30_0, jw_30_2, jw_30_4, jw_30_7, jw_30_10, jw_30_19, jw_30_22, jw_30_27, jw_30_28, jw_30_29, jw_30_30, jw_30_31, jw_30_32, jw_30_35, jw_32, jw_32f, jw_33, jw_33f, jw_34, jw_34f, jw_35, jw_35f, jw_38, jw_38f, jw_41, jw_41f, jw_42, jw_42f, jw_43, jw_43f, jw_44, jw_44f, jw_45, jw_45f, jw_46, jw_46f, jw_39, jw_39f, jw_s39, jw_w39, jw_40, jw_40f, jw_s40, jw_w40, jw_47, jw_47f, jw_s47, jw_w47, jw_48, jw_48f, jw_s48, jw_w48, jw_z27, jw_z28, jw_z29, jw_z30, jw_z31, jw_z32, jw_z35, jw_l, uz_27_27, uz_27_28, uz_27_29, uz_27_30, uz_27_31, uz_27_32, uz_27_35, uz_28_27, uz_28_28, uz_28_29, uz_28_30, uz_28_31, uz_28_32, uz_28_35, uz_29_27, uz_29_28, uz_29_29, uz_29_30, uz_29_31, uz_29_32, uz_29_35, uz_30_27, uz_30_28, uz_30_29, uz_30_30, uz_30_31, uz_30_32, uz_30_35, uz_31_27, uz_31_28, uz_31_29, uz_31_30, uz_31_31, uz_31_32, uz_31_35, uz_32_27, uz_32_28, uz_32_29, uz_32_30, uz_32_31, uz_32_32, uz_32_35, uz_35_27, uz_35_28, uz_35_29, uz_35_30, uz_35_31, uz_35_32, uz_35_35, ab_rn]
          rw [e1, e2]
          exact h _ jj_i
        · rw [if_neg h2] at h
          refine ab_go hG [] 80 _ _ _ _ ?_
          simp (decide := true) only [ew_n, ew_0, Option.toList_some, Option.toList_none, List.cons_append, List.nil_append, true_and, and_true, List.length_cons, List.length_nil, Nat.reduceAdd, Nat.reduceLeDiff, Int32.reduceAdd, Int32.reduceSub, Int32.reduceMul, Int32.reduceLT, Int32.reduceLE, Int32.reduceToNatClampNeg, ↓reduceIte, and_self, si_1, si_2, sl_1, sl_2, false_and, and_false, dX9_plan_0, dX9_plan_1, dX9_plan_2, dX9_plan_5, dX9_plan_6, dX9_plan_7, dX9_plan_8, dX9_plan_11, dX9_plan_14, dX9_plan_17, dX9_plan_18, dX9_plan_19, dX9_plan_20, dX9_plan_21, dX9_plan_24, dX9_plan_27, dX9_plan_29, dX9_plan_30, dX9_plan_31, dX9_plan_32, dX9_plan_35, dX9_plan_36, dX9_plan_39, dX9_plan_40, dX9_plan_43, dX9_plan_46, dX9_plan_47, dX9_plan_50, ca_X9_plan_196, ca_X9_plan_72, e_aload_n0, e_calls, e_callv, e_getfield, e_i2l, e_iload_n1, e_iload_n2, e_ireturn, e_kl_X9_194, e_lconst0, e_lconst1, e_putfield, gf_X9_179_30, gf_X9_188_30, j_bp_m2, j_goto_43_7, j_ic_0, j_if_eq_14_13, j_if_ne_24_6, j_if_ne_36_10, pf_X9_65_30, q_X9_in, wi_0, wi_lt, wi_g255, wi_g40, wi_g20, wi_g4, wi_g3, wi_g9, wi_g10, wi_g30, wi_g1, wi_l255, wi_l40, wi_l20, wi_l4, wi_l3, wi_l9, wi_l10, wi_l30, wi_l1, t0_r, ab_rn, bi_0, bi_1, ite_not]
          rw [if_pos h1, if_neg h2]
          exact h
      · rw [if_neg h1] at h
        refine ab_go hG [] 80 _ _ _ _ ?_
        simp (decide := true) only [ew_n, ew_0, Option.toList_some, Option.toList_none, List.cons_append, List.nil_append, true_and, and_true, List.length_cons, List.length_nil, Nat.reduceAdd, Nat.reduceLeDiff, Int32.reduceAdd, Int32.reduceSub, Int32.reduceMul, Int32.reduceLT, Int32.reduceLE, Int32.reduceToNatClampNeg, ↓reduceIte, and_self, si_1, si_2, sl_1, sl_2, false_and, and_false, dX9_plan_0, dX9_plan_1, dX9_plan_2, dX9_plan_5, dX9_plan_6, dX9_plan_7, dX9_plan_8, dX9_plan_11, dX9_plan_14, dX9_plan_17, dX9_plan_18, dX9_plan_19, dX9_plan_20, dX9_plan_21, dX9_plan_24, dX9_plan_27, dX9_plan_29, dX9_plan_30, dX9_plan_31, dX9_plan_32, dX9_plan_35, dX9_plan_36, dX9_plan_39, dX9_plan_40, dX9_plan_43, dX9_plan_46, dX9_plan_47, dX9_plan_50, ca_X9_plan_196, ca_X9_plan_72, e_aload_n0, e_calls, e_callv, e_getfield, e_i2l, e_iload_n1, e_iload_n2, e_ireturn, e_kl_X9_194, e_lconst0, e_lconst1, e_putfield, gf_X9_179_30, gf_X9_188_30, j_bp_m2, j_goto_43_7, j_ic_0, j_if_eq_14_13, j_if_ne_24_6, j_if_ne_36_10, pf_X9_65_30, q_X9_in, wi_0, wi_lt, wi_g255, wi_g40, wi_g20, wi_g4, wi_g3, wi_g9, wi_g10, wi_g30, wi_g1, wi_l255, wi_l40, wi_l20, wi_l4, wi_l3, wi_l9, wi_l10, wi_l30, wi_l1, t0_r, ab_rn, bi_0, bi_1, ite_not]
        rw [if_neg h1]
        exact h
    · exact h.elim

