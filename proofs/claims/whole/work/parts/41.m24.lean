/-! METHODS: the model, a day gone -/
theorem lm_env {M N : ab_M} (h : sm_M N = sm_M M) (P : Nat → Int32) (w : Int32) : ∀ (i : Nat) (f : Option Nat), lm_l N P w i f = lm_l M P w i f
  | 0, _ => rfl
  | i + 1, f => by simp only [lm_l, lm_1, h, lm_env h P w i]
theorem bg_env {M N : ab_M} (h : N.1 32 = M.1 32) : ∀ k, bg_M N k = bg_M M k
  | 0 => rfl
  | k + 1 => by simp only [bg_M, h, bg_env h k]
theorem sa_env {M N : ab_M} (h : N.1 32 = M.1 32) (x : Int32) : ∀ (n i : Nat) (f : Int32), sa_l N x n i f = sa_l M x n i f
  | 0, _, _ => rfl
  | n + 1, i, f => by simp only [sa_l, sa_1, h, bg_env h, sa_env h x n]
theorem hk_env {M N : ab_M} (h : N.1 35 = M.1 35) (P : Nat → Int32) : ∀ k, hk_M N P k = hk_M M P k
  | 0 => rfl
  | k + 1 => by simp only [hk_M, h, hk_env h P k]
theorem wt_wt {M : ab_M} {p : Nat} {f g : Nat → Int32} : wt (wt M p f) p g = wt M p g := by
  refine Prod.ext (funext fun a => funext fun b => ?_) rfl
  simp only [wt]
  split <;> rfl
theorem sa_range {M : ab_M} {x : Int32} : ∀ (n i : Nat) (f : Int32), sa_l M x n i f = f ∨ ∃ k, i ≤ k ∧ k < i + n ∧ sa_l M x n i f = nI k
  | 0, _, _ => Or.inl rfl
  | n + 1, i, f => by
    unfold sa_l
    rcases sa_range n (i + 1) (sa_1 M x i f) with h | ⟨k, h1, h2, h3⟩
    · rw [h]
      unfold sa_1
      split
      · exact Or.inr ⟨i, by omega, by omega, rfl⟩
      · exact Or.inl rfl
    · exact Or.inr ⟨k, by omega, by omega, h3⟩
theorem lm_range {M : ab_M} {P : Nat → Int32} {w : Int32} : ∀ (i : Nat) (f : Option Nat), i ≤ 5 → (∀ j, f = some j → j < 5) → ∀ j, lm_l M P w i f = some j → j < 5
  | 0, f, _, hf, j, h => hf j h
  | i + 1, f, hi, hf, j, h => by
    refine lm_range i (lm_1 M P w i f) (by omega) (fun j hj => ?_) j h
    unfold lm_1 at hj
    split at hj
    · cases f with
      | none => cases hj; omega
      | some k =>
        dsimp only at hj
        split at hj
        · cases hj; exact hf _ rfl
        · cases hj; omega
    · exact hf j hj
/-- how far a day goes by itself; as far as the end -/
def b0_M (v g : Int32) : Int32 := if g = 2 then 1 else if g = 1 then (if 1 < v then v / 2 else v) else v
def b1_M (M : ab_M) (P : Nat → Int32) (b : Int32) : Int32 := if M.1 30 10 < P 0 + b then M.1 30 10 - P 0 else b
/-- the page behind a march of b miles on ground g under j -/
def q1_M (P : Nat → Int32) (b g : Int32) (j : Nat) : Nat → Int32 := if g = 3 then up_M (up_f P 0 (P 0 + b)) j else up_f P 0 (P 0 + b)
/-- the page behind the night -/
def q2_M (M : ab_M) (n : Nat) (Q : Nat → Int32) : Nat → Int32 := up_f (if Q 1 - Q 1 / 3 * 3 = 2 then hk_M M Q n else Q) 1 ((if Q 1 - Q 1 / 3 * 3 = 2 then hk_M M Q n else Q) 1 + 1)
def dd_M (M : ab_M) (n s : Nat) (P : Nat → Int32) (w : Int32) : Int32 × (Nat → Int32) := match lm_l M P w n none with
  | none => (0, q2_M M n P)
  | some j => if sa_l M (P 0) s 0 (-9) = -9 then (0, q2_M M n P) else (b1_M M P (b0_M (sm_M M P j) (M.1 33 (sa_l M (P 0) s 0 (-9)).toNatClampNeg)), q2_M M n (q1_M P (b1_M M P (b0_M (sm_M M P j) (M.1 33 (sa_l M (P 0) s 0 (-9)).toNatClampNeg))) (M.1 33 (sa_l M (P 0) s 0 (-9)).toNatClampNeg) j))
def s_X9_goDay : ab_Sem := fun as M Po => match as with
  | [.ref 30, .ref p, .int w] => (p = 38 ∨ p = 39 ∨ p = 40) ∧ ∃ n s : Nat, n ≤ 5 ∧ M.1 30 7 = nI n ∧ s ≤ 8 ∧ M.1 30 4 = nI s ∧ Po (some (.int (dd_M M n s (M.1 p) w).1)) (wt M p (dd_M M n s (M.1 p) w).2)
  | _ => False
theorem q_X9_goDay {p : Nat} {w : Int32} {M : ab_M} {Po : ab_P} : s_X9_goDay [.ref 30, .ref p, .int w] M Po = ((p = 38 ∨ p = 39 ∨ p = 40) ∧ ∃ n s : Nat, n ≤ 5 ∧ M.1 30 7 = nI n ∧ s ≤ 8 ∧ M.1 30 4 = nI s ∧ Po (some (.int (dd_M M n s (M.1 p) w).1)) (wt M p (dd_M M n s (M.1 p) w).2)) := rfl
abbrev x_X9_goDay : ab_X := (some .int, fl_X9, [(266, 3, s_X9_leader), (272, 2, s_X9_stretchAt), (250, 3, s_X9_speed), (279, 2, s_X9_prick), (286, 2, s_X9_heal)], kl_X9, gs_X9, ab_ros)
theorem ca_X9_goDay_133 {v0 v1 v2 : Value} {st : List Value} {M : ab_M} {k : List Value → ab_M → Prop} : ab_ca x_X9_goDay (2 * 133) (v2 :: v1 :: v0 :: st) M k = (st.length ≤ 4 ∧ s_X9_leader [v0, v1, v2] M (fun r M' => k (r.toList ++ st) M')) := rfl
theorem ca_X9_goDay_136 {v0 v1 : Value} {st : List Value} {M : ab_M} {k : List Value → ab_M → Prop} : ab_ca x_X9_goDay (2 * 136) (v1 :: v0 :: st) M k = (st.length ≤ 4 ∧ s_X9_stretchAt [v0, v1] M (fun r M' => k (r.toList ++ st) M')) := rfl
theorem ca_X9_goDay_125 {v0 v1 v2 : Value} {st : List Value} {M : ab_M} {k : List Value → ab_M → Prop} : ab_ca x_X9_goDay (2 * 125) (v2 :: v1 :: v0 :: st) M k = (st.length ≤ 4 ∧ s_X9_speed [v0, v1, v2] M (fun r M' => k (r.toList ++ st) M')) := rfl
theorem ca_X9_goDay_139 {v0 v1 : Value} {st : List Value} {M : ab_M} {k : List Value → ab_M → Prop} : ab_ca x_X9_goDay (2 * 139 + 1) (v1 :: v0 :: st) M k = (st.length ≤ 4 ∧ s_X9_prick [v0, v1] M (fun r M' => k (r.toList ++ st) M')) := rfl
theorem ca_X9_goDay_143 {v0 v1 : Value} {st : List Value} {M : ab_M} {k : List Value → ab_M → Prop} : ab_ca x_X9_goDay (2 * 143) (v1 :: v0 :: st) M k = (st.length ≤ 4 ∧ s_X9_heal [v0, v1] M (fun r M' => k (r.toList ++ st) M')) := rfl
theorem r_X9_goDay : ∀ (as : List Value) (M : ab_M) (Po : ab_P), s_X9_goDay as M Po → ∃ (q : Nat) (as' : List Value) (ci : Nat) (T : u_T) (N : Nat) (fs : List ab_F), as = .ref q :: as' ∧ ab_sh[q]? = some (.inl (ci, fs)) ∧ vwCl[ci]? = some (yX9_goDay.cls, T, N) := by
  intro as M Po h
  unfold s_X9_goDay at h
  split at h
  · first | exact ⟨_, _, 9, _, _, _, rfl, rfl, rfl⟩ | (rcases h.1 with rfl | rfl | rfl <;> exact ⟨_, _, 9, _, _, _, rfl, rfl, rfl⟩)
  · exact h.elim
theorem hpf_38 {M : ab_M} {g : Nat → Int32} : (wt M 38 g).1 38 = g := rfl
theorem hlm_38 {M : ab_M} {g : Nat → Int32} : lm_l (wt M 38 g) = lm_l M := by
  funext P w i f
  exact lm_env (M := M) (N := wt M 38 g) rfl P w i f
theorem hsa_38 {M : ab_M} {g : Nat → Int32} : sa_l (wt M 38 g) = sa_l M := by
  funext x n i f
  exact sa_env (M := M) (N := wt M 38 g) rfl x n i f
theorem hhk_38 {M : ab_M} {g : Nat → Int32} : hk_M (wt M 38 g) = hk_M M := by
  funext P n
  exact hk_env (M := M) (N := wt M 38 g) rfl P n
theorem hsm_38 {M : ab_M} {g : Nat → Int32} : sm_M (wt M 38 g) = sm_M M := rfl
theorem h33_38 {M : ab_M} {g : Nat → Int32} {b : Nat} : (wt M 38 g).1 33 b = M.1 33 b := rfl
theorem hpf_39 {M : ab_M} {g : Nat → Int32} : (wt M 39 g).1 39 = g := rfl
theorem hlm_39 {M : ab_M} {g : Nat → Int32} : lm_l (wt M 39 g) = lm_l M := by
  funext P w i f
  exact lm_env (M := M) (N := wt M 39 g) rfl P w i f
theorem hsa_39 {M : ab_M} {g : Nat → Int32} : sa_l (wt M 39 g) = sa_l M := by
  funext x n i f
  exact sa_env (M := M) (N := wt M 39 g) rfl x n i f
theorem hhk_39 {M : ab_M} {g : Nat → Int32} : hk_M (wt M 39 g) = hk_M M := by
  funext P n
  exact hk_env (M := M) (N := wt M 39 g) rfl P n
theorem hsm_39 {M : ab_M} {g : Nat → Int32} : sm_M (wt M 39 g) = sm_M M := rfl
theorem h33_39 {M : ab_M} {g : Nat → Int32} {b : Nat} : (wt M 39 g).1 33 b = M.1 33 b := rfl
theorem hpf_40 {M : ab_M} {g : Nat → Int32} : (wt M 40 g).1 40 = g := rfl
theorem hlm_40 {M : ab_M} {g : Nat → Int32} : lm_l (wt M 40 g) = lm_l M := by
  funext P w i f
  exact lm_env (M := M) (N := wt M 40 g) rfl P w i f
theorem hsa_40 {M : ab_M} {g : Nat → Int32} : sa_l (wt M 40 g) = sa_l M := by
  funext x n i f
  exact sa_env (M := M) (N := wt M 40 g) rfl x n i f
theorem hhk_40 {M : ab_M} {g : Nat → Int32} : hk_M (wt M 40 g) = hk_M M := by
  funext P n
  exact hk_env (M := M) (N := wt M 40 g) rfl P n
theorem hsm_40 {M : ab_M} {g : Nat → Int32} : sm_M (wt M 40 g) = sm_M M := rfl
theorem h33_40 {M : ab_M} {g : Nat → Int32} {b : Nat} : (wt M 40 g).1 33 b = M.1 33 b := rfl
set_option maxRecDepth 20000 in
set_option maxHeartbeats 4000000 in
theorem lC_X9_goDay {G : ab_K} {Po : ab_P} (hG : ab_Clo cX9_goDay x_X9_goDay Po G) {M : ab_M} {p n : Nat} {w b : Int32} {Q : Nat → Int32} {c3 c4 c6 c7 : Option Value} (hp : p = 38 ∨ p = 39 ∨ p = 40) (hn : n ≤ 5) (hm : M.1 30 7 = nI n) (h : Po (some (.int b)) (wt M p (q2_M M n Q))) : G 129 [some (.ref 30), some (.ref p), some (.int w), c3, c4, some (.int b), c6, c7] [] (wt M p Q) := by
  unfold q2_M at h
  rcases hp with rfl | rfl | rfl
  all_goals
    refine ab_go hG [] 80 _ _ _ _ ?_
    simp (decide := true) only [ew_n, ew_0, Option.toList_some, Option.toList_none, List.cons_append, List.nil_append, true_and, and_true, List.length_cons, List.length_nil, Nat.reduceAdd, Nat.reduceLeDiff, Int32.reduceAdd, Int32.reduceSub, Int32.reduceMul, Int32.reduceLT, Int32.reduceLE, Int32.reduceToNatClampNeg, ↓reduceIte, and_self, si_1, si_2, sl_1, sl_2, false_and, and_false, dX9_goDay_0, dX9_goDay_1, dX9_goDay_2, dX9_goDay_3, dX9_goDay_6, dX9_goDay_7, dX9_goDay_8, dX9_goDay_9, dX9_goDay_10, dX9_goDay_11, dX9_goDay_14, dX9_goDay_16, dX9_goDay_17, dX9_goDay_19, dX9_goDay_20, dX9_goDay_22, dX9_goDay_25, dX9_goDay_27, dX9_goDay_29, dX9_goDay_32, dX9_goDay_33, dX9_goDay_34, dX9_goDay_35, dX9_goDay_38, dX9_goDay_40, dX9_goDay_41, dX9_goDay_44, dX9_goDay_46, dX9_goDay_47, dX9_goDay_49, dX9_goDay_51, dX9_goDay_52, dX9_goDay_55, dX9_goDay_56, dX9_goDay_59, dX9_goDay_61, dX9_goDay_62, dX9_goDay_65, dX9_goDay_67, dX9_goDay_68, dX9_goDay_71, dX9_goDay_73, dX9_goDay_74, dX9_goDay_75, dX9_goDay_78, dX9_goDay_80, dX9_goDay_82, dX9_goDay_83, dX9_goDay_84, dX9_goDay_85, dX9_goDay_87, dX9_goDay_88, dX9_goDay_89, dX9_goDay_92, dX9_goDay_95, dX9_goDay_96, dX9_goDay_99, dX9_goDay_100, dX9_goDay_101, dX9_goDay_102, dX9_goDay_103, dX9_goDay_106, dX9_goDay_108, dX9_goDay_110, dX9_goDay_111, dX9_goDay_112, dX9_goDay_113, dX9_goDay_114, dX9_goDay_116, dX9_goDay_117, dX9_goDay_118, dX9_goDay_120, dX9_goDay_121, dX9_goDay_124, dX9_goDay_125, dX9_goDay_126, dX9_goDay_129, dX9_goDay_130, dX9_goDay_131, dX9_goDay_132, dX9_goDay_133, dX9_goDay_134, dX9_goDay_135, dX9_goDay_138, dX9_goDay_139, dX9_goDay_140, dX9_goDay_143, dX9_goDay_144, dX9_goDay_145, dX9_goDay_146, dX9_goDay_147, dX9_goDay_148, dX9_goDay_149, dX9_goDay_150, dX9_goDay_152, ca_X9_goDay_125, ca_X9_goDay_133, ca_X9_goDay_136, ca_X9_goDay_139, ca_X9_goDay_143, e_aload_n0, e_aload_n1, e_calls, e_callv, e_dup2, e_getfield, e_iadd, e_iaload, e_iastore, e_idiv, e_iload4, e_iload5, e_iload6, e_iload7, e_iload_n2, e_iload_n3, e_irem, e_ireturn, e_istore4i, e_istore4n, e_istore4r, e_istore5i, e_istore5n, e_istore5r, e_istore6i, e_istore6n, e_istore6r, e_istore7i, e_istore7n, e_istore7r, e_istore_n3i, e_istore_n3n, e_istore_n3r, e_isub, ea_33, ea_38, ea_39, ea_40, es_33, es_38, es_39, es_40, gf_X9_111_30, gf_X9_16_30, j_bp_m9, j_goto_103_5, j_goto_56_24, j_goto_75_5, j_ic_0, j_ic_1, j_ic_2, j_ic_3, j_icmp_eq_22_107, j_icmp_eq_29_100, j_icmp_le_68_10, j_icmp_le_92_14, j_icmp_ne_121_8, j_icmp_ne_135_8, j_icmp_ne_52_7, j_icmp_ne_62_16, q_X9_heal, q_X9_leader, q_X9_prick, q_X9_speed, q_X9_stretchAt, h35_38, h30_38, hpp_38, h35_39, h30_39, hpp_39, h35_40, h30_40, hpp_40, hpf_38, hlm_38, hsa_38, hhk_38, hsm_38, h33_38, hpf_39, hlm_39, hsa_39, hhk_39, hsm_39, h33_39, hpf_40, hlm_40, hsa_40, hhk_40, hsm_40, h33_40, wt_wt, wt_s, hm, ab_rn, bi_0, bi_1, ite_not]
    split
    · rename_i h2
      simp only [if_pos h2] at h
      exact ⟨n, hn, rfl, h⟩
    · rename_i h2
      simp only [if_neg h2] at h
      exact h
set_option maxRecDepth 20000 in
set_option maxHeartbeats 4000000 in
theorem lB_X9_goDay {G : ab_K} {Po : ab_P} (hG : ab_Clo cX9_goDay x_X9_goDay Po G) {M : ab_M} {p n j : Nat} {w b v g z : Int32} {Q : Nat → Int32} (hp : p = 38 ∨ p = 39 ∨ p = 40) (hj : j < 5) (hn : n ≤ 5) (hm : M.1 30 7 = nI n) (h : Po (some (.int (b1_M M Q b))) (wt M p (q2_M M n (q1_M Q (b1_M M Q b) g j)))) : G 82 [some (.ref 30), some (.ref p), some (.int w), some (.int (nI j)), some (.int z), some (.int b), some (.int v), some (.int g)] [] (wt M p Q) := by
  have hp2 := hp
  have hC := fun c3 c4 c6 c7 => lC_X9_goDay hG (w := w) (c3 := c3) (c4 := c4) (c6 := c6) (c7 := c7) hp2 hn hm h
  unfold q1_M b1_M at hC
  rcases hp with rfl | rfl | rfl
  all_goals
    refine ab_go hG [129] 80 _ _ _ _ ?_
    simp (decide := true) only [ew_s, ew_0, Option.toList_some, Option.toList_none, List.cons_append, List.nil_append, true_and, and_true, List.length_cons, List.length_nil, Nat.reduceAdd, Nat.reduceLeDiff, Int32.reduceAdd, Int32.reduceSub, Int32.reduceMul, Int32.reduceLT, Int32.reduceLE, Int32.reduceToNatClampNeg, ↓reduceIte, and_self, si_1, si_2, sl_1, sl_2, false_and, and_false, dX9_goDay_0, dX9_goDay_1, dX9_goDay_2, dX9_goDay_3, dX9_goDay_6, dX9_goDay_7, dX9_goDay_8, dX9_goDay_9, dX9_goDay_10, dX9_goDay_11, dX9_goDay_14, dX9_goDay_16, dX9_goDay_17, dX9_goDay_19, dX9_goDay_20, dX9_goDay_22, dX9_goDay_25, dX9_goDay_27, dX9_goDay_29, dX9_goDay_32, dX9_goDay_33, dX9_goDay_34, dX9_goDay_35, dX9_goDay_38, dX9_goDay_40, dX9_goDay_41, dX9_goDay_44, dX9_goDay_46, dX9_goDay_47, dX9_goDay_49, dX9_goDay_51, dX9_goDay_52, dX9_goDay_55, dX9_goDay_56, dX9_goDay_59, dX9_goDay_61, dX9_goDay_62, dX9_goDay_65, dX9_goDay_67, dX9_goDay_68, dX9_goDay_71, dX9_goDay_73, dX9_goDay_74, dX9_goDay_75, dX9_goDay_78, dX9_goDay_80, dX9_goDay_82, dX9_goDay_83, dX9_goDay_84, dX9_goDay_85, dX9_goDay_87, dX9_goDay_88, dX9_goDay_89, dX9_goDay_92, dX9_goDay_95, dX9_goDay_96, dX9_goDay_99, dX9_goDay_100, dX9_goDay_101, dX9_goDay_102, dX9_goDay_103, dX9_goDay_106, dX9_goDay_108, dX9_goDay_110, dX9_goDay_111, dX9_goDay_112, dX9_goDay_113, dX9_goDay_114, dX9_goDay_116, dX9_goDay_117, dX9_goDay_118, dX9_goDay_120, dX9_goDay_121, dX9_goDay_124, dX9_goDay_125, dX9_goDay_126, dX9_goDay_129, dX9_goDay_130, dX9_goDay_131, dX9_goDay_132, dX9_goDay_133, dX9_goDay_134, dX9_goDay_135, dX9_goDay_138, dX9_goDay_139, dX9_goDay_140, dX9_goDay_143, dX9_goDay_144, dX9_goDay_145, dX9_goDay_146, dX9_goDay_147, dX9_goDay_148, dX9_goDay_149, dX9_goDay_150, dX9_goDay_152, ca_X9_goDay_125, ca_X9_goDay_133, ca_X9_goDay_136, ca_X9_goDay_139, ca_X9_goDay_143, e_aload_n0, e_aload_n1, e_calls, e_callv, e_dup2, e_getfield, e_iadd, e_iaload, e_iastore, e_idiv, e_iload4, e_iload5, e_iload6, e_iload7, e_iload_n2, e_iload_n3, e_irem, e_ireturn, e_istore4i, e_istore4n, e_istore4r, e_istore5i, e_istore5n, e_istore5r, e_istore6i, e_istore6n, e_istore6r, e_istore7i, e_istore7n, e_istore7r, e_istore_n3i, e_istore_n3n, e_istore_n3r, e_isub, ea_33, ea_38, ea_39, ea_40, es_33, es_38, es_39, es_40, gf_X9_111_30, gf_X9_16_30, j_bp_m9, j_goto_103_5, j_goto_56_24, j_goto_75_5, j_ic_0, j_ic_1, j_ic_2, j_ic_3, j_icmp_eq_22_107, j_icmp_eq_29_100, j_icmp_le_68_10, j_icmp_le_92_14, j_icmp_ne_121_8, j_icmp_ne_135_8, j_icmp_ne_52_7, j_icmp_ne_62_16, q_X9_heal, q_X9_leader, q_X9_prick, q_X9_speed, q_X9_stretchAt, h35_38, h30_38, hpp_38, h35_39, h30_39, hpp_39, h35_40, h30_40, hpp_40, hpf_38, hlm_38, hsa_38, hhk_38, hsm_38, h33_38, hpf_39, hlm_39, hsa_39, hhk_39, hsm_39, h33_39, hpf_40, hlm_40, hsa_40, hhk_40, hsm_40, h33_40, wt_wt, wt_s, ab_rn, bi_0, bi_1, ite_not]
    split
    · rename_i h2
      simp only [if_pos h2] at hC
      split
      · rename_i h3
        simp only [if_pos h3] at hC
        exact ⟨j, hj, rfl, hC _ _ _ _⟩
      · rename_i h3
        simp only [if_neg h3] at hC
        exact hC _ _ _ _
    · rename_i h2
      simp only [if_neg h2] at hC
      split
      · rename_i h3
        simp only [if_pos h3] at hC
        exact ⟨j, hj, rfl, hC _ _ _ _⟩
      · rename_i h3
        simp only [if_neg h3] at hC
        exact hC _ _ _ _
set_option maxRecDepth 20000 in
set_option maxHeartbeats 4000000 in
theorem lA_X9_goDay {G : ab_K} {Po : ab_P} (hG : ab_Clo cX9_goDay x_X9_goDay Po G) {M : ab_M} {p n s : Nat} {w : Int32} {Q : Nat → Int32} (hp : p = 38 ∨ p = 39 ∨ p = 40) (hn : n ≤ 5) (hm : M.1 30 7 = nI n) (hs : s ≤ 8) (hst : M.1 30 4 = nI s) (h : Po (some (.int (dd_M M n s Q w).1)) (wt M p (dd_M M n s Q w).2)) : G 0 [some (.ref 30), some (.ref p), some (.int w), none, none, none, none, none] [] (wt M p Q) := by
  have hp2 := hp
  unfold dd_M at h
  have hr := lm_range (M := M) (P := Q) (w := w) n none hn (fun j e => by cases e)
  have hz := sa_range (M := M) (x := Q 0) s 0 (-9)
  have hC := fun c3 c4 b c6 c7 hh => lC_X9_goDay hG (w := w) (Q := Q) (c3 := c3) (c4 := c4) (c6 := c6) (c7 := c7) (b := b) hp2 hn hm hh
  have hB := fun j z b v g hj hh => lB_X9_goDay hG (w := w) (Q := Q) (j := j) (z := z) (b := b) (v := v) (g := g) hp2 hj hn hm hh
  rcases hp with rfl | rfl | rfl
  all_goals
    refine ab_go hG [82, 129] 80 _ _ _ _ ?_
    simp (decide := true) only [ew_s, ew_0, Option.toList_some, Option.toList_none, List.cons_append, List.nil_append, true_and, and_true, List.length_cons, List.length_nil, Nat.reduceAdd, Nat.reduceLeDiff, Int32.reduceAdd, Int32.reduceSub, Int32.reduceMul, Int32.reduceLT, Int32.reduceLE, Int32.reduceToNatClampNeg, ↓reduceIte, and_self, si_1, si_2, sl_1, sl_2, false_and, and_false, dX9_goDay_0, dX9_goDay_1, dX9_goDay_2, dX9_goDay_3, dX9_goDay_6, dX9_goDay_7, dX9_goDay_8, dX9_goDay_9, dX9_goDay_10, dX9_goDay_11, dX9_goDay_14, dX9_goDay_16, dX9_goDay_17, dX9_goDay_19, dX9_goDay_20, dX9_goDay_22, dX9_goDay_25, dX9_goDay_27, dX9_goDay_29, dX9_goDay_32, dX9_goDay_33, dX9_goDay_34, dX9_goDay_35, dX9_goDay_38, dX9_goDay_40, dX9_goDay_41, dX9_goDay_44, dX9_goDay_46, dX9_goDay_47, dX9_goDay_49, dX9_goDay_51, dX9_goDay_52, dX9_goDay_55, dX9_goDay_56, dX9_goDay_59, dX9_goDay_61, dX9_goDay_62, dX9_goDay_65, dX9_goDay_67, dX9_goDay_68, dX9_goDay_71, dX9_goDay_73, dX9_goDay_74, dX9_goDay_75, dX9_goDay_78, dX9_goDay_80, dX9_goDay_82, dX9_goDay_83, dX9_goDay_84, dX9_goDay_85, dX9_goDay_87, dX9_goDay_88, dX9_goDay_89, dX9_goDay_92, dX9_goDay_95, dX9_goDay_96, dX9_goDay_99, dX9_goDay_100, dX9_goDay_101, dX9_goDay_102, dX9_goDay_103, dX9_goDay_106, dX9_goDay_108, dX9_goDay_110, dX9_goDay_111, dX9_goDay_112, dX9_goDay_113, dX9_goDay_114, dX9_goDay_116, dX9_goDay_117, dX9_goDay_118, dX9_goDay_120, dX9_goDay_121, dX9_goDay_124, dX9_goDay_125, dX9_goDay_126, dX9_goDay_129, dX9_goDay_130, dX9_goDay_131, dX9_goDay_132, dX9_goDay_133, dX9_goDay_134, dX9_goDay_135, dX9_goDay_138, dX9_goDay_139, dX9_goDay_140, dX9_goDay_143, dX9_goDay_144, dX9_goDay_145, dX9_goDay_146, dX9_goDay_147, dX9_goDay_148, dX9_goDay_149, dX9_goDay_150, dX9_goDay_152, ca_X9_goDay_125, ca_X9_goDay_133, ca_X9_goDay_136, ca_X9_goDay_139, ca_X9_goDay_143, e_aload_n0, e_aload_n1, e_calls, e_callv, e_dup2, e_getfield, e_iadd, e_iaload, e_iastore, e_idiv, e_iload4, e_iload5, e_iload6, e_iload7, e_iload_n2, e_iload_n3, e_irem, e_ireturn, e_istore4i, e_istore4n, e_istore4r, e_istore5i, e_istore5n, e_istore5r, e_istore6i, e_istore6n, e_istore6r, e_istore7i, e_istore7n, e_istore7r, e_istore_n3i, e_istore_n3n, e_istore_n3r, e_isub, ea_33, ea_38, ea_39, ea_40, es_33, es_38, es_39, es_40, gf_X9_111_30, gf_X9_16_30, j_bp_m9, j_goto_103_5, j_goto_56_24, j_goto_75_5, j_ic_0, j_ic_1, j_ic_2, j_ic_3, j_icmp_eq_22_107, j_icmp_eq_29_100, j_icmp_le_68_10, j_icmp_le_92_14, j_icmp_ne_121_8, j_icmp_ne_135_8, j_icmp_ne_52_7, j_icmp_ne_62_16, q_X9_heal, q_X9_leader, q_X9_prick, q_X9_speed, q_X9_stretchAt, h35_38, h30_38, hpp_38, h35_39, h30_39, hpp_39, h35_40, h30_40, hpp_40, hpf_38, hlm_38, hsa_38, hhk_38, hsm_38, h33_38, hpf_39, hlm_39, hsa_39, hhk_39, hsm_39, h33_39, hpf_40, hlm_40, hsa_40, hhk_40, hsm_40, h33_40, wt_wt, wt_s, hm, hst, ab_rn, bi_0, bi_1, ite_not]
    refine ⟨n, hn, rfl, s, hs, rfl, ?_⟩
    generalize lm_l M Q w n none = L at h hr ⊢
    generalize sa_l M (Q 0) s 0 (-9) = z at h hz ⊢
    cases L with
    | none =>
      rw [if_pos (show fv_M none = -9 from rfl)]
      exact hC _ _ _ _ _ h
    | some j =>
      have hj := hr j rfl
      dsimp only at h
      rw [if_neg (show ¬ fv_M (some j) = -9 from fv_ne hj)]
      by_cases h2 : z = -9
      · rw [if_pos h2] at h ⊢
        exact hC _ _ _ _ _ h
      · rw [if_neg h2] at h ⊢
        obtain ⟨i, _, hi, rfl⟩ := hz.resolve_left h2
        obtain ⟨e1, e2⟩ := c_8 (i := i) (by omega)
        rw [e1] at h
        refine ⟨j, hj, rfl, e2, ?_⟩
        simp only [e1]
        have hB1 := fun z b v hh => hB j z b v (M.1 33 i) hj hh
        unfold b0_M at h
        by_cases h3 : M.1 33 i = 2
        · simp only [if_pos h3] at h ⊢
          exact hB1 _ _ _ h
        · simp only [if_neg h3] at h ⊢
          by_cases h4 : M.1 33 i = 1
          · simp only [if_pos h4] at h ⊢
            by_cases h5 : 1 < sm_M M Q j
            · simp only [if_pos h5] at h ⊢
              exact hB1 _ _ _ h
            · simp only [if_neg h5] at h ⊢
              exact hB1 _ _ _ h
          · simp only [if_neg h4] at h ⊢
            exact hB1 _ _ _ h
set_option maxRecDepth 20000 in
set_option maxHeartbeats 4000000 in
theorem c_X9_goDay {l : Launch} : ab_ctr l yX9_goDay cX9_goDay 8 (some .int) 3 69 s_X9_goDay := by
  refine ab_met x_X9_goDay (by decide) rfl fo_X9 ko_X9 so_X9 rfl (ab_cs_cons (ab_kV c_X9_leader ml_X9_133 v_X9_leader ⟨rfl, rfl⟩ r_X9_leader) (ab_cs_cons (ab_kV c_X9_stretchAt ml_X9_136 v_X9_stretchAt ⟨rfl, rfl⟩ r_X9_stretchAt) (ab_cs_cons (ab_kV c_X9_speed ml_X9_125 v_X9_speed ⟨rfl, rfl⟩ r_X9_speed) (ab_cs_cons (ab_kS c_X9_prick ml_X9_139 v_X9_prick ⟨rfl, rfl⟩) (ab_cs_cons (ab_kV c_X9_heal ml_X9_143 v_X9_heal ⟨rfl, rfl⟩ r_X9_heal) ab_cs_nil))))) ?_ ?_
  · intro as M Po h
    unfold s_X9_goDay at h
    split at h
    · simp [ab_e0]
    · exact h.elim
  · intro as M Po h G hG
    unfold s_X9_goDay at h
    split at h
    · simp only [ab_en, ab_e0, List.length_cons, List.length_nil, Nat.reduceAdd, Nat.reduceSub, List.replicate, List.cons_append, List.nil_append]
      rename_i p w
      obtain ⟨hp, n, s, hn, hm, hs, hst, h⟩ := h
      have key := lA_X9_goDay hG hp hn hm hs hst h
      rw [wt_id] at key
      exact key
    · exact h.elim

def hh_M (M : ab_M) (n : Nat) (P : Nat → Int32) : Nat → Int32 := up_f (hk_M M P n) 1 (hk_M M P n 1 + 1)
def al_M (P : Nat → Int32) : Int32 := P 2 + P 3 + P 4 + P 5 + P 6
def s_X9_goHalt : ab_Sem := fun as M Po => match as with
  | [.ref 30, .ref p] => (p = 38 ∨ p = 39 ∨ p = 40) ∧ ∃ n : Nat, n ≤ 5 ∧ M.1 30 7 = nI n ∧ Po (some (.int (al_M (hh_M M n (M.1 p))))) (wt M p (hh_M M n (M.1 p)))
  | _ => False
theorem q_X9_goHalt {p : Nat} {M : ab_M} {Po : ab_P} : s_X9_goHalt [.ref 30, .ref p] M Po = ((p = 38 ∨ p = 39 ∨ p = 40) ∧ ∃ n : Nat, n ≤ 5 ∧ M.1 30 7 = nI n ∧ Po (some (.int (al_M (hh_M M n (M.1 p))))) (wt M p (hh_M M n (M.1 p)))) := rfl
abbrev x_X9_goHalt : ab_X := (some .int, fl_X9, [(286, 2, s_X9_heal), (295, 1, s_X9_allThorns)], kl_X9, gs_X9, ab_ros)
theorem ca_X9_goHalt_143 {v0 v1 : Value} {st : List Value} {M : ab_M} {k : List Value → ab_M → Prop} : ab_ca x_X9_goHalt (2 * 143) (v1 :: v0 :: st) M k = (st.length ≤ 4 ∧ s_X9_heal [v0, v1] M (fun r M' => k (r.toList ++ st) M')) := rfl
theorem ca_X9_goHalt_147 {v0 : Value} {st : List Value} {M : ab_M} {k : List Value → ab_M → Prop} : ab_ca x_X9_goHalt (2 * 147 + 1) (v0 :: st) M k = (st.length ≤ 4 ∧ s_X9_allThorns [v0] M (fun r M' => k (r.toList ++ st) M')) := rfl
theorem r_X9_goHalt : ∀ (as : List Value) (M : ab_M) (Po : ab_P), s_X9_goHalt as M Po → ∃ (q : Nat) (as' : List Value) (ci : Nat) (T : u_T) (N : Nat) (fs : List ab_F), as = .ref q :: as' ∧ ab_sh[q]? = some (.inl (ci, fs)) ∧ vwCl[ci]? = some (yX9_goHalt.cls, T, N) := by
  intro as M Po h
  unfold s_X9_goHalt at h
  split at h
  · first | exact ⟨_, _, 9, _, _, _, rfl, rfl, rfl⟩ | (rcases h.1 with rfl | rfl | rfl <;> exact ⟨_, _, 9, _, _, _, rfl, rfl, rfl⟩)
  · exact h.elim
set_option maxRecDepth 20000 in
set_option maxHeartbeats 4000000 in
theorem c_X9_goHalt {l : Launch} : ab_ctr l yX9_goHalt cX9_goHalt 2 (some .int) 1 22 s_X9_goHalt := by
  refine ab_met x_X9_goHalt (by decide) rfl fo_X9 ko_X9 so_X9 rfl (ab_cs_cons (ab_kV c_X9_heal ml_X9_143 v_X9_heal ⟨rfl, rfl⟩ r_X9_heal) (ab_cs_cons (ab_kS c_X9_allThorns ml_X9_147 v_X9_allThorns ⟨rfl, rfl⟩) ab_cs_nil)) ?_ ?_
  · intro as M Po h
    unfold s_X9_goHalt at h
    split at h
    · simp [ab_e0]
    · exact h.elim
  · intro as M Po h G hG
    unfold s_X9_goHalt at h
    split at h
    · simp only [ab_en, ab_e0, List.length_cons, List.length_nil, Nat.reduceAdd, Nat.reduceSub, List.replicate, List.cons_append, List.nil_append]
      obtain ⟨hp, n, hn, hm, h⟩ := h
      unfold al_M hh_M at h
      rcases hp with rfl | rfl | rfl
      all_goals
        refine ab_go hG [] 80 _ _ _ _ ?_
        simp (decide := true) only [ew_n, ew_0, Option.toList_some, Option.toList_none, List.cons_append, List.nil_append, true_and, and_true, List.length_cons, List.length_nil, Nat.reduceAdd, Nat.reduceLeDiff, Int32.reduceAdd, Int32.reduceSub, Int32.reduceMul, Int32.reduceLT, Int32.reduceLE, Int32.reduceToNatClampNeg, ↓reduceIte, and_self, si_1, si_2, sl_1, sl_2, false_and, and_false, dX9_goHalt_0, dX9_goHalt_1, dX9_goHalt_2, dX9_goHalt_5, dX9_goHalt_6, dX9_goHalt_7, dX9_goHalt_8, dX9_goHalt_9, dX9_goHalt_10, dX9_goHalt_11, dX9_goHalt_12, dX9_goHalt_13, dX9_goHalt_16, ca_X9_goHalt_143, ca_X9_goHalt_147, e_aload_n0, e_aload_n1, e_calls, e_callv, e_dup2, e_iadd, e_iaload, e_iastore, e_ireturn, ea_38, ea_39, ea_40, es_38, es_39, es_40, j_ic_1, q_X9_allThorns, q_X9_heal, h35_38, h30_38, hpp_38, h35_39, h30_39, hpp_39, h35_40, h30_40, hpp_40, hpf_38, hlm_38, hsa_38, hhk_38, hsm_38, h33_38, hpf_39, hlm_39, hsa_39, hhk_39, hsm_39, h33_39, hpf_40, hlm_40, hsa_40, hhk_40, hsm_40, h33_40, wt_wt, wt_s, hm, ab_rn, bi_0, bi_1, ite_not]
        exact ⟨n, hn, rfl, h⟩
    · exact h.elim

