/-! METHODS: the model, the text read -/
/-- the memory while the text is read: place, stretches, men, what is read -/
def rd (M : ab_M) (p s m : Nat) (R Q : Nat → Int32) : ab_M := (fun a b => if a = 30 then (if b = 3 then nI p else if b = 11 then nI s else if b = 13 then nI m else M.1 30 b) else if a = 36 then R b else if a = 37 then Q b else M.1 a b, M.2)
theorem rd_3 {M : ab_M} {p s m : Nat} {R Q : Nat → Int32} : (rd M p s m R Q).1 30 3 = nI p := rfl
theorem rd_11 {M : ab_M} {p s m : Nat} {R Q : Nat → Int32} : (rd M p s m R Q).1 30 11 = nI s := rfl
theorem rd_13 {M : ab_M} {p s m : Nat} {R Q : Nat → Int32} : (rd M p s m R Q).1 30 13 = nI m := rfl
theorem rd_2 {M : ab_M} {p s m : Nat} {R Q : Nat → Int32} : (rd M p s m R Q).1 30 2 = M.1 30 2 := rfl
theorem rd_31 {M : ab_M} {p s m : Nat} {R Q : Nat → Int32} {b : Nat} : (rd M p s m R Q).1 31 b = M.1 31 b := rfl
theorem rd_s3 {M : ab_M} {p s m : Nat} {R Q : Nat → Int32} {x : Nat} : ab_si (rd M p s m R Q) 30 3 (nI x) = rd M x s m R Q := by
  refine Prod.ext (funext fun a => funext fun b => ?_) rfl
  simp only [ab_si, rd]
  by_cases h : a = 30 ∧ b = 3
  · obtain ⟨rfl, rfl⟩ := h
    rfl
  · rw [if_neg h]
    by_cases h1 : a = 30
    · rw [if_pos h1, if_pos h1, if_neg (fun h2 => h ⟨h1, h2⟩), if_neg (fun h2 => h ⟨h1, h2⟩)]
    · rw [if_neg h1, if_neg h1]
theorem rd_s11 {M : ab_M} {p s m : Nat} {R Q : Nat → Int32} {x : Nat} : ab_si (rd M p s m R Q) 30 11 (nI x) = rd M p x m R Q := by
  refine Prod.ext (funext fun a => funext fun b => ?_) rfl
  simp only [ab_si, rd]
  by_cases h : a = 30 ∧ b = 11
  · obtain ⟨rfl, rfl⟩ := h
    rfl
  · rw [if_neg h]
    by_cases h1 : a = 30
    · rw [if_pos h1, if_pos h1, if_neg (c := b = 11) (fun h2 => h ⟨h1, h2⟩), if_neg (c := b = 11) (fun h2 => h ⟨h1, h2⟩)]
    · rw [if_neg h1, if_neg h1]
theorem rd_s13 {M : ab_M} {p s m : Nat} {R Q : Nat → Int32} {x : Nat} : ab_si (rd M p s m R Q) 30 13 (nI x) = rd M p s x R Q := by
  refine Prod.ext (funext fun a => funext fun b => ?_) rfl
  simp only [ab_si, rd]
  by_cases h : a = 30 ∧ b = 13
  · obtain ⟨rfl, rfl⟩ := h
    rfl
  · rw [if_neg h]
    by_cases h1 : a = 30
    · rw [if_pos h1, if_pos h1, if_neg (c := b = 13) (fun h2 => h ⟨h1, h2⟩), if_neg (c := b = 13) (fun h2 => h ⟨h1, h2⟩)]
    · rw [if_neg h1, if_neg h1]
theorem rd_s36 {M : ab_M} {p s m : Nat} {R Q : Nat → Int32} {k : Nat} {x : Int32} : ab_si (rd M p s m R Q) 36 k x = rd M p s m (up_f R k x) Q := by
  refine Prod.ext (funext fun a => funext fun b => ?_) rfl
  simp only [ab_si, rd, up_f]
  by_cases h1 : a = 36
  · subst h1
    by_cases h2 : b = k
    · rw [if_pos ⟨rfl, h2⟩, if_neg (by decide), if_pos rfl, if_pos h2]
    · rw [if_neg (fun h => h2 h.2)]
      show R b = if b = k then x else R b
      rw [if_neg h2]
  · rw [if_neg (fun h => h1 h.1), if_neg h1, if_neg h1]
theorem rd_s37 {M : ab_M} {p s m : Nat} {R Q : Nat → Int32} {k : Nat} {x : Int32} : ab_si (rd M p s m R Q) 37 k x = rd M p s m R (up_f Q k x) := by
  refine Prod.ext (funext fun a => funext fun b => ?_) rfl
  simp only [ab_si, rd, up_f]
  by_cases h1 : a = 37
  · subst h1
    by_cases h2 : b = k
    · rw [if_pos ⟨rfl, h2⟩, if_neg (by decide), if_neg (by decide), if_pos rfl, if_pos h2]
    · rw [if_neg (fun h => h2 h.2)]
      show Q b = if b = k then x else Q b
      rw [if_neg h2]
  · rw [if_neg (fun h => h1 h.1), if_neg (c := a = 37) h1, if_neg (c := a = 37) h1]
theorem rd_00 {M : ab_M} : ab_si (ab_si (ab_si M 30 3 0) 30 11 0) 30 13 0 = rd M 0 0 0 (M.1 36) (M.1 37) := by
  have h : M = rd M 0 0 0 (M.1 36) (M.1 37) ∨ True := Or.inr trivial
  refine Prod.ext (funext fun a => funext fun b => ?_) rfl
  simp only [ab_si, rd]
  by_cases h1 : a = 30
  · subst h1
    by_cases h2 : b = 13
    · subst h2; rfl
    · by_cases h3 : b = 11
      · subst h3; rfl
      · by_cases h4 : b = 3
        · subst h4; rfl
        · rw [if_neg (fun h => h2 h.2), if_neg (fun h => h3 h.2), if_neg (fun h => h4 h.2), if_pos rfl, if_neg h4, if_neg h3, if_neg h2]
  · rw [if_neg (fun h => h1 h.1), if_neg (fun h => h1 h.1), if_neg (fun h => h1 h.1), if_neg h1]
    by_cases h2 : a = 36
    · subst h2; rfl
    · by_cases h3 : a = 37
      · subst h3; rfl
      · rw [if_neg h2, if_neg h3]
/-- there is a fitting figure at a place -/
abbrev fgk (M : ab_M) (z p : Nat) (a b : Int32) : Prop := p < z ∧ ¬ M.1 31 p - 48 < a ∧ ¬ b < M.1 31 p - 48
abbrev rk_T : Type := Int32 → Nat → Nat → Nat → (Nat → Int32) → (Nat → Int32) → Prop
def rS_M (M : ab_M) (z p s m : Nat) (R Q : Nat → Int32) (K : rk_T) : Prop := if fgk M z p 1 9 then (if fgk M z (p + 1) 0 3 then K 1 (p + 2) (s + 1) m (up_f (up_f R (2 * s) (M.1 31 p - 48)) (2 * s + 1) (M.1 31 (p + 1) - 48)) Q else K 0 (p + 1) s m R Q) else K 0 p s m R Q
def rM_M (M : ab_M) (z p s m : Nat) (R Q : Nat → Int32) (K : rk_T) : Prop := if fgk M z p 1 9 then (if fgk M z (p + 1) 0 3 then (if fgk M z (p + 2) 0 9 then K 1 (p + 3) s (m + 1) R (up_f (up_f (up_f Q (3 * m) (M.1 31 p - 48)) (3 * m + 1) (M.1 31 (p + 1) - 48)) (3 * m + 2) (M.1 31 (p + 2) - 48)) else K 0 (p + 2) s m R Q) else K 0 (p + 1) s m R Q) else K 0 p s m R Q
def rt_M (M : ab_M) (z p s m : Nat) (R Q : Nat → Int32) (K : rk_T) : Prop := if M.1 31 p = 83 ∧ s < 8 then rS_M M z (p + 1) s m R Q K else if M.1 31 p = 77 ∧ m < 5 then rM_M M z (p + 1) s m R Q K else K 0 p s m R Q
def ra_M (M : ab_M) (z : Nat) : Nat → Nat → Nat → Nat → (Nat → Int32) → (Nat → Int32) → rk_T → Prop
  | 0, p, s, m, R, Q, K => K (-9) p s m R Q
  | j + 1, p, s, m, R, Q, K => if p < z then rt_M M z p s m R Q (fun r p s m R Q => if r = 0 then K (nI p) p s m R Q else ra_M M z j p s m R Q K) else K (-9) p s m R Q
theorem nI_eqz {a b : Nat} (ha : a < 2 ^ 31) (hb : b < 2 ^ 31) : (nI a = nI b) = (a = b) := propext ⟨fun h => by have h2 := congrArg Int32.toNatClampNeg h; rw [nI_clamp ha, nI_clamp hb] at h2; exact h2, fun h => by rw [h]⟩
theorem in9 {x a : Int32} (h : ¬ x < a) (ha : ¬ a < 0) : ¬ x = -9 := by
  intro hx
  subst hx
  rw [Int32.lt_iff_toInt_lt] at h ha
  have h9 : (-9 : Int32).toInt = -9 := by decide
  have h0 : (0 : Int32).toInt = 0 := by decide
  omega
def s_X9_figure : ab_Sem := fun as M Po => match as with
  | [.ref 30, .int a, .int b] => ∃ (N : ab_M) (p z s m : Nat) (R Q : Nat → Int32), M = rd N p s m R Q ∧ p ≤ z ∧ z ≤ 48 ∧ N.1 30 2 = nI z ∧ (if fgk N z p a b then Po (some (.int (N.1 31 p - 48))) (rd N (p + 1) s m R Q) else Po (some (.int (-9))) (rd N p s m R Q))
  | _ => False
theorem q_X9_figure {a b : Int32} {M : ab_M} {Po : ab_P} : s_X9_figure [.ref 30, .int a, .int b] M Po = (∃ (N : ab_M) (p z s m : Nat) (R Q : Nat → Int32), M = rd N p s m R Q ∧ p ≤ z ∧ z ≤ 48 ∧ N.1 30 2 = nI z ∧ (if fgk N z p a b then Po (some (.int (N.1 31 p - 48))) (rd N (p + 1) s m R Q) else Po (some (.int (-9))) (rd N p s m R Q))) := rfl
abbrev x_X9_figure : ab_X := (some .int, fl_X9, [(145, 3, s_X9_in)], kl_X9, gs_X9, ab_ros)
theorem ca_X9_figure_72 {v0 v1 v2 : Value} {st : List Value} {M : ab_M} {k : List Value → ab_M → Prop} : ab_ca x_X9_figure (2 * 72 + 1) (v2 :: v1 :: v0 :: st) M k = (st.length ≤ 4 ∧ s_X9_in [v0, v1, v2] M (fun r M' => k (r.toList ++ st) M')) := rfl
theorem r_X9_figure : ∀ (as : List Value) (M : ab_M) (Po : ab_P), s_X9_figure as M Po → ∃ (q : Nat) (as' : List Value) (ci : Nat) (T : u_T) (N : Nat) (fs : List ab_F), as = .ref q :: as' ∧ ab_sh[q]? = some (.inl (ci, fs)) ∧ vwCl[ci]? = some (yX9_figure.cls, T, N) := by
  intro as M Po h
  unfold s_X9_figure at h
  split at h
  · first | exact ⟨_, _, 9, _, _, _, rfl, rfl, rfl⟩ | (rcases h.1 with rfl | rfl | rfl <;> exact ⟨_, _, 9, _, _, _, rfl, rfl, rfl⟩)
  · exact h.elim
set_option maxRecDepth 20000 in
set_option maxHeartbeats 4000000 in
theorem c_X9_figure {l : Launch} : ab_ctr l yX9_figure cX9_figure 3 (some .int) 1 25 s_X9_figure := by
  refine ab_met x_X9_figure (by decide) rfl fo_X9 ko_X9 so_X9 rfl (ab_cs_cons (ab_kS c_X9_in ml_X9_72 v_X9_in ⟨rfl, rfl⟩) ab_cs_nil) ?_ ?_
  · intro as M Po h
    unfold s_X9_figure at h
    split at h
    · simp [ab_e0]
    · exact h.elim
  · intro as M Po h G hG
    unfold s_X9_figure at h
    split at h
    · simp only [ab_en, ab_e0, List.length_cons, List.length_nil, Nat.reduceAdd, Nat.reduceSub, List.replicate, List.cons_append, List.nil_append]
      obtain ⟨N, p, z, s, m, R, Q, rfl, hp, hz, hs, h⟩ := h
      by_cases h1 : p = z
      · rw [if_neg (fun hh => by omega)] at h
        subst h1
        refine ab_go hG [] 80 _ _ _ _ ?_
        simp (decide := true) only [ew_n, ew_0, Option.toList_some, Option.toList_none, List.cons_append, List.nil_append, true_and, and_true, List.length_cons, List.length_nil, Nat.reduceAdd, Nat.reduceLeDiff, Int32.reduceAdd, Int32.reduceSub, Int32.reduceMul, Int32.reduceLT, Int32.reduceLE, Int32.reduceToNatClampNeg, ↓reduceIte, and_self, si_1, si_2, sl_1, sl_2, false_and, and_false, dX9_figure_0, dX9_figure_1, dX9_figure_4, dX9_figure_5, dX9_figure_8, dX9_figure_11, dX9_figure_12, dX9_figure_15, dX9_figure_16, dX9_figure_19, dX9_figure_20, dX9_figure_22, dX9_figure_23, dX9_figure_24, dX9_figure_25, dX9_figure_26, dX9_figure_27, dX9_figure_28, dX9_figure_31, dX9_figure_34, dX9_figure_36, dX9_figure_37, dX9_figure_38, dX9_figure_39, dX9_figure_42, dX9_figure_43, dX9_figure_44, dX9_figure_47, dX9_figure_48, dX9_figure_51, dX9_figure_52, dX9_figure_55, dX9_figure_56, dX9_figure_57, dX9_figure_58, dX9_figure_60, dX9_figure_61, ca_X9_figure_72, e_aload_n0, e_calls, e_dupi, e_dupr, e_getfield, e_i2l, e_iadd, e_iaload, e_iload_n1, e_iload_n2, e_ireturn, e_isub, e_putfield, ea_31, gf_X9_78_30, gf_X9_7_30, gf_X9_81_30, j_bp_48, j_bp_m9, j_ic_1, j_icmp_eq_8_26, j_if_ne_31_6, pf_X9_81_30, q_X9_in, wi_0, wi_lt, wi_g255, wi_g40, wi_g20, wi_g4, wi_g3, wi_g9, wi_g10, wi_g30, wi_g1, wi_l255, wi_l40, wi_l20, wi_l4, wi_l3, wi_l9, wi_l10, wi_l30, wi_l1, rd_3, rd_11, rd_13, rd_2, rd_31, rd_s3, rd_s11, rd_s13, rd_s36, rd_s37, nI_1, xI_p1, hs, ab_rn, bi_0, bi_1, ite_not]
        exact h
      · have hne : ¬ nI p = nI z := by rw [nI_eqz (by omega) (by omega)]; exact h1
        obtain ⟨e1, e2⟩ := cI (i := p) (b := 48) (by omega) (by omega)
        have hlt : p < z := by omega
        refine ab_go hG [] 80 _ _ _ _ ?_
        simp (decide := true) only [ew_n, ew_0, Option.toList_some, Option.toList_none, List.cons_append, List.nil_append, true_and, and_true, List.length_cons, List.length_nil, Nat.reduceAdd, Nat.reduceLeDiff, Int32.reduceAdd, Int32.reduceSub, Int32.reduceMul, Int32.reduceLT, Int32.reduceLE, Int32.reduceToNatClampNeg, ↓reduceIte, and_self, si_1, si_2, sl_1, sl_2, false_and, and_false, dX9_figure_0, dX9_figure_1, dX9_figure_4, dX9_figure_5, dX9_figure_8, dX9_figure_11, dX9_figure_12, dX9_figure_15, dX9_figure_16, dX9_figure_19, dX9_figure_20, dX9_figure_22, dX9_figure_23, dX9_figure_24, dX9_figure_25, dX9_figure_26, dX9_figure_27, dX9_figure_28, dX9_figure_31, dX9_figure_34, dX9_figure_36, dX9_figure_37, dX9_figure_38, dX9_figure_39, dX9_figure_42, dX9_figure_43, dX9_figure_44, dX9_figure_47, dX9_figure_48, dX9_figure_51, dX9_figure_52, dX9_figure_55, dX9_figure_56, dX9_figure_57, dX9_figure_58, dX9_figure_60, dX9_figure_61, ca_X9_figure_72, e_aload_n0, e_calls, e_dupi, e_dupr, e_getfield, e_i2l, e_iadd, e_iaload, e_iload_n1, e_iload_n2, e_ireturn, e_isub, e_putfield, ea_31, gf_X9_78_30, gf_X9_7_30, gf_X9_81_30, j_bp_48, j_bp_m9, j_ic_1, j_icmp_eq_8_26, j_if_ne_31_6, pf_X9_81_30, q_X9_in, wi_0, wi_lt, wi_g255, wi_g40, wi_g20, wi_g4, wi_g3, wi_g9, wi_g10, wi_g30, wi_g1, wi_l255, wi_l40, wi_l20, wi_l4, wi_l3, wi_l9, wi_l10, wi_l30, wi_l1, rd_3, rd_11, rd_13, rd_2, rd_31, rd_s3, rd_s11, rd_s13, rd_s36, rd_s37, nI_1, xI_p1, hs, hne, e1, ab_rn, bi_0, bi_1, ite_not]
        refine ⟨e2, ?_⟩
        split
        · rename_i h2
          rw [if_pos ⟨hlt, h2⟩] at h
          exact ⟨e2, h⟩
        · rename_i h2
          rw [if_neg (fun hh => h2 hh.2)] at h
          exact h
    · exact h.elim

theorem fgq9 {N : ab_M} {p z s m : Nat} {R Q : Nat → Int32} {a b : Int32} {Po : ab_P} (hp : p ≤ z) (hz : z ≤ 48) (hs : N.1 30 2 = nI z) (h1 : fgk N z p a b → Po (some (.int (N.1 31 p - 48))) (rd N (p + 1) s m R Q)) (h2 : ¬ fgk N z p a b → Po (some (.int (-9))) (rd N p s m R Q)) : s_X9_figure [.ref 30, .int a, .int b] (rd N p s m R Q) Po := by
  refine ⟨N, p, z, s, m, R, Q, rfl, hp, hz, hs, ?_⟩
  split
  · rename_i h
    exact h1 h
  · rename_i h
    exact h2 h
def s_X9_readOneStretch : ab_Sem := fun as M Po => match as with
  | [.ref 30] => ∃ (N : ab_M) (p z s m : Nat) (R Q : Nat → Int32), M = rd N p s m R Q ∧ p ≤ z ∧ z ≤ 48 ∧ s < 8 ∧ N.1 30 2 = nI z ∧ rS_M N z p s m R Q (fun r p s m R Q => Po (some (.int r)) (rd N p s m R Q))
  | _ => False
theorem q_X9_readOneStretch {M : ab_M} {Po : ab_P} : s_X9_readOneStretch [.ref 30] M Po = (∃ (N : ab_M) (p z s m : Nat) (R Q : Nat → Int32), M = rd N p s m R Q ∧ p ≤ z ∧ z ≤ 48 ∧ s < 8 ∧ N.1 30 2 = nI z ∧ rS_M N z p s m R Q (fun r p s m R Q => Po (some (.int r)) (rd N p s m R Q))) := rfl
abbrev x_X9_readOneStretch : ab_X := (some .boolean, fl_X9, [(168, 3, s_X9_figure)], kl_X9, gs_X9, ab_ros)
theorem ca_X9_readOneStretch_84 {v0 v1 v2 : Value} {st : List Value} {M : ab_M} {k : List Value → ab_M → Prop} : ab_ca x_X9_readOneStretch (2 * 84) (v2 :: v1 :: v0 :: st) M k = (st.length ≤ 4 ∧ s_X9_figure [v0, v1, v2] M (fun r M' => k (r.toList ++ st) M')) := rfl
theorem r_X9_readOneStretch : ∀ (as : List Value) (M : ab_M) (Po : ab_P), s_X9_readOneStretch as M Po → ∃ (q : Nat) (as' : List Value) (ci : Nat) (T : u_T) (N : Nat) (fs : List ab_F), as = .ref q :: as' ∧ ab_sh[q]? = some (.inl (ci, fs)) ∧ vwCl[ci]? = some (yX9_readOneStretch.cls, T, N) := by
  intro as M Po h
  unfold s_X9_readOneStretch at h
  split at h
  · first | exact ⟨_, _, 9, _, _, _, rfl, rfl, rfl⟩ | (rcases h.1 with rfl | rfl | rfl <;> exact ⟨_, _, 9, _, _, _, rfl, rfl, rfl⟩)
  · exact h.elim
set_option maxRecDepth 20000 in
set_option maxHeartbeats 4000000 in
theorem c_X9_readOneStretch {l : Launch} : ab_ctr l yX9_readOneStretch cX9_readOneStretch 3 (some .boolean) 2 47 s_X9_readOneStretch := by
  refine ab_met x_X9_readOneStretch (by decide) rfl fo_X9 ko_X9 so_X9 rfl (ab_cs_cons (ab_kV c_X9_figure ml_X9_84 v_X9_figure ⟨rfl, rfl⟩ r_X9_figure) ab_cs_nil) ?_ ?_
  · intro as M Po h
    unfold s_X9_readOneStretch at h
    split at h
    · simp [ab_e0]
    · exact h.elim
  · intro as M Po h G hG
    unfold s_X9_readOneStretch at h
    split at h
    · simp only [ab_en, ab_e0, List.length_cons, List.length_nil, Nat.reduceAdd, Nat.reduceSub, List.replicate, List.cons_append, List.nil_append]
      obtain ⟨N, p, z, s, m, R, Q, rfl, hp, hz, hs8, hs, h⟩ := h
      unfold rS_M at h
      obtain ⟨e1, e2⟩ := cI (i := 2 * s) (b := 16) (by omega) (by omega)
      obtain ⟨e3, e4⟩ := cI (i := 2 * s + 1) (b := 16) (by omega) (by omega)
      have e5 : 2 * nI s = nI (2 * s) := xI_mul 2 s
      refine ab_go hG [] 80 _ _ _ _ ?_
      simp (decide := true) only [ew_n, ew_0, Option.toList_some, Option.toList_none, List.cons_append, List.nil_append, true_and, and_true, List.length_cons, List.length_nil, Nat.reduceAdd, Nat.reduceLeDiff, Int32.reduceAdd, Int32.reduceSub, Int32.reduceMul, Int32.reduceLT, Int32.reduceLE, Int32.reduceToNatClampNeg, ↓reduceIte, and_self, si_1, si_2, sl_1, sl_2, false_and, and_false, dX9_readOneStretch_0, dX9_readOneStretch_1, dX9_readOneStretch_2, dX9_readOneStretch_4, dX9_readOneStretch_7, dX9_readOneStretch_8, dX9_readOneStretch_9, dX9_readOneStretch_11, dX9_readOneStretch_14, dX9_readOneStretch_16, dX9_readOneStretch_19, dX9_readOneStretch_20, dX9_readOneStretch_21, dX9_readOneStretch_22, dX9_readOneStretch_25, dX9_readOneStretch_26, dX9_readOneStretch_27, dX9_readOneStretch_29, dX9_readOneStretch_32, dX9_readOneStretch_33, dX9_readOneStretch_34, dX9_readOneStretch_35, dX9_readOneStretch_38, dX9_readOneStretch_39, dX9_readOneStretch_40, dX9_readOneStretch_43, dX9_readOneStretch_44, dX9_readOneStretch_45, dX9_readOneStretch_46, dX9_readOneStretch_47, dX9_readOneStretch_50, dX9_readOneStretch_51, dX9_readOneStretch_52, dX9_readOneStretch_55, dX9_readOneStretch_56, dX9_readOneStretch_57, dX9_readOneStretch_58, dX9_readOneStretch_59, dX9_readOneStretch_60, dX9_readOneStretch_61, dX9_readOneStretch_62, dX9_readOneStretch_65, dX9_readOneStretch_66, dX9_readOneStretch_67, dX9_readOneStretch_70, dX9_readOneStretch_71, ca_X9_readOneStretch_84, e_aload_n0, e_callv, e_dupi, e_dupr, e_getfield, e_iadd, e_iastore, e_iload_n1, e_iload_n2, e_imul, e_ireturn, e_istore_n1i, e_istore_n1n, e_istore_n1r, e_istore_n2i, e_istore_n2n, e_istore_n2r, e_putfield, es_36, es_37, gf_X9_25_30, gf_X9_88_30, j_bp_9, j_bp_m9, j_goto_16_9, j_ic_0, j_ic_1, j_ic_2, j_ic_3, j_icmp_ne_11_8, j_icmp_ne_29_5, pf_X9_88_30, rd_3, rd_11, rd_13, rd_2, rd_31, rd_s3, rd_s11, rd_s13, rd_s36, rd_s37, nI_1, xI_p1, ab_rn, bi_0, bi_1, ite_not]
      refine fgq9 hp hz hs (fun h1 => ?_) (fun h1 => ?_)
      · rw [if_pos h1] at h
        have n1 := in9 h1.2.1 (by decide)
        have hlt : p < z := h1.1
        simp (decide := true) only [ew_n, ew_0, Option.toList_some, Option.toList_none, List.cons_append, List.nil_append, true_and, and_true, List.length_cons, List.length_nil, Nat.reduceAdd, Nat.reduceLeDiff, Int32.reduceAdd, Int32.reduceSub, Int32.reduceMul, Int32.reduceLT, Int32.reduceLE, Int32.reduceToNatClampNeg, ↓reduceIte, and_self, si_1, si_2, sl_1, sl_2, false_and, and_false, dX9_readOneStretch_0, dX9_readOneStretch_1, dX9_readOneStretch_2, dX9_readOneStretch_4, dX9_readOneStretch_7, dX9_readOneStretch_8, dX9_readOneStretch_9, dX9_readOneStretch_11, dX9_readOneStretch_14, dX9_readOneStretch_16, dX9_readOneStretch_19, dX9_readOneStretch_20, dX9_readOneStretch_21, dX9_readOneStretch_22, dX9_readOneStretch_25, dX9_readOneStretch_26, dX9_readOneStretch_27, dX9_readOneStretch_29, dX9_readOneStretch_32, dX9_readOneStretch_33, dX9_readOneStretch_34, dX9_readOneStretch_35, dX9_readOneStretch_38, dX9_readOneStretch_39, dX9_readOneStretch_40, dX9_readOneStretch_43, dX9_readOneStretch_44, dX9_readOneStretch_45, dX9_readOneStretch_46, dX9_readOneStretch_47, dX9_readOneStretch_50, dX9_readOneStretch_51, dX9_readOneStretch_52, dX9_readOneStretch_55, dX9_readOneStretch_56, dX9_readOneStretch_57, dX9_readOneStretch_58, dX9_readOneStretch_59, dX9_readOneStretch_60, dX9_readOneStretch_61, dX9_readOneStretch_62, dX9_readOneStretch_65, dX9_readOneStretch_66, dX9_readOneStretch_67, dX9_readOneStretch_70, dX9_readOneStretch_71, ca_X9_readOneStretch_84, e_aload_n0, e_callv, e_dupi, e_dupr, e_getfield, e_iadd, e_iastore, e_iload_n1, e_iload_n2, e_imul, e_ireturn, e_istore_n1i, e_istore_n1n, e_istore_n1r, e_istore_n2i, e_istore_n2n, e_istore_n2r, e_putfield, es_36, es_37, gf_X9_25_30, gf_X9_88_30, j_bp_9, j_bp_m9, j_goto_16_9, j_ic_0, j_ic_1, j_ic_2, j_ic_3, j_icmp_ne_11_8, j_icmp_ne_29_5, pf_X9_88_30, rd_3, rd_11, rd_13, rd_2, rd_31, rd_s3, rd_s11, rd_s13, rd_s36, rd_s37, nI_1, xI_p1, ab_rn, bi_0, bi_1, ite_not, n1]
        refine fgq9 (by omega) hz hs (fun h2 => ?_) (fun h2 => ?_)
        · rw [if_pos h2] at h
          have n2 := in9 h2.2.1 (by decide)
          simp (decide := true) only [ew_n, ew_0, Option.toList_some, Option.toList_none, List.cons_append, List.nil_append, true_and, and_true, List.length_cons, List.length_nil, Nat.reduceAdd, Nat.reduceLeDiff, Int32.reduceAdd, Int32.reduceSub, Int32.reduceMul, Int32.reduceLT, Int32.reduceLE, Int32.reduceToNatClampNeg, ↓reduceIte, and_self, si_1, si_2, sl_1, sl_2, false_and, and_false, dX9_readOneStretch_0, dX9_readOneStretch_1, dX9_readOneStretch_2, dX9_readOneStretch_4, dX9_readOneStretch_7, dX9_readOneStretch_8, dX9_readOneStretch_9, dX9_readOneStretch_11, dX9_readOneStretch_14, dX9_readOneStretch_16, dX9_readOneStretch_19, dX9_readOneStretch_20, dX9_readOneStretch_21, dX9_readOneStretch_22, dX9_readOneStretch_25, dX9_readOneStretch_26, dX9_readOneStretch_27, dX9_readOneStretch_29, dX9_readOneStretch_32, dX9_readOneStretch_33, dX9_readOneStretch_34, dX9_readOneStretch_35, dX9_readOneStretch_38, dX9_readOneStretch_39, dX9_readOneStretch_40, dX9_readOneStretch_43, dX9_readOneStretch_44, dX9_readOneStretch_45, dX9_readOneStretch_46, dX9_readOneStretch_47, dX9_readOneStretch_50, dX9_readOneStretch_51, dX9_readOneStretch_52, dX9_readOneStretch_55, dX9_readOneStretch_56, dX9_readOneStretch_57, dX9_readOneStretch_58, dX9_readOneStretch_59, dX9_readOneStretch_60, dX9_readOneStretch_61, dX9_readOneStretch_62, dX9_readOneStretch_65, dX9_readOneStretch_66, dX9_readOneStretch_67, dX9_readOneStretch_70, dX9_readOneStretch_71, ca_X9_readOneStretch_84, e_aload_n0, e_callv, e_dupi, e_dupr, e_getfield, e_iadd, e_iastore, e_iload_n1, e_iload_n2, e_imul, e_ireturn, e_istore_n1i, e_istore_n1n, e_istore_n1r, e_istore_n2i, e_istore_n2n, e_istore_n2r, e_putfield, es_36, es_37, gf_X9_25_30, gf_X9_88_30, j_bp_9, j_bp_m9, j_goto_16_9, j_ic_0, j_ic_1, j_ic_2, j_ic_3, j_icmp_ne_11_8, j_icmp_ne_29_5, pf_X9_88_30, rd_3, rd_11, rd_13, rd_2, rd_31, rd_s3, rd_s11, rd_s13, rd_s36, rd_s37, nI_1, xI_p1, ab_rn, bi_0, bi_1, ite_not, n2, e1, e3, e5]
          exact ⟨e2, e4, h⟩
        · rw [if_neg h2] at h
          simp (decide := true) only [ew_n, ew_0, Option.toList_some, Option.toList_none, List.cons_append, List.nil_append, true_and, and_true, List.length_cons, List.length_nil, Nat.reduceAdd, Nat.reduceLeDiff, Int32.reduceAdd, Int32.reduceSub, Int32.reduceMul, Int32.reduceLT, Int32.reduceLE, Int32.reduceToNatClampNeg, ↓reduceIte, and_self, si_1, si_2, sl_1, sl_2, false_and, and_false, dX9_readOneStretch_0, dX9_readOneStretch_1, dX9_readOneStretch_2, dX9_readOneStretch_4, dX9_readOneStretch_7, dX9_readOneStretch_8, dX9_readOneStretch_9, dX9_readOneStretch_11, dX9_readOneStretch_14, dX9_readOneStretch_16, dX9_readOneStretch_19, dX9_readOneStretch_20, dX9_readOneStretch_21, dX9_readOneStretch_22, dX9_readOneStretch_25, dX9_readOneStretch_26, dX9_readOneStretch_27, dX9_readOneStretch_29, dX9_readOneStretch_32, dX9_readOneStretch_33, dX9_readOneStretch_34, dX9_readOneStretch_35, dX9_readOneStretch_38, dX9_readOneStretch_39, dX9_readOneStretch_40, dX9_readOneStretch_43, dX9_readOneStretch_44, dX9_readOneStretch_45, dX9_readOneStretch_46, dX9_readOneStretch_47, dX9_readOneStretch_50, dX9_readOneStretch_51, dX9_readOneStretch_52, dX9_readOneStretch_55, dX9_readOneStretch_56, dX9_readOneStretch_57, dX9_readOneStretch_58, dX9_readOneStretch_59, dX9_readOneStretch_60, dX9_readOneStretch_61, dX9_readOneStretch_62, dX9_readOneStretch_65, dX9_readOneStretch_66, dX9_readOneStretch_67, dX9_readOneStretch_70, dX9_readOneStretch_71, ca_X9_readOneStretch_84, e_aload_n0, e_callv, e_dupi, e_dupr, e_getfield, e_iadd, e_iastore, e_iload_n1, e_iload_n2, e_imul, e_ireturn, e_istore_n1i, e_istore_n1n, e_istore_n1r, e_istore_n2i, e_istore_n2n, e_istore_n2r, e_putfield, es_36, es_37, gf_X9_25_30, gf_X9_88_30, j_bp_9, j_bp_m9, j_goto_16_9, j_ic_0, j_ic_1, j_ic_2, j_ic_3, j_icmp_ne_11_8, j_icmp_ne_29_5, pf_X9_88_30, rd_3, rd_11, rd_13, rd_2, rd_31, rd_s3, rd_s11, rd_s13, rd_s36, rd_s37, nI_1, xI_p1, ab_rn, bi_0, bi_1, ite_not]
          exact h
      · rw [if_neg h1] at h
        simp (decide := true) only [ew_n, ew_0, Option.toList_some, Option.toList_none, List.cons_append, List.nil_append, true_and, and_true, List.length_cons, List.length_nil, Nat.reduceAdd, Nat.reduceLeDiff, Int32.reduceAdd, Int32.reduceSub, Int32.reduceMul, Int32.reduceLT, Int32.reduceLE, Int32.reduceToNatClampNeg, ↓reduceIte, and_self, si_1, si_2, sl_1, sl_2, false_and, and_false, dX9_readOneStretch_0, dX9_readOneStretch_1, dX9_readOneStretch_2, dX9_readOneStretch_4, dX9_readOneStretch_7, dX9_readOneStretch_8, dX9_readOneStretch_9, dX9_readOneStretch_11, dX9_readOneStretch_14, dX9_readOneStretch_16, dX9_readOneStretch_19, dX9_readOneStretch_20, dX9_readOneStretch_21, dX9_readOneStretch_22, dX9_readOneStretch_25, dX9_readOneStretch_26, dX9_readOneStretch_27, dX9_readOneStretch_29, dX9_readOneStretch_32, dX9_readOneStretch_33, dX9_readOneStretch_34, dX9_readOneStretch_35, dX9_readOneStretch_38, dX9_readOneStretch_39, dX9_readOneStretch_40, dX9_readOneStretch_43, dX9_readOneStretch_44, dX9_readOneStretch_45, dX9_readOneStretch_46, dX9_readOneStretch_47, dX9_readOneStretch_50, dX9_readOneStretch_51, dX9_readOneStretch_52, dX9_readOneStretch_55, dX9_readOneStretch_56, dX9_readOneStretch_57, dX9_readOneStretch_58, dX9_readOneStretch_59, dX9_readOneStretch_60, dX9_readOneStretch_61, dX9_readOneStretch_62, dX9_readOneStretch_65, dX9_readOneStretch_66, dX9_readOneStretch_67, dX9_readOneStretch_70, dX9_readOneStretch_71, ca_X9_readOneStretch_84, e_aload_n0, e_callv, e_dupi, e_dupr, e_getfield, e_iadd, e_iastore, e_iload_n1, e_iload_n2, e_imul, e_ireturn, e_istore_n1i, e_istore_n1n, e_istore_n1r, e_istore_n2i, e_istore_n2n, e_istore_n2r, e_putfield, es_36, es_37, gf_X9_25_30, gf_X9_88_30, j_bp_9, j_bp_m9, j_goto_16_9, j_ic_0, j_ic_1, j_ic_2, j_ic_3, j_icmp_ne_11_8, j_icmp_ne_29_5, pf_X9_88_30, rd_3, rd_11, rd_13, rd_2, rd_31, rd_s3, rd_s11, rd_s13, rd_s36, rd_s37, nI_1, xI_p1, ab_rn, bi_0, bi_1, ite_not]
        exact h
    · exact h.elim

def s_X9_readOneMan : ab_Sem := fun as M Po => match as with
  | [.ref 30] => ∃ (N : ab_M) (p z s m : Nat) (R Q : Nat → Int32), M = rd N p s m R Q ∧ p ≤ z ∧ z ≤ 48 ∧ m < 5 ∧ N.1 30 2 = nI z ∧ rM_M N z p s m R Q (fun r p s m R Q => Po (some (.int r)) (rd N p s m R Q))
  | _ => False
theorem q_X9_readOneMan {M : ab_M} {Po : ab_P} : s_X9_readOneMan [.ref 30] M Po = (∃ (N : ab_M) (p z s m : Nat) (R Q : Nat → Int32), M = rd N p s m R Q ∧ p ≤ z ∧ z ≤ 48 ∧ m < 5 ∧ N.1 30 2 = nI z ∧ rM_M N z p s m R Q (fun r p s m R Q => Po (some (.int r)) (rd N p s m R Q))) := rfl
abbrev x_X9_readOneMan : ab_X := (some .boolean, fl_X9, [(168, 3, s_X9_figure)], kl_X9, gs_X9, ab_ros)
theorem ca_X9_readOneMan_84 {v0 v1 v2 : Value} {st : List Value} {M : ab_M} {k : List Value → ab_M → Prop} : ab_ca x_X9_readOneMan (2 * 84) (v2 :: v1 :: v0 :: st) M k = (st.length ≤ 4 ∧ s_X9_figure [v0, v1, v2] M (fun r M' => k (r.toList ++ st) M')) := rfl
theorem r_X9_readOneMan : ∀ (as : List Value) (M : ab_M) (Po : ab_P), s_X9_readOneMan as M Po → ∃ (q : Nat) (as' : List Value) (ci : Nat) (T : u_T) (N : Nat) (fs : List ab_F), as = .ref q :: as' ∧ ab_sh[q]? = some (.inl (ci, fs)) ∧ vwCl[ci]? = some (yX9_readOneMan.cls, T, N) := by
  intro as M Po h
  unfold s_X9_readOneMan at h
  split at h
  · first | exact ⟨_, _, 9, _, _, _, rfl, rfl, rfl⟩ | (rcases h.1 with rfl | rfl | rfl <;> exact ⟨_, _, 9, _, _, _, rfl, rfl, rfl⟩)
  · exact h.elim
set_option maxRecDepth 20000 in
set_option maxHeartbeats 4000000 in
theorem c_X9_readOneMan {l : Launch} : ab_ctr l yX9_readOneMan cX9_readOneMan 4 (some .boolean) 2 47 s_X9_readOneMan := by
  refine ab_met x_X9_readOneMan (by decide) rfl fo_X9 ko_X9 so_X9 rfl (ab_cs_cons (ab_kV c_X9_figure ml_X9_84 v_X9_figure ⟨rfl, rfl⟩ r_X9_figure) ab_cs_nil) ?_ ?_
  · intro as M Po h
    unfold s_X9_readOneMan at h
    split at h
    · simp [ab_e0]
    · exact h.elim
  · intro as M Po h G hG
    unfold s_X9_readOneMan at h
    split at h
    · simp only [ab_en, ab_e0, List.length_cons, List.length_nil, Nat.reduceAdd, Nat.reduceSub, List.replicate, List.cons_append, List.nil_append]
      obtain ⟨N, p, z, s, m, R, Q, rfl, hp, hz, hs8, hs, h⟩ := h
      unfold rM_M at h
      obtain ⟨e1, e2⟩ := cI (i := 3 * m) (b := 15) (by omega) (by omega)
      obtain ⟨e3, e4⟩ := cI (i := 3 * m + 1) (b := 15) (by omega) (by omega)
      obtain ⟨e6, e7⟩ := cI (i := 3 * m + 2) (b := 15) (by omega) (by omega)
      have e5 : 3 * nI m = nI (3 * m) := xI_mul 3 m
      have e8 : nI (3 * m) + 2 = nI (3 * m + 2) := nI_add (3 * m) 2
      refine ab_go hG [] 80 _ _ _ _ ?_
      simp (decide := true) only [ew_n, ew_0, Option.toList_some, Option.toList_none, List.cons_append, List.nil_append, true_and, and_true, List.length_cons, List.length_nil, Nat.reduceAdd, Nat.reduceLeDiff, Int32.reduceAdd, Int32.reduceSub, Int32.reduceMul, Int32.reduceLT, Int32.reduceLE, Int32.reduceToNatClampNeg, ↓reduceIte, and_self, si_1, si_2, sl_1, sl_2, false_and, and_false, dX9_readOneMan_0, dX9_readOneMan_1, dX9_readOneMan_2, dX9_readOneMan_4, dX9_readOneMan_7, dX9_readOneMan_8, dX9_readOneMan_9, dX9_readOneMan_11, dX9_readOneMan_14, dX9_readOneMan_16, dX9_readOneMan_19, dX9_readOneMan_20, dX9_readOneMan_21, dX9_readOneMan_22, dX9_readOneMan_25, dX9_readOneMan_26, dX9_readOneMan_27, dX9_readOneMan_29, dX9_readOneMan_32, dX9_readOneMan_34, dX9_readOneMan_37, dX9_readOneMan_38, dX9_readOneMan_39, dX9_readOneMan_41, dX9_readOneMan_44, dX9_readOneMan_45, dX9_readOneMan_46, dX9_readOneMan_48, dX9_readOneMan_51, dX9_readOneMan_52, dX9_readOneMan_53, dX9_readOneMan_54, dX9_readOneMan_57, dX9_readOneMan_58, dX9_readOneMan_59, dX9_readOneMan_62, dX9_readOneMan_63, dX9_readOneMan_64, dX9_readOneMan_65, dX9_readOneMan_66, dX9_readOneMan_69, dX9_readOneMan_70, dX9_readOneMan_71, dX9_readOneMan_74, dX9_readOneMan_75, dX9_readOneMan_76, dX9_readOneMan_77, dX9_readOneMan_78, dX9_readOneMan_79, dX9_readOneMan_80, dX9_readOneMan_83, dX9_readOneMan_84, dX9_readOneMan_85, dX9_readOneMan_88, dX9_readOneMan_89, dX9_readOneMan_90, dX9_readOneMan_91, dX9_readOneMan_92, dX9_readOneMan_93, dX9_readOneMan_94, dX9_readOneMan_95, dX9_readOneMan_98, dX9_readOneMan_99, dX9_readOneMan_100, dX9_readOneMan_103, dX9_readOneMan_104, ca_X9_readOneMan_84, e_aload_n0, e_callv, e_dupi, e_dupr, e_getfield, e_iadd, e_iastore, e_iload_n1, e_iload_n2, e_iload_n3, e_imul, e_ireturn, e_istore_n1i, e_istore_n1n, e_istore_n1r, e_istore_n2i, e_istore_n2n, e_istore_n2r, e_istore_n3i, e_istore_n3n, e_istore_n3r, e_putfield, es_36, es_37, gf_X9_28_30, gf_X9_91_30, j_bp_9, j_bp_m9, j_goto_16_9, j_goto_34_10, j_ic_0, j_ic_1, j_ic_2, j_ic_3, j_icmp_ne_11_8, j_icmp_ne_29_8, j_icmp_ne_48_5, pf_X9_91_30, rd_3, rd_11, rd_13, rd_2, rd_31, rd_s3, rd_s11, rd_s13, rd_s36, rd_s37, nI_1, xI_p1, ab_rn, bi_0, bi_1, ite_not]
      refine fgq9 hp hz hs (fun h1 => ?_) (fun h1 => ?_)
      · rw [if_pos h1] at h
        have n1 := in9 h1.2.1 (by decide)
        have hlt : p < z := h1.1
        simp (decide := true) only [ew_n, ew_0, Option.toList_some, Option.toList_none, List.cons_append, List.nil_append, true_and, and_true, List.length_cons, List.length_nil, Nat.reduceAdd, Nat.reduceLeDiff, Int32.reduceAdd, Int32.reduceSub, Int32.reduceMul, Int32.reduceLT, Int32.reduceLE, Int32.reduceToNatClampNeg, ↓reduceIte, and_self, si_1, si_2, sl_1, sl_2, false_and, and_false, dX9_readOneMan_0, dX9_readOneMan_1, dX9_readOneMan_2, dX9_readOneMan_4, dX9_readOneMan_7, dX9_readOneMan_8, dX9_readOneMan_9, dX9_readOneMan_11, dX9_readOneMan_14, dX9_readOneMan_16, dX9_readOneMan_19, dX9_readOneMan_20, dX9_readOneMan_21, dX9_readOneMan_22, dX9_readOneMan_25, dX9_readOneMan_26, dX9_readOneMan_27, dX9_readOneMan_29, dX9_readOneMan_32, dX9_readOneMan_34, dX9_readOneMan_37, dX9_readOneMan_38, dX9_readOneMan_39, dX9_readOneMan_41, dX9_readOneMan_44, dX9_readOneMan_45, dX9_readOneMan_46, dX9_readOneMan_48, dX9_readOneMan_51, dX9_readOneMan_52, dX9_readOneMan_53, dX9_readOneMan_54, dX9_readOneMan_57, dX9_readOneMan_58, dX9_readOneMan_59, dX9_readOneMan_62, dX9_readOneMan_63, dX9_readOneMan_64, dX9_readOneMan_65, dX9_readOneMan_66, dX9_readOneMan_69, dX9_readOneMan_70, dX9_readOneMan_71, dX9_readOneMan_74, dX9_readOneMan_75, dX9_readOneMan_76, dX9_readOneMan_77, dX9_readOneMan_78, dX9_readOneMan_79, dX9_readOneMan_80, dX9_readOneMan_83, dX9_readOneMan_84, dX9_readOneMan_85, dX9_readOneMan_88, dX9_readOneMan_89, dX9_readOneMan_90, dX9_readOneMan_91, dX9_readOneMan_92, dX9_readOneMan_93, dX9_readOneMan_94, dX9_readOneMan_95, dX9_readOneMan_98, dX9_readOneMan_99, dX9_readOneMan_100, dX9_readOneMan_103, dX9_readOneMan_104, ca_X9_readOneMan_84, e_aload_n0, e_callv, e_dupi, e_dupr, e_getfield, e_iadd, e_iastore, e_iload_n1, e_iload_n2, e_iload_n3, e_imul, e_ireturn, e_istore_n1i, e_istore_n1n, e_istore_n1r, e_istore_n2i, e_istore_n2n, e_istore_n2r, e_istore_n3i, e_istore_n3n, e_istore_n3r, e_putfield, es_36, es_37, gf_X9_28_30, gf_X9_91_30, j_bp_9, j_bp_m9, j_goto_16_9, j_goto_34_10, j_ic_0, j_ic_1, j_ic_2, j_ic_3, j_icmp_ne_11_8, j_icmp_ne_29_8, j_icmp_ne_48_5, pf_X9_91_30, rd_3, rd_11, rd_13, rd_2, rd_31, rd_s3, rd_s11, rd_s13, rd_s36, rd_s37, nI_1, xI_p1, ab_rn, bi_0, bi_1, ite_not, n1]
        refine fgq9 (by omega) hz hs (fun h2 => ?_) (fun h2 => ?_)
        · rw [if_pos h2] at h
          have n2 := in9 h2.2.1 (by decide)
          have hlt2 : p + 1 < z := h2.1
          simp (decide := true) only [ew_n, ew_0, Option.toList_some, Option.toList_none, List.cons_append, List.nil_append, true_and, and_true, List.length_cons, List.length_nil, Nat.reduceAdd, Nat.reduceLeDiff, Int32.reduceAdd, Int32.reduceSub, Int32.reduceMul, Int32.reduceLT, Int32.reduceLE, Int32.reduceToNatClampNeg, ↓reduceIte, and_self, si_1, si_2, sl_1, sl_2, false_and, and_false, dX9_readOneMan_0, dX9_readOneMan_1, dX9_readOneMan_2, dX9_readOneMan_4, dX9_readOneMan_7, dX9_readOneMan_8, dX9_readOneMan_9, dX9_readOneMan_11, dX9_readOneMan_14, dX9_readOneMan_16, dX9_readOneMan_19, dX9_readOneMan_20, dX9_readOneMan_21, dX9_readOneMan_22, dX9_readOneMan_25, dX9_readOneMan_26, dX9_readOneMan_27, dX9_readOneMan_29, dX9_readOneMan_32, dX9_readOneMan_34, dX9_readOneMan_37, dX9_readOneMan_38, dX9_readOneMan_39, dX9_readOneMan_41, dX9_readOneMan_44, dX9_readOneMan_45, dX9_readOneMan_46, dX9_readOneMan_48, dX9_readOneMan_51, dX9_readOneMan_52, dX9_readOneMan_53, dX9_readOneMan_54, dX9_readOneMan_57, dX9_readOneMan_58, dX9_readOneMan_59, dX9_readOneMan_62, dX9_readOneMan_63, dX9_readOneMan_64, dX9_readOneMan_65, dX9_readOneMan_66, dX9_readOneMan_69, dX9_readOneMan_70, dX9_readOneMan_71, dX9_readOneMan_74, dX9_readOneMan_75, dX9_readOneMan_76, dX9_readOneMan_77, dX9_readOneMan_78, dX9_readOneMan_79, dX9_readOneMan_80, dX9_readOneMan_83, dX9_readOneMan_84, dX9_readOneMan_85, dX9_readOneMan_88, dX9_readOneMan_89, dX9_readOneMan_90, dX9_readOneMan_91, dX9_readOneMan_92, dX9_readOneMan_93, dX9_readOneMan_94, dX9_readOneMan_95, dX9_readOneMan_98, dX9_readOneMan_99, dX9_readOneMan_100, dX9_readOneMan_103, dX9_readOneMan_104, ca_X9_readOneMan_84, e_aload_n0, e_callv, e_dupi, e_dupr, e_getfield, e_iadd, e_iastore, e_iload_n1, e_iload_n2, e_iload_n3, e_imul, e_ireturn, e_istore_n1i, e_istore_n1n, e_istore_n1r, e_istore_n2i, e_istore_n2n, e_istore_n2r, e_istore_n3i, e_istore_n3n, e_istore_n3r, e_putfield, es_36, es_37, gf_X9_28_30, gf_X9_91_30, j_bp_9, j_bp_m9, j_goto_16_9, j_goto_34_10, j_ic_0, j_ic_1, j_ic_2, j_ic_3, j_icmp_ne_11_8, j_icmp_ne_29_8, j_icmp_ne_48_5, pf_X9_91_30, rd_3, rd_11, rd_13, rd_2, rd_31, rd_s3, rd_s11, rd_s13, rd_s36, rd_s37, nI_1, xI_p1, ab_rn, bi_0, bi_1, ite_not, n2]
          refine fgq9 (by omega) hz hs (fun h3 => ?_) (fun h3 => ?_)
          · rw [if_pos h3] at h
            have n3 := in9 h3.2.1 (by decide)
            simp (decide := true) only [ew_n, ew_0, Option.toList_some, Option.toList_none, List.cons_append, List.nil_append, true_and, and_true, List.length_cons, List.length_nil, Nat.reduceAdd, Nat.reduceLeDiff, Int32.reduceAdd, Int32.reduceSub, Int32.reduceMul, Int32.reduceLT, Int32.reduceLE, Int32.reduceToNatClampNeg, ↓reduceIte, and_self, si_1, si_2, sl_1, sl_2, false_and, and_false, dX9_readOneMan_0, dX9_readOneMan_1, dX9_readOneMan_2, dX9_readOneMan_4, dX9_readOneMan_7, dX9_readOneMan_8, dX9_readOneMan_9, dX9_readOneMan_11, dX9_readOneMan_14, dX9_readOneMan_16, dX9_readOneMan_19, dX9_readOneMan_20, dX9_readOneMan_21, dX9_readOneMan_22, dX9_readOneMan_25, dX9_readOneMan_26, dX9_readOneMan_27, dX9_readOneMan_29, dX9_readOneMan_32, dX9_readOneMan_34, dX9_readOneMan_37, dX9_readOneMan_38, dX9_readOneMan_39, dX9_readOneMan_41, dX9_readOneMan_44, dX9_readOneMan_45, dX9_readOneMan_46, dX9_readOneMan_48, dX9_readOneMan_51, dX9_readOneMan_52, dX9_readOneMan_53, dX9_readOneMan_54, dX9_readOneMan_57, dX9_readOneMan_58, dX9_readOneMan_59, dX9_readOneMan_62, dX9_readOneMan_63, dX9_readOneMan_64, dX9_readOneMan_65, dX9_readOneMan_66, dX9_readOneMan_69, dX9_readOneMan_70, dX9_readOneMan_71, dX9_readOneMan_74, dX9_readOneMan_75, dX9_readOneMan_76, dX9_readOneMan_77, dX9_readOneMan_78, dX9_readOneMan_79, dX9_readOneMan_80, dX9_readOneMan_83, dX9_readOneMan_84, dX9_readOneMan_85, dX9_readOneMan_88, dX9_readOneMan_89, dX9_readOneMan_90, dX9_readOneMan_91, dX9_readOneMan_92, dX9_readOneMan_93, dX9_readOneMan_94, dX9_readOneMan_95, dX9_readOneMan_98, dX9_readOneMan_99, dX9_readOneMan_100, dX9_readOneMan_103, dX9_readOneMan_104, ca_X9_readOneMan_84, e_aload_n0, e_callv, e_dupi, e_dupr, e_getfield, e_iadd, e_iastore, e_iload_n1, e_iload_n2, e_iload_n3, e_imul, e_ireturn, e_istore_n1i, e_istore_n1n, e_istore_n1r, e_istore_n2i, e_istore_n2n, e_istore_n2r, e_istore_n3i, e_istore_n3n, e_istore_n3r, e_putfield, es_36, es_37, gf_X9_28_30, gf_X9_91_30, j_bp_9, j_bp_m9, j_goto_16_9, j_goto_34_10, j_ic_0, j_ic_1, j_ic_2, j_ic_3, j_icmp_ne_11_8, j_icmp_ne_29_8, j_icmp_ne_48_5, pf_X9_91_30, rd_3, rd_11, rd_13, rd_2, rd_31, rd_s3, rd_s11, rd_s13, rd_s36, rd_s37, nI_1, xI_p1, ab_rn, bi_0, bi_1, ite_not, n3, e1, e3, e5, e6, e8]
            exact ⟨e2, e4, e7, h⟩
          · rw [if_neg h3] at h
            simp (decide := true) only [ew_n, ew_0, Option.toList_some, Option.toList_none, List.cons_append, List.nil_append, true_and, and_true, List.length_cons, List.length_nil, Nat.reduceAdd, Nat.reduceLeDiff, Int32.reduceAdd, Int32.reduceSub, Int32.reduceMul, Int32.reduceLT, Int32.reduceLE, Int32.reduceToNatClampNeg, ↓reduceIte, and_self, si_1, si_2, sl_1, sl_2, false_and, and_false, dX9_readOneMan_0, dX9_readOneMan_1, dX9_readOneMan_2, dX9_readOneMan_4, dX9_readOneMan_7, dX9_readOneMan_8, dX9_readOneMan_9, dX9_readOneMan_11, dX9_readOneMan_14, dX9_readOneMan_16, dX9_readOneMan_19, dX9_readOneMan_20, dX9_readOneMan_21, dX9_readOneMan_22, dX9_readOneMan_25, dX9_readOneMan_26, dX9_readOneMan_27, dX9_readOneMan_29, dX9_readOneMan_32, dX9_readOneMan_34, dX9_readOneMan_37, dX9_readOneMan_38, dX9_readOneMan_39, dX9_readOneMan_41, dX9_readOneMan_44, dX9_readOneMan_45, dX9_readOneMan_46, dX9_readOneMan_48, dX9_readOneMan_51, dX9_readOneMan_52, dX9_readOneMan_53, dX9_readOneMan_54, dX9_readOneMan_57, dX9_readOneMan_58, dX9_readOneMan_59, dX9_readOneMan_62, dX9_readOneMan_63, dX9_readOneMan_64, dX9_readOneMan_65, dX9_readOneMan_66, dX9_readOneMan_69, dX9_readOneMan_70, dX9_readOneMan_71, dX9_readOneMan_74, dX9_readOneMan_75, dX9_readOneMan_76, dX9_readOneMan_77, dX9_readOneMan_78, dX9_readOneMan_79, dX9_readOneMan_80, dX9_readOneMan_83, dX9_readOneMan_84, dX9_readOneMan_85, dX9_readOneMan_88, dX9_readOneMan_89, dX9_readOneMan_90, dX9_readOneMan_91, dX9_readOneMan_92, dX9_readOneMan_93, dX9_readOneMan_94, dX9_readOneMan_95, dX9_readOneMan_98, dX9_readOneMan_99, dX9_readOneMan_100, dX9_readOneMan_103, dX9_readOneMan_104, ca_X9_readOneMan_84, e_aload_n0, e_callv, e_dupi, e_dupr, e_getfield, e_iadd, e_iastore, e_iload_n1, e_iload_n2, e_iload_n3, e_imul, e_ireturn, e_istore_n1i, e_istore_n1n, e_istore_n1r, e_istore_n2i, e_istore_n2n, e_istore_n2r, e_istore_n3i, e_istore_n3n, e_istore_n3r, e_putfield, es_36, es_37, gf_X9_28_30, gf_X9_91_30, j_bp_9, j_bp_m9, j_goto_16_9, j_goto_34_10, j_ic_0, j_ic_1, j_ic_2, j_ic_3, j_icmp_ne_11_8, j_icmp_ne_29_8, j_icmp_ne_48_5, pf_X9_91_30, rd_3, rd_11, rd_13, rd_2, rd_31, rd_s3, rd_s11, rd_s13, rd_s36, rd_s37, nI_1, xI_p1, ab_rn, bi_0, bi_1, ite_not]
            exact h
        · rw [if_neg h2] at h
          simp (decide := true) only [ew_n, ew_0, Option.toList_some, Option.toList_none, List.cons_append, List.nil_append, true_and, and_true, List.length_cons, List.length_nil, Nat.reduceAdd, Nat.reduceLeDiff, Int32.reduceAdd, Int32.reduceSub, Int32.reduceMul, Int32.reduceLT, Int32.reduceLE, Int32.reduceToNatClampNeg, ↓reduceIte, and_self, si_1, si_2, sl_1, sl_2, false_and, and_false, dX9_readOneMan_0, dX9_readOneMan_1, dX9_readOneMan_2, dX9_readOneMan_4, dX9_readOneMan_7, dX9_readOneMan_8, dX9_readOneMan_9, dX9_readOneMan_11, dX9_readOneMan_14, dX9_readOneMan_16, dX9_readOneMan_19, dX9_readOneMan_20, dX9_readOneMan_21, dX9_readOneMan_22, dX9_readOneMan_25, dX9_readOneMan_26, dX9_readOneMan_27, dX9_readOneMan_29, dX9_readOneMan_32, dX9_readOneMan_34, dX9_readOneMan_37, dX9_readOneMan_38, dX9_readOneMan_39, dX9_readOneMan_41, dX9_readOneMan_44, dX9_readOneMan_45, dX9_readOneMan_46, dX9_readOneMan_48, dX9_readOneMan_51, dX9_readOneMan_52, dX9_readOneMan_53, dX9_readOneMan_54, dX9_readOneMan_57, dX9_readOneMan_58, dX9_readOneMan_59, dX9_readOneMan_62, dX9_readOneMan_63, dX9_readOneMan_64, dX9_readOneMan_65, dX9_readOneMan_66, dX9_readOneMan_69, dX9_readOneMan_70, dX9_readOneMan_71, dX9_readOneMan_74, dX9_readOneMan_75, dX9_readOneMan_76, dX9_readOneMan_77, dX9_readOneMan_78, dX9_readOneMan_79, dX9_readOneMan_80, dX9_readOneMan_83, dX9_readOneMan_84, dX9_readOneMan_85, dX9_readOneMan_88, dX9_readOneMan_89, dX9_readOneMan_90, dX9_readOneMan_91, dX9_readOneMan_92, dX9_readOneMan_93, dX9_readOneMan_94, dX9_readOneMan_95, dX9_readOneMan_98, dX9_readOneMan_99, dX9_readOneMan_100, dX9_readOneMan_103, dX9_readOneMan_104, ca_X9_readOneMan_84, e_aload_n0, e_callv, e_dupi, e_dupr, e_getfield, e_iadd, e_iastore, e_iload_n1, e_iload_n2, e_iload_n3, e_imul, e_ireturn, e_istore_n1i, e_istore_n1n, e_istore_n1r, e_istore_n2i, e_istore_n2n, e_istore_n2r, e_istore_n3i, e_istore_n3n, e_istore_n3r, e_putfield, es_36, es_37, gf_X9_28_30, gf_X9_91_30, j_bp_9, j_bp_m9, j_goto_16_9, j_goto_34_10, j_ic_0, j_ic_1, j_ic_2, j_ic_3, j_icmp_ne_11_8, j_icmp_ne_29_8, j_icmp_ne_48_5, pf_X9_91_30, rd_3, rd_11, rd_13, rd_2, rd_31, rd_s3, rd_s11, rd_s13, rd_s36, rd_s37, nI_1, xI_p1, ab_rn, bi_0, bi_1, ite_not]
          exact h
      · rw [if_neg h1] at h
        simp (decide := true) only [ew_n, ew_0, Option.toList_some, Option.toList_none, List.cons_append, List.nil_append, true_and, and_true, List.length_cons, List.length_nil, Nat.reduceAdd, Nat.reduceLeDiff, Int32.reduceAdd, Int32.reduceSub, Int32.reduceMul, Int32.reduceLT, Int32.reduceLE, Int32.reduceToNatClampNeg, ↓reduceIte, and_self, si_1, si_2, sl_1, sl_2, false_and, and_false, dX9_readOneMan_0, dX9_readOneMan_1, dX9_readOneMan_2, dX9_readOneMan_4, dX9_readOneMan_7, dX9_readOneMan_8, dX9_readOneMan_9, dX9_readOneMan_11, dX9_readOneMan_14, dX9_readOneMan_16, dX9_readOneMan_19, dX9_readOneMan_20, dX9_readOneMan_21, dX9_readOneMan_22, dX9_readOneMan_25, dX9_readOneMan_26, dX9_readOneMan_27, dX9_readOneMan_29, dX9_readOneMan_32, dX9_readOneMan_34, dX9_readOneMan_37, dX9_readOneMan_38, dX9_readOneMan_39, dX9_readOneMan_41, dX9_readOneMan_44, dX9_readOneMan_45, dX9_readOneMan_46, dX9_readOneMan_48, dX9_readOneMan_51, dX9_readOneMan_52, dX9_readOneMan_53, dX9_readOneMan_54, dX9_readOneMan_57, dX9_readOneMan_58, dX9_readOneMan_59, dX9_readOneMan_62, dX9_readOneMan_63, dX9_readOneMan_64, dX9_readOneMan_65, dX9_readOneMan_66, dX9_readOneMan_69, dX9_readOneMan_70, dX9_readOneMan_71, dX9_readOneMan_74, dX9_readOneMan_75, dX9_readOneMan_76, dX9_readOneMan_77, dX9_readOneMan_78, dX9_readOneMan_79, dX9_readOneMan_80, dX9_readOneMan_83, dX9_readOneMan_84, dX9_readOneMan_85, dX9_readOneMan_88, dX9_readOneMan_89, dX9_readOneMan_90, dX9_readOneMan_91, dX9_readOneMan_92, dX9_readOneMan_93, dX9_readOneMan_94, dX9_readOneMan_95, dX9_readOneMan_98, dX9_readOneMan_99, dX9_readOneMan_100, dX9_readOneMan_103, dX9_readOneMan_104, ca_X9_readOneMan_84, e_aload_n0, e_callv, e_dupi, e_dupr, e_getfield, e_iadd, e_iastore, e_iload_n1, e_iload_n2, e_iload_n3, e_imul, e_ireturn, e_istore_n1i, e_istore_n1n, e_istore_n1r, e_istore_n2i, e_istore_n2n, e_istore_n2r, e_istore_n3i, e_istore_n3n, e_istore_n3r, e_putfield, es_36, es_37, gf_X9_28_30, gf_X9_91_30, j_bp_9, j_bp_m9, j_goto_16_9, j_goto_34_10, j_ic_0, j_ic_1, j_ic_2, j_ic_3, j_icmp_ne_11_8, j_icmp_ne_29_8, j_icmp_ne_48_5, pf_X9_91_30, rd_3, rd_11, rd_13, rd_2, rd_31, rd_s3, rd_s11, rd_s13, rd_s36, rd_s37, nI_1, xI_p1, ab_rn, bi_0, bi_1, ite_not]
        exact h
    · exact h.elim

def s_X9_readThing : ab_Sem := fun as M Po => match as with
  | [.ref 30] => ∃ (N : ab_M) (p z s m : Nat) (R Q : Nat → Int32), M = rd N p s m R Q ∧ p < z ∧ z ≤ 48 ∧ s ≤ 8 ∧ m ≤ 5 ∧ N.1 30 2 = nI z ∧ rt_M N z p s m R Q (fun r p s m R Q => Po (some (.int r)) (rd N p s m R Q))
  | _ => False
theorem q_X9_readThing {M : ab_M} {Po : ab_P} : s_X9_readThing [.ref 30] M Po = (∃ (N : ab_M) (p z s m : Nat) (R Q : Nat → Int32), M = rd N p s m R Q ∧ p < z ∧ z ≤ 48 ∧ s ≤ 8 ∧ m ≤ 5 ∧ N.1 30 2 = nI z ∧ rt_M N z p s m R Q (fun r p s m R Q => Po (some (.int r)) (rd N p s m R Q))) := rfl
abbrev x_X9_readThing : ab_X := (some .boolean, fl_X9, [(188, 1, s_X9_readOneStretch), (196, 1, s_X9_readOneMan)], kl_X9, gs_X9, ab_ros)
theorem ca_X9_readThing_94 {v0 : Value} {st : List Value} {M : ab_M} {k : List Value → ab_M → Prop} : ab_ca x_X9_readThing (2 * 94) (v0 :: st) M k = (st.length ≤ 4 ∧ s_X9_readOneStretch [v0] M (fun r M' => k (r.toList ++ st) M')) := rfl
theorem ca_X9_readThing_98 {v0 : Value} {st : List Value} {M : ab_M} {k : List Value → ab_M → Prop} : ab_ca x_X9_readThing (2 * 98) (v0 :: st) M k = (st.length ≤ 4 ∧ s_X9_readOneMan [v0] M (fun r M' => k (r.toList ++ st) M')) := rfl
theorem r_X9_readThing : ∀ (as : List Value) (M : ab_M) (Po : ab_P), s_X9_readThing as M Po → ∃ (q : Nat) (as' : List Value) (ci : Nat) (T : u_T) (N : Nat) (fs : List ab_F), as = .ref q :: as' ∧ ab_sh[q]? = some (.inl (ci, fs)) ∧ vwCl[ci]? = some (yX9_readThing.cls, T, N) := by
  intro as M Po h
  unfold s_X9_readThing at h
  split at h
  · first | exact ⟨_, _, 9, _, _, _, rfl, rfl, rfl⟩ | (rcases h.1 with rfl | rfl | rfl <;> exact ⟨_, _, 9, _, _, _, rfl, rfl, rfl⟩)
  · exact h.elim
theorem nI_l8 {s : Nat} (hs : s < 2 ^ 31) : (nI s < 8) = (s < 8) := by
  rw [Int32.lt_iff_toInt_lt, nI_toInt hs, show (8 : Int32).toInt = 8 from rfl]
  exact propext ⟨fun h => by omega, fun h => by omega⟩
theorem nI_l5 {s : Nat} (hs : s < 2 ^ 31) : (nI s < 5) = (s < 5) := by
  rw [Int32.lt_iff_toInt_lt, nI_toInt hs, show (5 : Int32).toInt = 5 from rfl]
  exact propext ⟨fun h => by omega, fun h => by omega⟩
theorem rsq9 {N : ab_M} {p z s m : Nat} {R Q : Nat → Int32} {Po : ab_P} (hp : p ≤ z) (hz : z ≤ 48) (h8 : s < 8) (hs : N.1 30 2 = nI z) (h : rS_M N z p s m R Q (fun r p s m R Q => Po (some (.int r)) (rd N p s m R Q))) : s_X9_readOneStretch [.ref 30] (rd N p s m R Q) Po := ⟨N, p, z, s, m, R, Q, rfl, hp, hz, h8, hs, h⟩
theorem rmq9 {N : ab_M} {p z s m : Nat} {R Q : Nat → Int32} {Po : ab_P} (hp : p ≤ z) (hz : z ≤ 48) (h8 : m < 5) (hs : N.1 30 2 = nI z) (h : rM_M N z p s m R Q (fun r p s m R Q => Po (some (.int r)) (rd N p s m R Q))) : s_X9_readOneMan [.ref 30] (rd N p s m R Q) Po := ⟨N, p, z, s, m, R, Q, rfl, hp, hz, h8, hs, h⟩
theorem rS_mono {M : ab_M} {z p s m : Nat} {R Q : Nat → Int32} {K L : rk_T} (h8 : s < 8) (h5 : m ≤ 5) (hk : ∀ r p s m R Q, ((r = 0 ∨ r = 1) ∧ s ≤ 8 ∧ m ≤ 5) → K r p s m R Q → L r p s m R Q) (h : rS_M M z p s m R Q K) : rS_M M z p s m R Q L := by
  unfold rS_M at h ⊢
  split
  · rename_i h1
    rw [if_pos h1] at h
    split
    · rename_i h2
      rw [if_pos h2] at h
      exact hk _ _ _ _ _ _ ⟨Or.inr rfl, by omega, by omega⟩ h
    · rename_i h2
      rw [if_neg h2] at h
      exact hk _ _ _ _ _ _ ⟨Or.inl rfl, by omega, by omega⟩ h
  · rename_i h1
    rw [if_neg h1] at h
    exact hk _ _ _ _ _ _ ⟨Or.inl rfl, by omega, by omega⟩ h
theorem rM_mono {M : ab_M} {z p s m : Nat} {R Q : Nat → Int32} {K L : rk_T} (h8 : s ≤ 8) (h5 : m < 5) (hk : ∀ r p s m R Q, ((r = 0 ∨ r = 1) ∧ s ≤ 8 ∧ m ≤ 5) → K r p s m R Q → L r p s m R Q) (h : rM_M M z p s m R Q K) : rM_M M z p s m R Q L := by
  unfold rM_M at h ⊢
  split
  · rename_i h1
    rw [if_pos h1] at h
    split
    · rename_i h2
      rw [if_pos h2] at h
      split
      · rename_i h3
        rw [if_pos h3] at h
        exact hk _ _ _ _ _ _ ⟨Or.inr rfl, by omega, by omega⟩ h
      · rename_i h3
        rw [if_neg h3] at h
        exact hk _ _ _ _ _ _ ⟨Or.inl rfl, by omega, by omega⟩ h
    · rename_i h2
      rw [if_neg h2] at h
      exact hk _ _ _ _ _ _ ⟨Or.inl rfl, by omega, by omega⟩ h
  · rename_i h1
    rw [if_neg h1] at h
    exact hk _ _ _ _ _ _ ⟨Or.inl rfl, by omega, by omega⟩ h
theorem rt_mono {M : ab_M} {z p s m : Nat} {R Q : Nat → Int32} {K L : rk_T} (h8 : s ≤ 8) (h5 : m ≤ 5) (hk : ∀ r p s m R Q, ((r = 0 ∨ r = 1) ∧ s ≤ 8 ∧ m ≤ 5) → K r p s m R Q → L r p s m R Q) (h : rt_M M z p s m R Q K) : rt_M M z p s m R Q L := by
  unfold rt_M at h ⊢
  split
  · rename_i h1
    rw [if_pos h1] at h
    exact rS_mono h1.2 h5 hk h
  · rename_i h1
    rw [if_neg h1] at h
    split
    · rename_i h2
      rw [if_pos h2] at h
      exact rM_mono h8 h2.2 hk h
    · rename_i h2
      rw [if_neg h2] at h
      exact hk _ _ _ _ _ _ ⟨Or.inl rfl, by omega, by omega⟩ h
theorem rt_mono2 {M : ab_M} {z p s m : Nat} {R Q : Nat → Int32} {K L : rk_T} (h8 : s ≤ 8) (h5 : m ≤ 5) (hk : ∀ r p' s m R Q, (((r = 0 ∧ True) ∨ (r = 1 ∧ p < p')) ∧ s ≤ 8 ∧ m ≤ 5 ∧ p ≤ p' ∧ p' ≤ p + 9) → K r p' s m R Q → L r p' s m R Q) (h : rt_M M z p s m R Q K) : rt_M M z p s m R Q L := by
  unfold rt_M rS_M rM_M at h ⊢
  split
  · rename_i h1
    rw [if_pos h1] at h
    split
    · rename_i h2
      rw [if_pos h2] at h
      split
      · rename_i h3
        rw [if_pos h3] at h
        exact hk _ _ _ _ _ _ ⟨Or.inr ⟨rfl, by omega⟩, by omega, by omega, by omega, by omega⟩ h
      · rename_i h3
        rw [if_neg h3] at h
        exact hk _ _ _ _ _ _ ⟨Or.inl ⟨rfl, trivial⟩, by omega, by omega, by omega, by omega⟩ h
    · rename_i h2
      rw [if_neg h2] at h
      exact hk _ _ _ _ _ _ ⟨Or.inl ⟨rfl, trivial⟩, by omega, by omega, by omega, by omega⟩ h
  · rename_i h1
    rw [if_neg h1] at h
    split
    · rename_i h2
      rw [if_pos h2] at h
      split
      · rename_i h3
        rw [if_pos h3] at h
        split
        · rename_i h4
          rw [if_pos h4] at h
          split
          · rename_i h5
            rw [if_pos h5] at h
            exact hk _ _ _ _ _ _ ⟨Or.inr ⟨rfl, by omega⟩, by omega, by omega, by omega, by omega⟩ h
          · rename_i h5
            rw [if_neg h5] at h
            exact hk _ _ _ _ _ _ ⟨Or.inl ⟨rfl, trivial⟩, by omega, by omega, by omega, by omega⟩ h
        · rename_i h4
          rw [if_neg h4] at h
          exact hk _ _ _ _ _ _ ⟨Or.inl ⟨rfl, trivial⟩, by omega, by omega, by omega, by omega⟩ h
      · rename_i h3
        rw [if_neg h3] at h
        exact hk _ _ _ _ _ _ ⟨Or.inl ⟨rfl, trivial⟩, by omega, by omega, by omega, by omega⟩ h
    · rename_i h2
      rw [if_neg h2] at h
      exact hk _ _ _ _ _ _ ⟨Or.inl ⟨rfl, trivial⟩, by omega, by omega, by omega, by omega⟩ h
set_option maxRecDepth 20000 in
set_option maxHeartbeats 4000000 in
theorem c_X9_readThing {l : Launch} : ab_ctr l yX9_readThing cX9_readThing 2 (some .boolean) 3 70 s_X9_readThing := by
  refine ab_met x_X9_readThing (by decide) rfl fo_X9 ko_X9 so_X9 rfl (ab_cs_cons (ab_kV c_X9_readOneStretch ml_X9_94 v_X9_readOneStretch ⟨rfl, rfl⟩ r_X9_readOneStretch) (ab_cs_cons (ab_kV c_X9_readOneMan ml_X9_98 v_X9_readOneMan ⟨rfl, rfl⟩ r_X9_readOneMan) ab_cs_nil)) ?_ ?_
  · intro as M Po h
    unfold s_X9_readThing at h
    split at h
    · simp [ab_e0]
    · exact h.elim
  · intro as M Po h G hG
    unfold s_X9_readThing at h
    split at h
    · simp only [ab_en, ab_e0, List.length_cons, List.length_nil, Nat.reduceAdd, Nat.reduceSub, List.replicate, List.cons_append, List.nil_append]
      obtain ⟨N, p, z, s, m, R, Q, rfl, hp, hz, h8, h5, hs, h⟩ := h
      unfold rt_M at h
      obtain ⟨e1, e2⟩ := cI (i := p) (b := 48) (by omega) (by omega)
      have l8 := nI_l8 (s := s) (by omega)
      have l5 := nI_l5 (s := m) (by omega)
      refine ab_go hG [] 80 _ _ _ _ ?_
      simp (decide := true) only [ew_n, ew_0, Option.toList_some, Option.toList_none, List.cons_append, List.nil_append, true_and, and_true, List.length_cons, List.length_nil, Nat.reduceAdd, Nat.reduceLeDiff, Int32.reduceAdd, Int32.reduceSub, Int32.reduceMul, Int32.reduceLT, Int32.reduceLE, Int32.reduceToNatClampNeg, ↓reduceIte, and_self, si_1, si_2, sl_1, sl_2, false_and, and_false, dX9_readThing_0, dX9_readThing_1, dX9_readThing_4, dX9_readThing_5, dX9_readThing_8, dX9_readThing_9, dX9_readThing_10, dX9_readThing_11, dX9_readThing_12, dX9_readThing_15, dX9_readThing_16, dX9_readThing_17, dX9_readThing_20, dX9_readThing_21, dX9_readThing_23, dX9_readThing_26, dX9_readThing_27, dX9_readThing_30, dX9_readThing_32, dX9_readThing_35, dX9_readThing_36, dX9_readThing_39, dX9_readThing_40, dX9_readThing_41, dX9_readThing_43, dX9_readThing_46, dX9_readThing_47, dX9_readThing_50, dX9_readThing_51, dX9_readThing_54, dX9_readThing_55, dX9_readThing_58, dX9_readThing_59, dX9_readThing_60, dX9_readThing_61, dX9_readThing_64, dX9_readThing_65, dX9_readThing_66, dX9_readThing_69, dX9_readThing_70, ca_X9_readThing_94, ca_X9_readThing_98, e_aload_n0, e_callv, e_dupi, e_dupr, e_getfield, e_iadd, e_iaload, e_iload_n1, e_ireturn, e_istore_n1i, e_istore_n1n, e_istore_n1r, e_isub, e_putfield, ea_31, gf_X9_7_30, gf_X9_81_30, gf_X9_88_30, gf_X9_91_30, j_bp_77, j_bp_8, j_bp_83, j_ic_0, j_ic_1, j_ic_5, j_icmp_ge_32_8, j_icmp_ge_51_8, j_icmp_ne_23_17, j_icmp_ne_43_16, pf_X9_81_30, rd_3, rd_11, rd_13, rd_2, rd_31, rd_s3, rd_s11, rd_s13, rd_s36, rd_s37, nI_1, xI_p1, e1, l8, l5, ab_rn, bi_0, bi_1, ite_not]
      refine ⟨e2, ?_⟩
      by_cases h1 : N.1 31 p = 83
      · rw [if_pos h1]
        by_cases h2 : s < 8
        · rw [if_pos h2]
          rw [if_pos ⟨h1, h2⟩] at h
          refine rsq9 (by omega) hz h2 hs ?_
          refine rS_mono h2 h5 (fun r p s m R Q hr hh => ?_) h
          rcases hr with ⟨rfl | rfl, _, _⟩
          all_goals
            simp (decide := true) only [ew_n, ew_0, Option.toList_some, Option.toList_none, List.cons_append, List.nil_append, true_and, and_true, List.length_cons, List.length_nil, Nat.reduceAdd, Nat.reduceLeDiff, Int32.reduceAdd, Int32.reduceSub, Int32.reduceMul, Int32.reduceLT, Int32.reduceLE, Int32.reduceToNatClampNeg, ↓reduceIte, and_self, si_1, si_2, sl_1, sl_2, false_and, and_false, dX9_readThing_0, dX9_readThing_1, dX9_readThing_4, dX9_readThing_5, dX9_readThing_8, dX9_readThing_9, dX9_readThing_10, dX9_readThing_11, dX9_readThing_12, dX9_readThing_15, dX9_readThing_16, dX9_readThing_17, dX9_readThing_20, dX9_readThing_21, dX9_readThing_23, dX9_readThing_26, dX9_readThing_27, dX9_readThing_30, dX9_readThing_32, dX9_readThing_35, dX9_readThing_36, dX9_readThing_39, dX9_readThing_40, dX9_readThing_41, dX9_readThing_43, dX9_readThing_46, dX9_readThing_47, dX9_readThing_50, dX9_readThing_51, dX9_readThing_54, dX9_readThing_55, dX9_readThing_58, dX9_readThing_59, dX9_readThing_60, dX9_readThing_61, dX9_readThing_64, dX9_readThing_65, dX9_readThing_66, dX9_readThing_69, dX9_readThing_70, ca_X9_readThing_94, ca_X9_readThing_98, e_aload_n0, e_callv, e_dupi, e_dupr, e_getfield, e_iadd, e_iaload, e_iload_n1, e_ireturn, e_istore_n1i, e_istore_n1n, e_istore_n1r, e_isub, e_putfield, ea_31, gf_X9_7_30, gf_X9_81_30, gf_X9_88_30, gf_X9_91_30, j_bp_77, j_bp_8, j_bp_83, j_ic_0, j_ic_1, j_ic_5, j_icmp_ge_32_8, j_icmp_ge_51_8, j_icmp_ne_23_17, j_icmp_ne_43_16, pf_X9_81_30, rd_3, rd_11, rd_13, rd_2, rd_31, rd_s3, rd_s11, rd_s13, rd_s36, rd_s37, nI_1, xI_p1, ab_rn, bi_0, bi_1, ite_not]
            exact hh
        · rw [if_neg h2]
          rw [if_neg (fun hh => h2 hh.2)] at h
          have h3 : ¬ N.1 31 p = 77 := by rw [h1]; decide
          rw [if_neg h3]
          rw [if_neg (fun hh => h3 hh.1)] at h
          exact h
      · rw [if_neg h1]
        rw [if_neg (fun hh => h1 hh.1)] at h
        by_cases h2 : N.1 31 p = 77
        · rw [if_pos h2]
          by_cases h3 : m < 5
          · rw [if_pos h3]
            rw [if_pos ⟨h2, h3⟩] at h
            refine rmq9 (by omega) hz h3 hs ?_
            refine rM_mono h8 h3 (fun r p s m R Q hr hh => ?_) h
            rcases hr with ⟨rfl | rfl, _, _⟩
            all_goals
              simp (decide := true) only [ew_n, ew_0, Option.toList_some, Option.toList_none, List.cons_append, List.nil_append, true_and, and_true, List.length_cons, List.length_nil, Nat.reduceAdd, Nat.reduceLeDiff, Int32.reduceAdd, Int32.reduceSub, Int32.reduceMul, Int32.reduceLT, Int32.reduceLE, Int32.reduceToNatClampNeg, ↓reduceIte, and_self, si_1, si_2, sl_1, sl_2, false_and, and_false, dX9_readThing_0, dX9_readThing_1, dX9_readThing_4, dX9_readThing_5, dX9_readThing_8, dX9_readThing_9, dX9_readThing_10, dX9_readThing_11, dX9_readThing_12, dX9_readThing_15, dX9_readThing_16, dX9_readThing_17, dX9_readThing_20, dX9_readThing_21, dX9_readThing_23, dX9_readThing_26, dX9_readThing_27, dX9_readThing_30, dX9_readThing_32, dX9_readThing_35, dX9_readThing_36, dX9_readThing_39, dX9_readThing_40, dX9_readThing_41, dX9_readThing_43, dX9_readThing_46, dX9_readThing_47, dX9_readThing_50, dX9_readThing_51, dX9_readThing_54, dX9_readThing_55, dX9_readThing_58, dX9_readThing_59, dX9_readThing_60, dX9_readThing_61, dX9_readThing_64, dX9_readThing_65, dX9_readThing_66, dX9_readThing_69, dX9_readThing_70, ca_X9_readThing_94, ca_X9_readThing_98, e_aload_n0, e_callv, e_dupi, e_dupr, e_getfield, e_iadd, e_iaload, e_iload_n1, e_ireturn, e_istore_n1i, e_istore_n1n, e_istore_n1r, e_isub, e_putfield, ea_31, gf_X9_7_30, gf_X9_81_30, gf_X9_88_30, gf_X9_91_30, j_bp_77, j_bp_8, j_bp_83, j_ic_0, j_ic_1, j_ic_5, j_icmp_ge_32_8, j_icmp_ge_51_8, j_icmp_ne_23_17, j_icmp_ne_43_16, pf_X9_81_30, rd_3, rd_11, rd_13, rd_2, rd_31, rd_s3, rd_s11, rd_s13, rd_s36, rd_s37, nI_1, xI_p1, ab_rn, bi_0, bi_1, ite_not]
              exact hh
          · rw [if_neg h3]
            rw [if_neg (fun hh => h3 hh.2)] at h
            exact h
        · rw [if_neg h2]
          rw [if_neg (fun hh => h2 hh.1)] at h
          exact h
    · exact h.elim

theorem rtq9 {N : ab_M} {p z s m : Nat} {R Q : Nat → Int32} {Po : ab_P} (hp : p < z) (hz : z ≤ 48) (h8 : s ≤ 8) (h5 : m ≤ 5) (hs : N.1 30 2 = nI z) (h : rt_M N z p s m R Q (fun r p s m R Q => Po (some (.int r)) (rd N p s m R Q))) : s_X9_readThing [.ref 30] (rd N p s m R Q) Po := ⟨N, p, z, s, m, R, Q, rfl, hp, hz, h8, h5, hs, h⟩
def s_X9_readArmy : ab_Sem := fun as M Po => match as with
  | [.ref 30] => ∃ z : Nat, z ≤ 48 ∧ M.1 30 2 = nI z ∧ (if z = 0 ∨ ¬ M.1 31 0 = 65 then Po (some (.int 0)) (rd M 0 0 0 (M.1 36) (M.1 37)) else ra_M M z 48 1 0 0 (M.1 36) (M.1 37) (fun r p s m R Q => Po (some (.int r)) (rd M p s m R Q)))
  | _ => False
theorem q_X9_readArmy {M : ab_M} {Po : ab_P} : s_X9_readArmy [.ref 30] M Po = (∃ z : Nat, z ≤ 48 ∧ M.1 30 2 = nI z ∧ (if z = 0 ∨ ¬ M.1 31 0 = 65 then Po (some (.int 0)) (rd M 0 0 0 (M.1 36) (M.1 37)) else ra_M M z 48 1 0 0 (M.1 36) (M.1 37) (fun r p s m R Q => Po (some (.int r)) (rd M p s m R Q)))) := rfl
abbrev x_X9_readArmy : ab_X := (some .int, fl_X9, [(202, 1, s_X9_readThing)], kl_X9, gs_X9, ab_ros)
theorem ca_X9_readArmy_101 {v0 : Value} {st : List Value} {M : ab_M} {k : List Value → ab_M → Prop} : ab_ca x_X9_readArmy (2 * 101) (v0 :: st) M k = (st.length ≤ 4 ∧ s_X9_readThing [v0] M (fun r M' => k (r.toList ++ st) M')) := rfl
theorem r_X9_readArmy : ∀ (as : List Value) (M : ab_M) (Po : ab_P), s_X9_readArmy as M Po → ∃ (q : Nat) (as' : List Value) (ci : Nat) (T : u_T) (N : Nat) (fs : List ab_F), as = .ref q :: as' ∧ ab_sh[q]? = some (.inl (ci, fs)) ∧ vwCl[ci]? = some (yX9_readArmy.cls, T, N) := by
  intro as M Po h
  unfold s_X9_readArmy at h
  split at h
  · first | exact ⟨_, _, 9, _, _, _, rfl, rfl, rfl⟩ | (rcases h.1 with rfl | rfl | rfl <;> exact ⟨_, _, 9, _, _, _, rfl, rfl, rfl⟩)
  · exact h.elim
set_option maxRecDepth 20000 in
set_option maxHeartbeats 4000000 in
theorem lq_X9_readArmy {G : ab_K} {Po : ab_P} (hG : ab_Clo cX9_readArmy x_X9_readArmy Po G) {N : ab_M} {z : Nat} (hz : z ≤ 48) (hs : N.1 30 2 = nI z) : ∀ (j p s m : Nat) (R Q : Nat → Int32), 49 ≤ j + p → p ≤ 600 → s ≤ 8 → m ≤ 5 → ra_M N z j p s m R Q (fun r p s m R Q => Po (some (.int r)) (rd N p s m R Q)) → G 40 [some (.ref 30)] [] (rd N p s m R Q) := by
  intro j
  induction j with
  | zero =>
    intro p s m R Q hj hp h8 h5 h
    unfold ra_M at h
    refine ab_go1 hG [40] 80 _ _ _ _ ?_
    simp (decide := true) only [ew_s, ew_0, Option.toList_some, Option.toList_none, List.cons_append, List.nil_append, true_and, and_true, List.length_cons, List.length_nil, Nat.reduceAdd, Nat.reduceLeDiff, Int32.reduceAdd, Int32.reduceSub, Int32.reduceMul, Int32.reduceLT, Int32.reduceLE, Int32.reduceToNatClampNeg, ↓reduceIte, and_self, si_1, si_2, sl_1, sl_2, false_and, and_false, dX9_readArmy_0, dX9_readArmy_1, dX9_readArmy_2, dX9_readArmy_5, dX9_readArmy_6, dX9_readArmy_7, dX9_readArmy_10, dX9_readArmy_11, dX9_readArmy_12, dX9_readArmy_15, dX9_readArmy_16, dX9_readArmy_19, dX9_readArmy_22, dX9_readArmy_23, dX9_readArmy_26, dX9_readArmy_27, dX9_readArmy_28, dX9_readArmy_30, dX9_readArmy_33, dX9_readArmy_34, dX9_readArmy_35, dX9_readArmy_36, dX9_readArmy_37, dX9_readArmy_40, dX9_readArmy_41, dX9_readArmy_44, dX9_readArmy_45, dX9_readArmy_48, dX9_readArmy_51, dX9_readArmy_52, dX9_readArmy_55, dX9_readArmy_58, dX9_readArmy_59, dX9_readArmy_62, dX9_readArmy_63, dX9_readArmy_65, ca_X9_readArmy_101, e_aload_n0, e_callv, e_getfield, e_iaload, e_ireturn, e_putfield, ea_31, gf_X9_78_30, gf_X9_7_30, gf_X9_81_30, j_bp_65, j_bp_m9, j_ic_0, j_ic_1, j_icmp_eq_30_5, j_icmp_ge_48_15, j_if_eq_19_14, j_if_ne_55_m15, pf_X9_81_30, pf_X9_88_30, pf_X9_91_30, rd_3, rd_11, rd_13, rd_2, rd_31, rd_s3, rd_s11, rd_s13, rd_s36, rd_s37, nI_1, xI_p1, hs, ab_rn, bi_0, bi_1, ite_not]
    rw [if_neg (nI_nlt (by omega) (by omega))]
    exact h
  | succ j ih =>
    intro p s m R Q hj hp h8 h5 h
    unfold ra_M at h
    refine ab_go1 hG [40] 80 _ _ _ _ ?_
    simp (decide := true) only [ew_s, ew_0, Option.toList_some, Option.toList_none, List.cons_append, List.nil_append, true_and, and_true, List.length_cons, List.length_nil, Nat.reduceAdd, Nat.reduceLeDiff, Int32.reduceAdd, Int32.reduceSub, Int32.reduceMul, Int32.reduceLT, Int32.reduceLE, Int32.reduceToNatClampNeg, ↓reduceIte, and_self, si_1, si_2, sl_1, sl_2, false_and, and_false, dX9_readArmy_0, dX9_readArmy_1, dX9_readArmy_2, dX9_readArmy_5, dX9_readArmy_6, dX9_readArmy_7, dX9_readArmy_10, dX9_readArmy_11, dX9_readArmy_12, dX9_readArmy_15, dX9_readArmy_16, dX9_readArmy_19, dX9_readArmy_22, dX9_readArmy_23, dX9_readArmy_26, dX9_readArmy_27, dX9_readArmy_28, dX9_readArmy_30, dX9_readArmy_33, dX9_readArmy_34, dX9_readArmy_35, dX9_readArmy_36, dX9_readArmy_37, dX9_readArmy_40, dX9_readArmy_41, dX9_readArmy_44, dX9_readArmy_45, dX9_readArmy_48, dX9_readArmy_51, dX9_readArmy_52, dX9_readArmy_55, dX9_readArmy_58, dX9_readArmy_59, dX9_readArmy_62, dX9_readArmy_63, dX9_readArmy_65, ca_X9_readArmy_101, e_aload_n0, e_callv, e_getfield, e_iaload, e_ireturn, e_putfield, ea_31, gf_X9_78_30, gf_X9_7_30, gf_X9_81_30, j_bp_65, j_bp_m9, j_ic_0, j_ic_1, j_icmp_eq_30_5, j_icmp_ge_48_15, j_if_eq_19_14, j_if_ne_55_m15, pf_X9_81_30, pf_X9_88_30, pf_X9_91_30, rd_3, rd_11, rd_13, rd_2, rd_31, rd_s3, rd_s11, rd_s13, rd_s36, rd_s37, nI_1, xI_p1, hs, ab_rn, bi_0, bi_1, ite_not]
    by_cases h1 : p < z
    · rw [if_pos h1] at h
      rw [if_pos (nI_lt h1 (by omega))]
      refine rtq9 h1 hz h8 h5 hs ?_
      refine rt_mono2 h8 h5 (fun r p' s m R Q hr hh => ?_) h
      obtain ⟨hr, h8, h5, hp1, hp2⟩ := hr
      rcases hr with ⟨rfl, _⟩ | ⟨rfl, hp1⟩
      · simp (decide := true) only [ew_s, ew_0, Option.toList_some, Option.toList_none, List.cons_append, List.nil_append, true_and, and_true, List.length_cons, List.length_nil, Nat.reduceAdd, Nat.reduceLeDiff, Int32.reduceAdd, Int32.reduceSub, Int32.reduceMul, Int32.reduceLT, Int32.reduceLE, Int32.reduceToNatClampNeg, ↓reduceIte, and_self, si_1, si_2, sl_1, sl_2, false_and, and_false, dX9_readArmy_0, dX9_readArmy_1, dX9_readArmy_2, dX9_readArmy_5, dX9_readArmy_6, dX9_readArmy_7, dX9_readArmy_10, dX9_readArmy_11, dX9_readArmy_12, dX9_readArmy_15, dX9_readArmy_16, dX9_readArmy_19, dX9_readArmy_22, dX9_readArmy_23, dX9_readArmy_26, dX9_readArmy_27, dX9_readArmy_28, dX9_readArmy_30, dX9_readArmy_33, dX9_readArmy_34, dX9_readArmy_35, dX9_readArmy_36, dX9_readArmy_37, dX9_readArmy_40, dX9_readArmy_41, dX9_readArmy_44, dX9_readArmy_45, dX9_readArmy_48, dX9_readArmy_51, dX9_readArmy_52, dX9_readArmy_55, dX9_readArmy_58, dX9_readArmy_59, dX9_readArmy_62, dX9_readArmy_63, dX9_readArmy_65, ca_X9_readArmy_101, e_aload_n0, e_callv, e_getfield, e_iaload, e_ireturn, e_putfield, ea_31, gf_X9_78_30, gf_X9_7_30, gf_X9_81_30, j_bp_65, j_bp_m9, j_ic_0, j_ic_1, j_icmp_eq_30_5, j_icmp_ge_48_15, j_if_eq_19_14, j_if_ne_55_m15, pf_X9_81_30, pf_X9_88_30, pf_X9_91_30, rd_3, rd_11, rd_13, rd_2, rd_31, rd_s3, rd_s11, rd_s13, rd_s36, rd_s37, nI_1, xI_p1, ab_rn, bi_0, bi_1, ite_not]
        exact hh
      · simp (decide := true) only [ew_s, ew_0, Option.toList_some, Option.toList_none, List.cons_append, List.nil_append, true_and, and_true, List.length_cons, List.length_nil, Nat.reduceAdd, Nat.reduceLeDiff, Int32.reduceAdd, Int32.reduceSub, Int32.reduceMul, Int32.reduceLT, Int32.reduceLE, Int32.reduceToNatClampNeg, ↓reduceIte, and_self, si_1, si_2, sl_1, sl_2, false_and, and_false, dX9_readArmy_0, dX9_readArmy_1, dX9_readArmy_2, dX9_readArmy_5, dX9_readArmy_6, dX9_readArmy_7, dX9_readArmy_10, dX9_readArmy_11, dX9_readArmy_12, dX9_readArmy_15, dX9_readArmy_16, dX9_readArmy_19, dX9_readArmy_22, dX9_readArmy_23, dX9_readArmy_26, dX9_readArmy_27, dX9_readArmy_28, dX9_readArmy_30, dX9_readArmy_33, dX9_readArmy_34, dX9_readArmy_35, dX9_readArmy_36, dX9_readArmy_37, dX9_readArmy_40, dX9_readArmy_41, dX9_readArmy_44, dX9_readArmy_45, dX9_readArmy_48, dX9_readArmy_51, dX9_readArmy_52, dX9_readArmy_55, dX9_readArmy_58, dX9_readArmy_59, dX9_readArmy_62, dX9_readArmy_63, dX9_readArmy_65, ca_X9_readArmy_101, e_aload_n0, e_callv, e_getfield, e_iaload, e_ireturn, e_putfield, ea_31, gf_X9_78_30, gf_X9_7_30, gf_X9_81_30, j_bp_65, j_bp_m9, j_ic_0, j_ic_1, j_icmp_eq_30_5, j_icmp_ge_48_15, j_if_eq_19_14, j_if_ne_55_m15, pf_X9_81_30, pf_X9_88_30, pf_X9_91_30, rd_3, rd_11, rd_13, rd_2, rd_31, rd_s3, rd_s11, rd_s13, rd_s36, rd_s37, nI_1, xI_p1, ab_rn, bi_0, bi_1, ite_not]
        exact ih p' s m R Q (by omega) (by omega) h8 h5 hh
    · rw [if_neg h1] at h
      rw [if_neg (nI_nlt (by omega) (by omega))]
      exact h
set_option maxRecDepth 20000 in
set_option maxHeartbeats 4000000 in
theorem c_X9_readArmy {l : Launch} : ab_ctr l yX9_readArmy cX9_readArmy 1 (some .int) 4 91 s_X9_readArmy := by
  refine ab_met x_X9_readArmy (by decide) rfl fo_X9 ko_X9 so_X9 rfl (ab_cs_cons (ab_kV c_X9_readThing ml_X9_101 v_X9_readThing ⟨rfl, rfl⟩ r_X9_readThing) ab_cs_nil) ?_ ?_
  · intro as M Po h
    unfold s_X9_readArmy at h
    split at h
    · simp [ab_e0]
    · exact h.elim
  · intro as M Po h G hG
    unfold s_X9_readArmy at h
    split at h
    · simp only [ab_en, ab_e0, List.length_cons, List.length_nil, Nat.reduceAdd, Nat.reduceSub, List.replicate, List.cons_append, List.nil_append]
      obtain ⟨z, hz, hs, h⟩ := h
      have key := fun hh => lq_X9_readArmy hG hz hs 48 1 0 0 (M.1 36) (M.1 37) (by omega) (by omega) (by omega) (by omega) hh
      refine ab_go hG [40] 80 _ _ _ _ ?_
      simp (decide := true) only [ew_s, ew_0, Option.toList_some, Option.toList_none, List.cons_append, List.nil_append, true_and, and_true, List.length_cons, List.length_nil, Nat.reduceAdd, Nat.reduceLeDiff, Int32.reduceAdd, Int32.reduceSub, Int32.reduceMul, Int32.reduceLT, Int32.reduceLE, Int32.reduceToNatClampNeg, ↓reduceIte, and_self, si_1, si_2, sl_1, sl_2, false_and, and_false, dX9_readArmy_0, dX9_readArmy_1, dX9_readArmy_2, dX9_readArmy_5, dX9_readArmy_6, dX9_readArmy_7, dX9_readArmy_10, dX9_readArmy_11, dX9_readArmy_12, dX9_readArmy_15, dX9_readArmy_16, dX9_readArmy_19, dX9_readArmy_22, dX9_readArmy_23, dX9_readArmy_26, dX9_readArmy_27, dX9_readArmy_28, dX9_readArmy_30, dX9_readArmy_33, dX9_readArmy_34, dX9_readArmy_35, dX9_readArmy_36, dX9_readArmy_37, dX9_readArmy_40, dX9_readArmy_41, dX9_readArmy_44, dX9_readArmy_45, dX9_readArmy_48, dX9_readArmy_51, dX9_readArmy_52, dX9_readArmy_55, dX9_readArmy_58, dX9_readArmy_59, dX9_readArmy_62, dX9_readArmy_63, dX9_readArmy_65, ca_X9_readArmy_101, e_aload_n0, e_callv, e_getfield, e_iaload, e_ireturn, e_putfield, ea_31, gf_X9_78_30, gf_X9_7_30, gf_X9_81_30, j_bp_65, j_bp_m9, j_ic_0, j_ic_1, j_icmp_eq_30_5, j_icmp_ge_48_15, j_if_eq_19_14, j_if_ne_55_m15, pf_X9_81_30, pf_X9_88_30, pf_X9_91_30, hs, rd_00, rd_3, rd_11, rd_13, rd_2, rd_31, rd_s3, rd_s11, rd_s13, rd_s36, rd_s37, nI_1, xI_p1, ab_rn, bi_0, bi_1, ite_not]
      rw [show ab_si (rd M 0 0 0 (M.1 36) (M.1 37)) 30 3 1 = rd M 1 0 0 (M.1 36) (M.1 37) from rd_s3 (x := 1)]
      by_cases h1 : z = 0
      · subst h1
        rw [if_pos (Or.inl rfl)] at h
        rw [if_pos (show nI 0 = 0 from rfl)]
        exact h
      · have h0 : ¬ nI z = 0 := by
          rw [show (0 : Int32) = nI 0 from rfl, nI_eqz (by omega) (by omega)]
          exact h1
        rw [if_neg h0]
        by_cases h2 : M.1 31 0 = 65
        · rw [if_pos h2]
          rw [if_neg (fun hh => hh.elim h1 (fun h3 => h3 h2))] at h
          exact key h
        · rw [if_neg h2]
          rw [if_pos (Or.inr h2)] at h
          exact h
    · exact h.elim

