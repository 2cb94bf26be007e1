/-! METHODS: statics, Math -/
def fl_J6 : List (Nat × Nat × Nat) := []
theorem fo_J6 : ab_flok RJ6 fl_J6 := ab_flok_nil
theorem ab_jini : Cond.initialized "java/lang/Math" ∈ ab_tb := ab_mem 48 (by decide +kernel) rfl
def s_J9_min_7cf53 : ab_Sem := fun as M Po => match as with
  | [.int x, .int y] => Po (some (.int (if y < x then y else x))) M
  | _ => False
theorem q_J9_min_7cf53 {x y : Int32} {M : ab_M} {Po : ab_P} : s_J9_min_7cf53 [.int x, .int y] M Po = (Po (some (.int (if y < x then y else x))) M) := rfl
theorem jc_min : Cond.code Lib.Math.min.name Lib.Math.min.code 2 (some .int) ∈ ab_tb := ab_mem 466 (by decide +kernel) rfl
theorem js_min : Cond.static Lib.Math.min.name ∈ ab_tb := ab_mem 465 (by decide +kernel) rfl
theorem ab_kmin {l : Launch} {own : String} {fr lo idx : Nat} (hlink : Cond.methodLink own idx yJ9_min_7cf53 ∈ ab_tb) (h1 : 1 ≤ fr) (h2 : 21 ≤ lo) : ab_cok l own fr lo (2 * idx + 1) 2 s_J9_min_7cf53 := by
  intro p e R s m args below meth c cells slots Q cc D ad cA A nL hC hfr hlo hce hsl pc lv as rest M Po hdec hlen hrest hf hk H locs ls hP hS hl
  obtain ⟨hx, hb, hml, hown, hts, hw0⟩ := hC
  have hd1 : decode cc pc = .ok (.invokestatic idx, 3) := by
    rcases hdec with ⟨j, hj, h⟩ | ⟨j, hj, h⟩
    · omega
    · have : idx = j := by omega
      subst this; exact h
  have hcat := ab_cat_le (ad := ad) rest hrest
  unfold s_J9_min_7cf53 at hf
  split at hf
  · have := hk _ _ hf H locs ls hP hS hl
    exact va_mmin (rest := rest.map (ab_cv ad)) hx hb (hml.trans hl.1.symm) hown (hts _ hlink) (hts _ js_min) (hts _ ab_jini) (hts _ jc_min) (by omega) (Nat.le_trans (Nat.add_le_add_right hcat 13) (by omega)) hce hsl hd1 this
  · exact hf.elim
def s_J9_max_7cf53 : ab_Sem := fun as M Po => match as with
  | [.int x, .int y] => Po (some (.int (if x < y then y else x))) M
  | _ => False
theorem q_J9_max_7cf53 {x y : Int32} {M : ab_M} {Po : ab_P} : s_J9_max_7cf53 [.int x, .int y] M Po = (Po (some (.int (if x < y then y else x))) M) := rfl
theorem jc_max : Cond.code Lib.Math.max.name Lib.Math.max.code 2 (some .int) ∈ ab_tb := ab_mem 463 (by decide +kernel) rfl
theorem js_max : Cond.static Lib.Math.max.name ∈ ab_tb := ab_mem 462 (by decide +kernel) rfl
theorem ab_kmax {l : Launch} {own : String} {fr lo idx : Nat} (hlink : Cond.methodLink own idx yJ9_max_7cf53 ∈ ab_tb) (h1 : 1 ≤ fr) (h2 : 21 ≤ lo) : ab_cok l own fr lo (2 * idx + 1) 2 s_J9_max_7cf53 := by
  intro p e R s m args below meth c cells slots Q cc D ad cA A nL hC hfr hlo hce hsl pc lv as rest M Po hdec hlen hrest hf hk H locs ls hP hS hl
  obtain ⟨hx, hb, hml, hown, hts, hw0⟩ := hC
  have hd1 : decode cc pc = .ok (.invokestatic idx, 3) := by
    rcases hdec with ⟨j, hj, h⟩ | ⟨j, hj, h⟩
    · omega
    · have : idx = j := by omega
      subst this; exact h
  have hcat := ab_cat_le (ad := ad) rest hrest
  unfold s_J9_max_7cf53 at hf
  split at hf
  · have := hk _ _ hf H locs ls hP hS hl
    exact va_mmax (rest := rest.map (ab_cv ad)) hx hb (hml.trans hl.1.symm) hown (hts _ hlink) (hts _ js_max) (hts _ ab_jini) (hts _ jc_max) (by omega) (Nat.le_trans (Nat.add_le_add_right hcat 13) (by omega)) hce hsl hd1 this
  · exact hf.elim
def s_J9_abs_0f7a4 : ab_Sem := fun as M Po => match as with
  | [.int x] => Po (some (.int (if 0 ≤ x then x else 0 - x))) M
  | _ => False
theorem q_J9_abs_0f7a4 {x : Int32} {M : ab_M} {Po : ab_P} : s_J9_abs_0f7a4 [.int x] M Po = (Po (some (.int (if 0 ≤ x then x else 0 - x))) M) := rfl
theorem jc_abs : Cond.code Lib.Math.abs.name Lib.Math.abs.code 1 (some .int) ∈ ab_tb := ab_mem 683 (by decide +kernel) rfl
theorem js_abs : Cond.static Lib.Math.abs.name ∈ ab_tb := ab_mem 682 (by decide +kernel) rfl
theorem ab_kabs {l : Launch} {own : String} {fr lo idx : Nat} (hlink : Cond.methodLink own idx yJ9_abs_0f7a4 ∈ ab_tb) (h1 : 1 ≤ fr) (h2 : 21 ≤ lo) : ab_cok l own fr lo (2 * idx + 1) 1 s_J9_abs_0f7a4 := by
  intro p e R s m args below meth c cells slots Q cc D ad cA A nL hC hfr hlo hce hsl pc lv as rest M Po hdec hlen hrest hf hk H locs ls hP hS hl
  obtain ⟨hx, hb, hml, hown, hts, hw0⟩ := hC
  have hd1 : decode cc pc = .ok (.invokestatic idx, 3) := by
    rcases hdec with ⟨j, hj, h⟩ | ⟨j, hj, h⟩
    · omega
    · have : idx = j := by omega
      subst this; exact h
  have hcat := ab_cat_le (ad := ad) rest hrest
  unfold s_J9_abs_0f7a4 at hf
  split at hf
  · have := hk _ _ hf H locs ls hP hS hl
    exact va_mabs (rest := rest.map (ab_cv ad)) hx hb (hml.trans hl.1.symm) hown (hts _ hlink) (hts _ js_abs) (hts _ ab_jini) (hts _ jc_abs) (by omega) (Nat.le_trans (Nat.add_le_add_right hcat 13) (by omega)) hce hsl hd1 this
  · exact hf.elim
/-- power, Euclid -/
def pw_X (b : Int32) : Nat → Int32
  | 0 => 1
  | n + 1 => pw_X b n * b
def gd_X : Nat → Int32 → Int32 → Int32
  | 0, a, _ => a
  | n + 1, a, b => if b = 0 then a else gd_X n b (a - a / b * b)
theorem nI_ltc {i n : Nat} {x : Int32} (hx : x = nI n) (h : i < n) (hn : n < 2 ^ 31) : nI i < x := by
  rw [hx]
  exact nI_lt h hn
theorem nI_nltc {i n : Nat} {x : Int32} (hx : x = nI n) (h : n ≤ i) (hn : i < 2 ^ 31) : ¬ nI i < x := by
  rw [hx]
  exact nI_nlt h hn
theorem tn_neg {t : Int32} (ht : t < 0) : t.toNatClampNeg = 0 := by
  have h := Int32.lt_iff_toInt_lt.mp ht
  have h0 : (0 : Int32).toInt = 0 := by decide
  show t.toInt.toNat = 0
  omega
def s_X8_power : ab_Sem := fun as M Po => match as with
  | [.int b, .int t] => Po (some (.int (pw_X b t.toNatClampNeg))) M
  | _ => False
theorem q_X8_power {b t : Int32} {M : ab_M} {Po : ab_P} : s_X8_power [.int b, .int t] M Po = (Po (some (.int (pw_X b t.toNatClampNeg))) M) := rfl
abbrev x_X8_power : ab_X := (some .int, fl_X8, [], kl_X8, gs_X8, ab_ros)
set_option maxRecDepth 20000 in
set_option maxHeartbeats 4000000 in
theorem lp_X8_power {G : ab_K} {Po : ab_P} (hG : ab_Clo cX8_power x_X8_power Po G) {b : Int32} {M : ab_M} (n : Nat) (hn : n < 2 ^ 31) (h : Po (some (.int (pw_X b n))) M) : ∀ j i : Nat, i + j = n → G 4 [some (.int b), some (.int (nI n)), some (.int (pw_X b i)), some (.int (nI i))] [] M := by
  intro j
  induction j with
  | zero =>
    intro i hi
    have e : i = n := by omega
    subst e
    refine ab_go1 hG [4] 80 _ _ _ _ ?_
    simp (decide := true) only [ew_s, ew_0, Option.toList_some, Option.toList_none, List.cons_append, List.nil_append, true_and, and_true, List.length_cons, List.length_nil, Nat.reduceAdd, Nat.reduceLeDiff, Int32.reduceAdd, Int32.reduceSub, Int32.reduceMul, Int32.reduceLT, Int32.reduceLE, Int32.reduceToNatClampNeg, ↓reduceIte, and_self, si_1, si_2, sl_1, sl_2, false_and, and_false, dX8_power_0, dX8_power_1, dX8_power_2, dX8_power_3, dX8_power_4, dX8_power_5, dX8_power_6, dX8_power_9, dX8_power_10, dX8_power_11, dX8_power_12, dX8_power_13, dX8_power_16, dX8_power_19, dX8_power_20, e_iload_n0, e_iload_n1, e_iload_n2, e_iload_n3, e_imul, e_ireturn, e_istore_n2i, e_istore_n2n, e_istore_n2r, e_istore_n3i, e_istore_n3n, e_istore_n3r, j_goto_16_m12, j_ic_0, j_ic_1, j_icmp_ge_6_13, j_ii_3_1, ab_rn, bi_0, bi_1, ite_not]
    rw [if_neg (nI_nlt (Nat.le_refl i) hn)]
    exact h
  | succ j ih =>
    intro i hi
    refine ab_go1 hG [4] 80 _ _ _ _ ?_
    simp (decide := true) only [ew_s, ew_0, Option.toList_some, Option.toList_none, List.cons_append, List.nil_append, true_and, and_true, List.length_cons, List.length_nil, Nat.reduceAdd, Nat.reduceLeDiff, Int32.reduceAdd, Int32.reduceSub, Int32.reduceMul, Int32.reduceLT, Int32.reduceLE, Int32.reduceToNatClampNeg, ↓reduceIte, and_self, si_1, si_2, sl_1, sl_2, false_and, and_false, dX8_power_0, dX8_power_1, dX8_power_2, dX8_power_3, dX8_power_4, dX8_power_5, dX8_power_6, dX8_power_9, dX8_power_10, dX8_power_11, dX8_power_12, dX8_power_13, dX8_power_16, dX8_power_19, dX8_power_20, e_iload_n0, e_iload_n1, e_iload_n2, e_iload_n3, e_imul, e_ireturn, e_istore_n2i, e_istore_n2n, e_istore_n2r, e_istore_n3i, e_istore_n3n, e_istore_n3r, j_goto_16_m12, j_ic_0, j_ic_1, j_icmp_ge_6_13, j_ii_3_1, ab_rn, bi_0, bi_1, ite_not]
    rw [if_pos (nI_lt (by omega) hn), nI_1]
    exact ih (i + 1) (by omega)
set_option maxRecDepth 20000 in
set_option maxHeartbeats 4000000 in
theorem c_X8_power {l : Launch} : ab_ctr l yX8_power cX8_power 4 (some .int) 0 0 s_X8_power := by
  refine ab_met x_X8_power (by decide) rfl fo_X8 ko_X8 so_X8 rfl ab_cs_nil ?_ ?_
  · intro as M Po h
    unfold s_X8_power at h
    split at h
    · simp [ab_e0]
    · exact h.elim
  · intro as M Po h G hG
    unfold s_X8_power at h
    split at h
    · simp only [ab_en, ab_e0, List.length_cons, List.length_nil, Nat.reduceAdd, Nat.reduceSub, List.replicate, List.cons_append, List.nil_append]
      rename_i b t
      by_cases ht : t < 0
      · rw [tn_neg ht] at h
        refine ab_go hG [] 80 _ _ _ _ ?_
        simp (decide := true) only [ew_n, ew_0, Option.toList_some, Option.toList_none, List.cons_append, List.nil_append, true_and, and_true, List.length_cons, List.length_nil, Nat.reduceAdd, Nat.reduceLeDiff, Int32.reduceAdd, Int32.reduceSub, Int32.reduceMul, Int32.reduceLT, Int32.reduceLE, Int32.reduceToNatClampNeg, ↓reduceIte, and_self, si_1, si_2, sl_1, sl_2, false_and, and_false, dX8_power_0, dX8_power_1, dX8_power_2, dX8_power_3, dX8_power_4, dX8_power_5, dX8_power_6, dX8_power_9, dX8_power_10, dX8_power_11, dX8_power_12, dX8_power_13, dX8_power_16, dX8_power_19, dX8_power_20, e_iload_n0, e_iload_n1, e_iload_n2, e_iload_n3, e_imul, e_ireturn, e_istore_n2i, e_istore_n2n, e_istore_n2r, e_istore_n3i, e_istore_n3n, e_istore_n3r, j_goto_16_m12, j_ic_0, j_ic_1, j_icmp_ge_6_13, j_ii_3_1, ab_rn, bi_0, bi_1, ite_not]
        rw [if_neg (fun h2 => by have h3 := Int32.lt_iff_toInt_lt.mp h2; have h4 := Int32.lt_iff_toInt_lt.mp ht; omega)]
        exact h
      · obtain ⟨n, hn, rfl⟩ := nI_of ht
        rw [nI_clamp hn] at h
        refine ab_go hG [4] 80 _ _ _ _ ?_
        simp (decide := true) only [ew_s, ew_0, Option.toList_some, Option.toList_none, List.cons_append, List.nil_append, true_and, and_true, List.length_cons, List.length_nil, Nat.reduceAdd, Nat.reduceLeDiff, Int32.reduceAdd, Int32.reduceSub, Int32.reduceMul, Int32.reduceLT, Int32.reduceLE, Int32.reduceToNatClampNeg, ↓reduceIte, and_self, si_1, si_2, sl_1, sl_2, false_and, and_false, dX8_power_0, dX8_power_1, dX8_power_2, dX8_power_3, dX8_power_4, dX8_power_5, dX8_power_6, dX8_power_9, dX8_power_10, dX8_power_11, dX8_power_12, dX8_power_13, dX8_power_16, dX8_power_19, dX8_power_20, e_iload_n0, e_iload_n1, e_iload_n2, e_iload_n3, e_imul, e_ireturn, e_istore_n2i, e_istore_n2n, e_istore_n2r, e_istore_n3i, e_istore_n3n, e_istore_n3r, j_goto_16_m12, j_ic_0, j_ic_1, j_icmp_ge_6_13, j_ii_3_1, ab_rn, bi_0, bi_1, ite_not]
        exact lp_X8_power hG n hn h n 0 (by omega)
    · exact h.elim

def s_X8_commonDivisor : ab_Sem := fun as M Po => match as with
  | [.int a, .int b] => Po (some (.int (gd_X 64 a b))) M
  | _ => False
theorem q_X8_commonDivisor {a b : Int32} {M : ab_M} {Po : ab_P} : s_X8_commonDivisor [.int a, .int b] M Po = (Po (some (.int (gd_X 64 a b))) M) := rfl
abbrev x_X8_commonDivisor : ab_X := (some .int, fl_X8, [], kl_X8, gs_X8, ab_ros)
set_option maxRecDepth 20000 in
set_option maxHeartbeats 4000000 in
theorem lp_X8_commonDivisor {G : ab_K} {Po : ab_P} (hG : ab_Clo cX8_commonDivisor x_X8_commonDivisor Po G) {u v : Int32} {M : ab_M} : ∀ (j i : Nat) (a b : Int32) (c : Option Value), i + j = 64 → Po (some (.int (gd_X j a b))) M → G 7 [some (.int u), some (.int v), some (.int a), some (.int b), some (.int (nI i)), c] [] M := by
  intro j
  induction j with
  | zero =>
    intro i a b c hi h
    have e : i = 64 := by omega
    subst e
    refine ab_go1 hG [7] 80 _ _ _ _ ?_
    simp (decide := true) only [ew_s, ew_0, Option.toList_some, Option.toList_none, List.cons_append, List.nil_append, true_and, and_true, List.length_cons, List.length_nil, Nat.reduceAdd, Nat.reduceLeDiff, Int32.reduceAdd, Int32.reduceSub, Int32.reduceMul, Int32.reduceLT, Int32.reduceLE, Int32.reduceToNatClampNeg, ↓reduceIte, and_self, si_1, si_2, sl_1, sl_2, false_and, and_false, dX8_commonDivisor_0, dX8_commonDivisor_1, dX8_commonDivisor_2, dX8_commonDivisor_3, dX8_commonDivisor_4, dX8_commonDivisor_5, dX8_commonDivisor_7, dX8_commonDivisor_9, dX8_commonDivisor_11, dX8_commonDivisor_14, dX8_commonDivisor_15, dX8_commonDivisor_18, dX8_commonDivisor_19, dX8_commonDivisor_20, dX8_commonDivisor_21, dX8_commonDivisor_23, dX8_commonDivisor_24, dX8_commonDivisor_25, dX8_commonDivisor_27, dX8_commonDivisor_28, dX8_commonDivisor_31, dX8_commonDivisor_34, dX8_commonDivisor_35, e_iload4, e_iload5, e_iload_n0, e_iload_n1, e_iload_n2, e_iload_n3, e_irem, e_ireturn, e_istore4i, e_istore4n, e_istore4r, e_istore5i, e_istore5n, e_istore5r, e_istore_n2i, e_istore_n2n, e_istore_n2r, e_istore_n3i, e_istore_n3n, e_istore_n3r, j_bp_64, j_goto_31_m24, j_ic_0, j_icmp_ge_11_23, j_if_eq_15_19, j_ii_4_1, ab_rn, bi_0, bi_1, ite_not]
    exact h
  | succ j ih =>
    intro i a b c hi h
    refine ab_go1 hG [7] 80 _ _ _ _ ?_
    simp (decide := true) only [ew_s, ew_0, Option.toList_some, Option.toList_none, List.cons_append, List.nil_append, true_and, and_true, List.length_cons, List.length_nil, Nat.reduceAdd, Nat.reduceLeDiff, Int32.reduceAdd, Int32.reduceSub, Int32.reduceMul, Int32.reduceLT, Int32.reduceLE, Int32.reduceToNatClampNeg, ↓reduceIte, and_self, si_1, si_2, sl_1, sl_2, false_and, and_false, dX8_commonDivisor_0, dX8_commonDivisor_1, dX8_commonDivisor_2, dX8_commonDivisor_3, dX8_commonDivisor_4, dX8_commonDivisor_5, dX8_commonDivisor_7, dX8_commonDivisor_9, dX8_commonDivisor_11, dX8_commonDivisor_14, dX8_commonDivisor_15, dX8_commonDivisor_18, dX8_commonDivisor_19, dX8_commonDivisor_20, dX8_commonDivisor_21, dX8_commonDivisor_23, dX8_commonDivisor_24, dX8_commonDivisor_25, dX8_commonDivisor_27, dX8_commonDivisor_28, dX8_commonDivisor_31, dX8_commonDivisor_34, dX8_commonDivisor_35, e_iload4, e_iload5, e_iload_n0, e_iload_n1, e_iload_n2, e_iload_n3, e_irem, e_ireturn, e_istore4i, e_istore4n, e_istore4r, e_istore5i, e_istore5n, e_istore5r, e_istore_n2i, e_istore_n2n, e_istore_n2r, e_istore_n3i, e_istore_n3n, e_istore_n3r, j_bp_64, j_goto_31_m24, j_ic_0, j_icmp_ge_11_23, j_if_eq_15_19, j_ii_4_1, ab_rn, bi_0, bi_1, ite_not]
    rw [if_pos (show nI i < 64 from nI_lt (b := 64) (by omega) (by omega)), nI_1]
    unfold gd_X at h
    split
    · rename_i hb
      rw [if_pos hb] at h
      exact h
    · rename_i hb
      rw [if_neg hb] at h
      exact ⟨hb, ih (i + 1) _ _ _ (by omega) h⟩
set_option maxRecDepth 20000 in
set_option maxHeartbeats 4000000 in
theorem c_X8_commonDivisor {l : Launch} : ab_ctr l yX8_commonDivisor cX8_commonDivisor 6 (some .int) 0 0 s_X8_commonDivisor := by
  refine ab_met x_X8_commonDivisor (by decide) rfl fo_X8 ko_X8 so_X8 rfl ab_cs_nil ?_ ?_
  · intro as M Po h
    unfold s_X8_commonDivisor at h
    split at h
    · simp [ab_e0]
    · exact h.elim
  · intro as M Po h G hG
    unfold s_X8_commonDivisor at h
    split at h
    · simp only [ab_en, ab_e0, List.length_cons, List.length_nil, Nat.reduceAdd, Nat.reduceSub, List.replicate, List.cons_append, List.nil_append]
      refine ab_go hG [7] 80 _ _ _ _ ?_
      simp (decide := true) only [ew_s, ew_0, Option.toList_some, Option.toList_none, List.cons_append, List.nil_append, true_and, and_true, List.length_cons, List.length_nil, Nat.reduceAdd, Nat.reduceLeDiff, Int32.reduceAdd, Int32.reduceSub, Int32.reduceMul, Int32.reduceLT, Int32.reduceLE, Int32.reduceToNatClampNeg, ↓reduceIte, and_self, si_1, si_2, sl_1, sl_2, false_and, and_false, dX8_commonDivisor_0, dX8_commonDivisor_1, dX8_commonDivisor_2, dX8_commonDivisor_3, dX8_commonDivisor_4, dX8_commonDivisor_5, dX8_commonDivisor_7, dX8_commonDivisor_9, dX8_commonDivisor_11, dX8_commonDivisor_14, dX8_commonDivisor_15, dX8_commonDivisor_18, dX8_commonDivisor_19, dX8_commonDivisor_20, dX8_commonDivisor_21, dX8_commonDivisor_23, dX8_commonDivisor_24, dX8_commonDivisor_25, dX8_commonDivisor_27, dX8_commonDivisor_28, dX8_commonDivisor_31, dX8_commonDivisor_34, dX8_commonDivisor_35, e_iload4, e_iload5, e_iload_n0, e_iload_n1, e_iload_n2, e_iload_n3, e_irem, e_ireturn, e_istore4i, e_istore4n, e_istore4r, e_istore5i, e_istore5n, e_istore5r, e_istore_n2i, e_istore_n2n, e_istore_n2r, e_istore_n3i, e_istore_n3n, e_istore_n3r, j_bp_64, j_goto_31_m24, j_ic_0, j_icmp_ge_11_23, j_if_eq_15_19, j_ii_4_1, ab_rn, bi_0, bi_1, ite_not]
      exact lp_X8_commonDivisor hG 64 0 _ _ _ (by omega) h
    · exact h.elim

def ax_X (a : Int32) : Int32 := if 0 ≤ a then a else 0 - a
def tm_X (a b u : Int32) : Int32 := if gd_X 64 (ax_X a) b = 0 then 0 else if u = 0 then b / gd_X 64 (ax_X a) b else a / gd_X 64 (ax_X a) b
def s_X8_termOf : ab_Sem := fun as M Po => match as with
  | [.int a, .int b, .int u] => Po (some (.int (tm_X a b u))) M
  | _ => False
theorem q_X8_termOf {a b u : Int32} {M : ab_M} {Po : ab_P} : s_X8_termOf [.int a, .int b, .int u] M Po = (Po (some (.int (tm_X a b u))) M) := rfl
abbrev x_X8_termOf : ab_X := (some .int, fl_X8, [(561, 1, s_J9_abs_0f7a4), (571, 2, s_X8_commonDivisor)], kl_X8, gs_X8, ab_ros)
theorem ca_X8_termOf_280 {v0 : Value} {st : List Value} {M : ab_M} {k : List Value → ab_M → Prop} : ab_ca x_X8_termOf (2 * 280 + 1) (v0 :: st) M k = (st.length ≤ 4 ∧ s_J9_abs_0f7a4 [v0] M (fun r M' => k (r.toList ++ st) M')) := rfl
theorem ca_X8_termOf_285 {v0 v1 : Value} {st : List Value} {M : ab_M} {k : List Value → ab_M → Prop} : ab_ca x_X8_termOf (2 * 285 + 1) (v1 :: v0 :: st) M k = (st.length ≤ 4 ∧ s_X8_commonDivisor [v0, v1] M (fun r M' => k (r.toList ++ st) M')) := rfl
set_option maxRecDepth 20000 in
set_option maxHeartbeats 4000000 in
theorem c_X8_termOf {l : Launch} : ab_ctr l yX8_termOf cX8_termOf 4 (some .int) 1 25 s_X8_termOf := by
  refine ab_met x_X8_termOf (by decide) rfl fo_X8 ko_X8 so_X8 rfl (ab_cs_cons (ab_kabs ml_X8_280 (by decide) (by decide)) (ab_cs_cons (ab_kS c_X8_commonDivisor ml_X8_285 v_X8_commonDivisor ⟨rfl, rfl⟩) ab_cs_nil)) ?_ ?_
  · intro as M Po h
    unfold s_X8_termOf at h
    split at h
    · simp [ab_e0]
    · exact h.elim
  · intro as M Po h G hG
    unfold s_X8_termOf at h
    split at h
    · refine ab_go hG [] 60 _ _ _ _ ?_
      simp only [ab_en, ab_e0, List.length_cons, List.length_nil, Nat.reduceAdd, Nat.reduceSub, List.replicate, List.cons_append, List.nil_append]
      simp (decide := true) only [ew_n, ew_0, Option.toList_some, Option.toList_none, List.cons_append, List.nil_append, true_and, and_true, List.length_cons, List.length_nil, Nat.reduceAdd, Nat.reduceLeDiff, Int32.reduceAdd, Int32.reduceSub, Int32.reduceMul, Int32.reduceLT, Int32.reduceLE, Int32.reduceToNatClampNeg, ↓reduceIte, and_self, si_1, si_2, sl_1, sl_2, false_and, and_false, dX8_termOf_0, dX8_termOf_1, dX8_termOf_4, dX8_termOf_5, dX8_termOf_8, dX8_termOf_9, dX8_termOf_10, dX8_termOf_13, dX8_termOf_14, dX8_termOf_15, dX8_termOf_16, dX8_termOf_19, dX8_termOf_20, dX8_termOf_23, dX8_termOf_24, dX8_termOf_25, dX8_termOf_26, ca_X8_termOf_280, ca_X8_termOf_285, e_calls, e_idiv, e_iload_n0, e_iload_n1, e_iload_n2, e_iload_n3, e_ireturn, e_istore_n3i, e_istore_n3n, e_istore_n3r, j_goto_20_4, j_ic_0, j_if_eq_16_7, j_if_ne_10_5, q_J9_abs_0f7a4, q_X8_commonDivisor, ab_rn, bi_0, bi_1, ite_not]
      (repeat' split) <;> (try simp (decide := true) only [tm_X, ax_X, i0_le, *, not_false_eq_true, not_true_eq_false, and_self, true_and, and_true, or_false, false_or, or_true, true_or, false_and, and_false, not_and, ↓reduceIte] at h) <;> (try simp (decide := true) only [i0_le, *, not_false_eq_true, not_true_eq_false, and_self, true_and, and_true, or_false, false_or, or_true, true_or, false_and, and_false, not_and, ↓reduceIte]) <;> first | done | exact h | (exfalso; simp_all (decide := true) only [not_true_eq_false, not_false_eq_true, false_and, and_false, true_and, and_true]; done)
    · exact h.elim

