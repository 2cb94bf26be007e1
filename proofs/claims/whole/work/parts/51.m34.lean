/-! METHODS: the model, judged, campaigns, paces; bits (begun from the kit: laws/BITS.to-paste) -/
theorem wb_tb (n : Nat) : (lN n).toBitVec = BitVec.ofNat 64 n := rfl
theorem wb_inj {a b : Int64} (h : a.toBitVec = b.toBitVec) : a = b := Int64.toBitVec_inj.mp h
theorem wb_tn {n : Nat} (h : n < 2 ^ 64) : (lN n).toBitVec.toNat = n := by rw [wb_tb, BitVec.toNat_ofNat, Nat.mod_eq_of_lt h]
theorem wb_of (x : Int64) : ∃ n, n < 2 ^ 64 ∧ x = lN n := ⟨x.toBitVec.toNat, x.toBitVec.isLt, wb_inj (by rw [wb_tb]; simp)⟩
theorem wb_of32 (x : Int32) : ∃ n, n < 2 ^ 32 ∧ x = nI n := ⟨x.toBitVec.toNat, x.toBitVec.isLt, Int32.toBitVec_inj.mp (by show _ = BitVec.ofNat 32 _; simp)⟩
theorem wb_c : ∀ k, k < 64 → ((nI k).toInt64 &&& 63) = lN k := by decide +kernel
theorem wb_cu : ∀ k, k < 64 → ((nI k).toInt64.toUInt64 &&& Int64.toUInt64 63) = UInt64.ofNat k := by decide +kernel
theorem wb_sm : ∀ k, k < 64 → (BitVec.ofNat 64 k).smod 64 = BitVec.ofNat 64 k := by decide +kernel
theorem wb_pw {a b : Nat} (h : a ≤ b) : 2 ^ b = 2 ^ a * 2 ^ (b - a) := by rw [← Nat.pow_add]; congr 1; omega
theorem wb_lt2 {a b : Nat} (h : a < b) : 2 ^ a < 2 ^ b := Nat.pow_lt_pow_right (by decide) h
theorem wb_mod (n : Nat) : lN n = lN (n % 2 ^ 64) := wb_inj (by rw [wb_tb, wb_tb]; apply BitVec.eq_of_toNat_eq; rw [BitVec.toNat_ofNat, BitVec.toNat_ofNat, Nat.mod_mod])
theorem wb_shr {n k : Nat} (hn : n < 2 ^ 64) (hk : k < 64) : ((lN n).toUInt64 >>> ((nI k).toInt64.toUInt64 &&& Int64.toUInt64 63)).toInt64 = lN (n / 2 ^ k) := by
  rw [wb_cu k hk]
  apply wb_inj
  apply BitVec.eq_of_toNat_eq
  show ((lN n).toUInt64 >>> UInt64.ofNat k).toNat = (BitVec.ofNat 64 _).toNat
  have h1 : (UInt64.ofNat k).toNat = k := by
    show (BitVec.ofNat 64 k).toNat = k
    rw [BitVec.toNat_ofNat, Nat.mod_eq_of_lt (by omega)]
  have h2 : (lN n).toUInt64.toNat = n := wb_tn hn
  rw [UInt64.toNat_shiftRight, h1, h2, Nat.mod_eq_of_lt hk, Nat.shiftRight_eq_div_pow, BitVec.toNat_ofNat, Nat.mod_eq_of_lt (Nat.lt_of_le_of_lt (Nat.div_le_self _ _) hn)]
theorem wb_shl (n : Nat) {k : Nat} (hk : k < 64) : lN n <<< ((nI k).toInt64 &&& 63) = lN (n * 2 ^ k) := by
  rw [wb_c k hk]
  apply wb_inj
  rw [Int64.toBitVec_shiftLeft, wb_tb, wb_tb, wb_tb, wb_sm k hk]
  apply BitVec.eq_of_toNat_eq
  rw [BitVec.shiftLeft_eq', BitVec.toNat_shiftLeft, BitVec.toNat_ofNat, BitVec.toNat_ofNat, BitVec.toNat_ofNat, Nat.mod_eq_of_lt (show k < 2 ^ 64 by omega), Nat.shiftLeft_eq, Nat.mul_mod, Nat.mod_mod, ← Nat.mul_mod]
theorem wb_and {a b : Nat} (ha : a < 2 ^ 64) (hb : b < 2 ^ 64) : lN a &&& lN b = lN (a &&& b) := by
  apply wb_inj
  rw [Int64.toBitVec_and, wb_tb, wb_tb, wb_tb]
  apply BitVec.eq_of_toNat_eq
  rw [BitVec.toNat_and, BitVec.toNat_ofNat, BitVec.toNat_ofNat, BitVec.toNat_ofNat, Nat.mod_eq_of_lt ha, Nat.mod_eq_of_lt hb, Nat.mod_eq_of_lt (Nat.and_lt_two_pow _ hb)]
theorem wb_or {a b : Nat} (ha : a < 2 ^ 64) (hb : b < 2 ^ 64) : lN a ||| lN b = lN (a ||| b) := by
  apply wb_inj
  rw [Int64.toBitVec_or, wb_tb, wb_tb, wb_tb]
  apply BitVec.eq_of_toNat_eq
  rw [BitVec.toNat_or, BitVec.toNat_ofNat, BitVec.toNat_ofNat, BitVec.toNat_ofNat, Nat.mod_eq_of_lt ha, Nat.mod_eq_of_lt hb, Nat.mod_eq_of_lt (Nat.or_lt_two_pow ha hb)]
theorem wb_mask {n k : Nat} (hn : n < 2 ^ 64) (hk : k < 64) : lN n &&& lN (2 ^ k - 1) = lN (n % 2 ^ k) := by
  rw [wb_and hn (by have := wb_lt2 hk; omega), Nat.and_two_pow_sub_one_eq_mod]
theorem wb_a1 {n : Nat} (hn : n < 2 ^ 64) : lN n &&& 1 = lN (n % 2) := wb_mask (k := 1) hn (by decide)
theorem u_tn {n : Nat} (h : n < 2 ^ 64) : (UInt64.ofNat n).toNat = n := Nat.mod_eq_of_lt h
theorem g_and {a b c : Nat} (ha : a < 2 ^ 64) (hb : b < 2 ^ 64) (hc : a &&& b = c) : lN a &&& lN b = lN c := by
  subst hc
  have h : UInt64.ofNat a &&& UInt64.ofNat b = UInt64.ofNat (a &&& b) := UInt64.toNat_inj.mp (by rw [UInt64.toNat_and, u_tn ha, u_tn hb, u_tn (Nat.and_lt_two_pow a hb)])
  have h2 := congrArg UInt64.toInt64 h
  exact h2
theorem g_and1 {a : Nat} (ha : a < 2 ^ 64) : lN a &&& 1 = lN (a % 2) := g_and (b := 1) ha (by decide) (Nat.and_two_pow_sub_one_eq_mod a 1)
theorem g_mask {a s p : Nat} (hp : 2 ^ s = p) (hs : s < 64) (ha : a < 2 ^ 64) : lN a &&& lN (p - 1) = lN (a % p) := by
  subst hp
  have := Nat.pow_lt_pow_right (show 1 < 2 by decide) hs
  exact g_and ha (by omega) (Nat.and_two_pow_sub_one_eq_mod a s)
theorem g_or {k p a b : Nat} (hp : 2 ^ k = p) (ha : a < p) (h : b * p + a < 2 ^ 64) : lN (b * p) ||| lN a = lN (b * p + a) := by
  subst hp
  have h1 : b * 2 ^ k ||| a = b * 2 ^ k + a := by rw [← Nat.shiftLeft_eq, Nat.shiftLeft_add_eq_or_of_lt ha]
  have h3 : UInt64.ofNat (b * 2 ^ k) ||| UInt64.ofNat a = UInt64.ofNat (b * 2 ^ k + a) := UInt64.toNat_inj.mp (by rw [UInt64.toNat_or, u_tn (by omega), u_tn (by omega), u_tn h, h1])
  have h2 := congrArg UInt64.toInt64 h3
  exact h2
theorem lw_N : ∀ k : Nat, lw_M 1000 k = lN (1000 ^ k)
  | 0 => rfl
  | k + 1 => by
    rw [lw_M, lw_N k, show (1000 : Int64) = lN 1000 from rfl, lN_mul, Nat.pow_succ]
/-- the doings of a told row, from the i-th on: the first that can not be -/
def ju_l (M : ab_M) (n s r m : Nat) : Nat → Nat → (Nat → Int32) → Int32
  | 0, _, _ => -9
  | j + 1, i, P => if (do_M M n s (r / 1000 ^ (m - 1 - i) % 1000) P).1 = 0 then nI i else ju_l M n s r m j (i + 1) (do_M M n s (r / 1000 ^ (m - 1 - i) % 1000) P).2
theorem ju_e7 {M : ab_M} {n s r m : Nat} (hn : n ≤ 5) : ∀ (j i : Nat) {P Q : Nat → Int32}, e7 P Q → ju_l M n s r m j i P = ju_l M n s r m j i Q
  | 0, _, _, _, _ => rfl
  | j + 1, i, P, Q, h => by
    obtain ⟨h1, h2⟩ := do_e7 (M := M) (s := s) (b := r / 1000 ^ (m - 1 - i) % 1000) hn h
    simp only [ju_l, h1, ju_e7 hn j (i + 1) h2]
theorem p3_lt {m i : Nat} (hm : m ≤ 4) : 1000 ^ (m - 1 - i) < 2 ^ 63 ∧ 0 < 1000 ^ (m - 1 - i) := by
  have h1 : m - 1 - i ≤ 3 := by omega
  have h2 : 1000 ^ (m - 1 - i) ≤ 1000 ^ 3 := Nat.pow_le_pow_right (by omega) h1
  exact ⟨by omega, Nat.pow_pos (by omega)⟩
def s_X9_judge : ab_Sem := fun as M Po => match as with
  | [.ref 30, .int x, .long u] => ∃ n s : Nat, ct_M M n s ∧ (if ¬ x < 1 ∧ ¬ 4 < x then (if ¬ u < 0 ∧ ¬ lw_M 1000 x.toNatClampNeg - 1 < u then (∀ m r : Nat, m ≤ 4 → r < 2 ^ 63 → x = nI m → u = lN r → ∀ N, jj (t0 M) N → Po (some (.int (ju_l (t0 M) n s r m m 0 ((t0 M).1 38)))) N) else Po (some (.int (-2))) (t0 M)) else Po (some (.int (-2))) (t0 M))
  | _ => False
theorem q_X9_judge {x : Int32} {u : Int64} {M : ab_M} {Po : ab_P} : s_X9_judge [.ref 30, .int x, .long u] M Po = (∃ n s : Nat, ct_M M n s ∧ (if ¬ x < 1 ∧ ¬ 4 < x then (if ¬ u < 0 ∧ ¬ lw_M 1000 x.toNatClampNeg - 1 < u then (∀ m r : Nat, m ≤ 4 → r < 2 ^ 63 → x = nI m → u = lN r → ∀ N, jj (t0 M) N → Po (some (.int (ju_l (t0 M) n s r m m 0 ((t0 M).1 38)))) N) else Po (some (.int (-2))) (t0 M)) else Po (some (.int (-2))) (t0 M))) := rfl
abbrev x_X9_judge : ab_X := (some .int, fl_X9, [(145, 3, s_X9_in), (421, 2, s_X9_longPower), (338, 1, s_X9_begin), (428, 2, s_X9_does)], kl_X9, gs_X9, ab_ros)
theorem ca_X9_judge_72 {v0 v1 v2 : Value} {st : List Value} {M : ab_M} {k : List Value → ab_M → Prop} : ab_ca x_X9_judge (2 * 72 + 1) (v2 :: v1 :: v0 :: st) M k = (st.length ≤ 4 ∧ s_X9_in [v0, v1, v2] M (fun r M' => k (r.toList ++ st) M')) := rfl
theorem ca_X9_judge_210 {v0 v1 : Value} {st : List Value} {M : ab_M} {k : List Value → ab_M → Prop} : ab_ca x_X9_judge (2 * 210 + 1) (v1 :: v0 :: st) M k = (st.length ≤ 4 ∧ s_X9_longPower [v0, v1] M (fun r M' => k (r.toList ++ st) M')) := rfl
theorem ca_X9_judge_169 {v0 : Value} {st : List Value} {M : ab_M} {k : List Value → ab_M → Prop} : ab_ca x_X9_judge (2 * 169) (v0 :: st) M k = (st.length ≤ 4 ∧ s_X9_begin [v0] M (fun r M' => k (r.toList ++ st) M')) := rfl
theorem ca_X9_judge_214 {v0 v1 : Value} {st : List Value} {M : ab_M} {k : List Value → ab_M → Prop} : ab_ca x_X9_judge (2 * 214) (v1 :: v0 :: st) M k = (st.length ≤ 4 ∧ s_X9_does [v0, v1] M (fun r M' => k (r.toList ++ st) M')) := rfl
theorem r_X9_judge : ∀ (as : List Value) (M : ab_M) (Po : ab_P), s_X9_judge as M Po → ∃ (q : Nat) (as' : List Value) (ci : Nat) (T : u_T) (N : Nat) (fs : List ab_F), as = .ref q :: as' ∧ ab_sh[q]? = some (.inl (ci, fs)) ∧ vwCl[ci]? = some (yX9_judge.cls, T, N) := by
  intro as M Po h
  unfold s_X9_judge at h
  split at h
  · first | exact ⟨_, _, 9, _, _, _, rfl, rfl, rfl⟩ | (rcases h.1 with rfl | rfl | rfl <;> exact ⟨_, _, 9, _, _, _, rfl, rfl, rfl⟩)
  · exact h.elim
set_option maxRecDepth 20000 in
set_option maxHeartbeats 4000000 in
theorem lq_X9_judge {G : ab_K} {Po : ab_P} (hG : ab_Clo cX9_judge x_X9_judge Po G) {N : ab_M} {n s r m : Nat} {z h p q : Nat → Int32} (hc : ct_M N n s) (hm : m ≤ 4) (hr : r < 2 ^ 63) : ∀ (j i : Nat) (P : Nat → Int32), i + j = m → (∀ N', jj N N' → Po (some (.int (ju_l N n s r m j i P))) N') → G 44 [some (.ref 30), some (.int (nI m)), some (.long (lN r)), none, some (.int (nI i))] [] (jw N z P h p q) := by
  intro j
  induction j with
  | zero =>
    intro i P hi hh
    have e : i = m := by omega
    subst e
    unfold ju_l at hh
    refine ab_go1 hG [44] 80 _ _ _ _ ?_
    simp (decide := true) only [ew_s, ew_0, Option.toList_some, Option.toList_none, List.cons_append, List.nil_append, true_and, and_true, List.length_cons, List.length_nil, Nat.reduceAdd, Nat.reduceLeDiff, Int32.reduceAdd, Int32.reduceSub, Int32.reduceMul, Int32.reduceLT, Int32.reduceLE, Int32.reduceToNatClampNeg, ↓reduceIte, and_self, si_1, si_2, sl_1, sl_2, false_and, and_false, dX9_judge_0, dX9_judge_1, dX9_judge_2, dX9_judge_5, dX9_judge_6, dX9_judge_7, dX9_judge_8, dX9_judge_11, dX9_judge_14, dX9_judge_17, dX9_judge_18, dX9_judge_19, dX9_judge_22, dX9_judge_23, dX9_judge_26, dX9_judge_27, dX9_judge_28, dX9_judge_31, dX9_judge_34, dX9_judge_36, dX9_judge_37, dX9_judge_38, dX9_judge_41, dX9_judge_42, dX9_judge_44, dX9_judge_46, dX9_judge_47, dX9_judge_50, dX9_judge_51, dX9_judge_52, dX9_judge_55, dX9_judge_56, dX9_judge_57, dX9_judge_58, dX9_judge_60, dX9_judge_61, dX9_judge_64, dX9_judge_65, dX9_judge_68, dX9_judge_69, dX9_judge_70, dX9_judge_73, dX9_judge_76, dX9_judge_78, dX9_judge_79, dX9_judge_82, dX9_judge_85, dX9_judge_87, ca_X9_judge_169, ca_X9_judge_210, ca_X9_judge_214, ca_X9_judge_72, e_aload_n0, e_calls, e_callv, e_i2l, e_iload4, e_iload_n1, e_ireturn, e_istore4i, e_istore4n, e_istore4r, e_isub, e_kl_X9_206, e_kl_X9_208, e_l2i, e_lconst0, e_lconst1, e_ldiv, e_lload_n2, e_lrem, e_lsub, e_putfield, j_bp_m2, j_bp_m9, j_goto_82_m38, j_ic_0, j_ic_1, j_icmp_ge_47_38, j_if_eq_14_20, j_if_ne_31_6, j_if_ne_73_6, j_ii_4_1, pf_X9_65_30, q_X9_in, q_X9_longPower, jw_30_0, jw_30_2, jw_30_4, jw_30_7, jw_30_10, jw_30_19, jw_30_22, jw_30_27, jw_30_28, jw_30_29, jw_30_30, jw_30_31, jw_30_32, jw_30_35, jw_32, jw_32f, jw_33, jw_33f, jw_34, jw_34f, jw_35, jw_35f, jw_38, jw_38f, jw_41, jw_41f, jw_42, jw_42f, jw_43, jw_43f, jw_44, jw_44f, jw_45, jw_45f, jw_46, jw_46f, jw_39, jw_39f, jw_s39, jw_w39, jw_40, jw_40f, jw_s40, jw_w40, jw_47, jw_47f, jw_s47, jw_w47, jw_48, jw_48f, jw_s48, jw_w48, jw_z27, jw_z28, jw_z29, jw_z30, jw_z31, jw_z32, jw_z35, jw_l, uz_27_27, uz_27_28, uz_27_29, uz_27_30, uz_27_31, uz_27_32, uz_27_35, uz_28_27, uz_28_28, uz_28_29, uz_28_30, uz_28_31, uz_28_32, uz_28_35, uz_29_27, uz_29_28, uz_29_29, uz_29_30, uz_29_31, uz_29_32, uz_29_35, uz_30_27, uz_30_28, uz_30_29, uz_30_30, uz_30_31, uz_30_32, uz_30_35, uz_31_27, uz_31_28, uz_31_29, uz_31_30, uz_31_31, uz_31_32, uz_31_35, uz_32_27, uz_32_28, uz_32_29, uz_32_30, uz_32_31, uz_32_32, uz_32_35, uz_35_27, uz_35_28, uz_35_29, uz_35_30, uz_35_31, uz_35_32, uz_35_35, ab_rn, bi_0, bi_1, ite_not]
    rw [if_neg (nI_nlt (Nat.le_refl i) (by omega))]
    exact hh _ jj_i
  | succ j ih =>
    intro i P hi hh
    obtain ⟨h1, h2⟩ := p3_lt (i := i) hm
    have t1 : nI m - 1 - nI i = nI (m - 1 - i) := by
      rw [show (1 : Int32) = nI 1 from rfl, pk_sub (by omega), pk_sub (by omega)]
    have t2 : ¬ nI (m - 1 - i) < 0 := nI_pos (by omega)
    have t3 : (nI (m - 1 - i)).toNatClampNeg = m - 1 - i := nI_clamp (by omega)
    have t5 : ¬ lN (1000 ^ (m - 1 - i)) = 0 := fun e => by
      have := (pk_lEQ (b := 0) h1 (by omega)).mp e
      omega
    have t6 : lN r / lN (1000 ^ (m - 1 - i)) = lN (r / 1000 ^ (m - 1 - i)) := pk_lDiv hr h2 h1
    have t9 : r / 1000 ^ (m - 1 - i) ≤ r := Nat.div_le_self _ _
    have t7 : lN (r / 1000 ^ (m - 1 - i)) - lN (r / 1000 ^ (m - 1 - i)) / 1000 * 1000 = lN (r / 1000 ^ (m - 1 - i) % 1000) := pk_lRem (b := 1000) (by omega) (by omega) (by omega)
    have dd := doE hc (b := r / 1000 ^ (m - 1 - i) % 1000) (by omega)
    unfold ju_l at hh
    refine ab_go1 hG [44] 80 _ _ _ _ ?_
    simp (decide := true) only [ew_s, ew_0, Option.toList_some, Option.toList_none, List.cons_append, List.nil_append, true_and, and_true, List.length_cons, List.length_nil, Nat.reduceAdd, Nat.reduceLeDiff, Int32.reduceAdd, Int32.reduceSub, Int32.reduceMul, Int32.reduceLT, Int32.reduceLE, Int32.reduceToNatClampNeg, ↓reduceIte, and_self, si_1, si_2, sl_1, sl_2, false_and, and_false, dX9_judge_0, dX9_judge_1, dX9_judge_2, dX9_judge_5, dX9_judge_6, dX9_judge_7, dX9_judge_8, dX9_judge_11, dX9_judge_14, dX9_judge_17, dX9_judge_18, dX9_judge_19, dX9_judge_22, dX9_judge_23, dX9_judge_26, dX9_judge_27, dX9_judge_28, dX9_judge_31, dX9_judge_34, dX9_judge_36, dX9_judge_37, dX9_judge_38, dX9_judge_41, dX9_judge_42, dX9_judge_44, dX9_judge_46, dX9_judge_47, dX9_judge_50, dX9_judge_51, dX9_judge_52, dX9_judge_55, dX9_judge_56, dX9_judge_57, dX9_judge_58, dX9_judge_60, dX9_judge_61, dX9_judge_64, dX9_judge_65, dX9_judge_68, dX9_judge_69, dX9_judge_70, dX9_judge_73, dX9_judge_76, dX9_judge_78, dX9_judge_79, dX9_judge_82, dX9_judge_85, dX9_judge_87, ca_X9_judge_169, ca_X9_judge_210, ca_X9_judge_214, ca_X9_judge_72, e_aload_n0, e_calls, e_callv, e_i2l, e_iload4, e_iload_n1, e_ireturn, e_istore4i, e_istore4n, e_istore4r, e_isub, e_kl_X9_206, e_kl_X9_208, e_l2i, e_lconst0, e_lconst1, e_ldiv, e_lload_n2, e_lrem, e_lsub, e_putfield, j_bp_m2, j_bp_m9, j_goto_82_m38, j_ic_0, j_ic_1, j_icmp_ge_47_38, j_if_eq_14_20, j_if_ne_31_6, j_if_ne_73_6, j_ii_4_1, pf_X9_65_30, q_X9_in, q_X9_longPower, jw_30_0, jw_30_2, jw_30_4, jw_30_7, jw_30_10, jw_30_19, jw_30_22, jw_30_27, jw_30_28, jw_30_29, jw_30_30, jw_30_31, jw_30_32, jw_30_35, jw_32, jw_32f, jw_33, jw_33f, jw_34, jw_34f, jw_35, jw_35f, jw_38, jw_38f, jw_41, jw_41f, jw_42, jw_42f, jw_43, jw_43f, jw_44, jw_44f, jw_45, jw_45f, jw_46, jw_46f, jw_39, jw_39f, jw_s39, jw_w39, jw_40, jw_40f, jw_s40, jw_w40, jw_47, jw_47f, jw_s47, jw_w47, jw_48, jw_48f, jw_s48, jw_w48, jw_z27, jw_z28, jw_z29, jw_z30, jw_z31, jw_z32, jw_z35, jw_l, uz_27_27, uz_27_28, uz_27_29, uz_27_30, uz_27_31, uz_27_32, uz_27_35, uz_28_27, uz_28_28, uz_28_29, uz_28_30, uz_28_31, uz_28_32, uz_28_35, uz_29_27, uz_29_28, uz_29_29, uz_29_30, uz_29_31, uz_29_32, uz_29_35, uz_30_27, uz_30_28, uz_30_29, uz_30_30, uz_30_31, uz_30_32, uz_30_35, uz_31_27, uz_31_28, uz_31_29, uz_31_30, uz_31_31, uz_31_32, uz_31_35, uz_32_27, uz_32_28, uz_32_29, uz_32_30, uz_32_31, uz_32_32, uz_32_35, uz_35_27, uz_35_28, uz_35_29, uz_35_30, uz_35_31, uz_35_32, uz_35_35, t1, t2, t3, lw_N, t5, t6, t7, lN_i, dd, nI_1, not_false_eq_true, ab_rn, bi_0, bi_1, ite_not]
    rw [if_pos (nI_lt (by omega) (by omega))]
    split
    · rename_i c
      simp only [if_pos c] at hh
      exact hh _ jj_i
    · rename_i c
      simp only [if_neg c] at hh
      exact ih (i + 1) _ (by omega) hh
set_option maxRecDepth 20000 in
set_option maxHeartbeats 4000000 in
theorem lA_X9_judge {G : ab_K} {Po : ab_P} (hG : ab_Clo cX9_judge x_X9_judge Po G) {N : ab_M} {n s r m : Nat} {z g h p q : Nat → Int32} (hc : ct_M N n s) (hm : m ≤ 4) (hr : r < 2 ^ 63) (hh : ∀ N', jj N N' → Po (some (.int (ju_l N n s r m m 0 (N.1 38)))) N') : G 37 [some (.ref 30), some (.int (nI m)), some (.long (lN r)), none, none] [] (jw N z g h p q) := by
  rw [← ju_e7 hc.1 m 0 (e7_cp (f := g) (g := N.1 38))] at hh
  have key := lq_X9_judge hG (z := z) (h := h) (p := p) (q := q) hc hm hr m 0 _ (by omega) hh
  refine ab_go hG [44] 80 _ _ _ _ ?_
  simp (decide := true) only [ew_s, ew_0, Option.toList_some, Option.toList_none, List.cons_append, List.nil_append, true_and, and_true, List.length_cons, List.length_nil, Nat.reduceAdd, Nat.reduceLeDiff, Int32.reduceAdd, Int32.reduceSub, Int32.reduceMul, Int32.reduceLT, Int32.reduceLE, Int32.reduceToNatClampNeg, ↓reduceIte, and_self, si_1, si_2, sl_1, sl_2, false_and, and_false, dX9_judge_0, dX9_judge_1, dX9_judge_2, dX9_judge_5, dX9_judge_6, dX9_judge_7, dX9_judge_8, dX9_judge_11, dX9_judge_14, dX9_judge_17, dX9_judge_18, dX9_judge_19, dX9_judge_22, dX9_judge_23, dX9_judge_26, dX9_judge_27, dX9_judge_28, dX9_judge_31, dX9_judge_34, dX9_judge_36, dX9_judge_37, dX9_judge_38, dX9_judge_41, dX9_judge_42, dX9_judge_44, dX9_judge_46, dX9_judge_47, dX9_judge_50, dX9_judge_51, dX9_judge_52, dX9_judge_55, dX9_judge_56, dX9_judge_57, dX9_judge_58, dX9_judge_60, dX9_judge_61, dX9_judge_64, dX9_judge_65, dX9_judge_68, dX9_judge_69, dX9_judge_70, dX9_judge_73, dX9_judge_76, dX9_judge_78, dX9_judge_79, dX9_judge_82, dX9_judge_85, dX9_judge_87, ca_X9_judge_169, ca_X9_judge_210, ca_X9_judge_214, ca_X9_judge_72, e_aload_n0, e_calls, e_callv, e_i2l, e_iload4, e_iload_n1, e_ireturn, e_istore4i, e_istore4n, e_istore4r, e_isub, e_kl_X9_206, e_kl_X9_208, e_l2i, e_lconst0, e_lconst1, e_ldiv, e_lload_n2, e_lrem, e_lsub, e_putfield, j_bp_m2, j_bp_m9, j_goto_82_m38, j_ic_0, j_ic_1, j_icmp_ge_47_38, j_if_eq_14_20, j_if_ne_31_6, j_if_ne_73_6, j_ii_4_1, pf_X9_65_30, q_X9_in, q_X9_longPower, jw_30_0, jw_30_2, jw_30_4, jw_30_7, jw_30_10, jw_30_19, jw_30_22, jw_30_27, jw_30_28, jw_30_29, jw_30_30, jw_30_31, jw_30_32, jw_30_35, jw_32, jw_32f, jw_33, jw_33f, jw_34, jw_34f, jw_35, jw_35f, jw_38, jw_38f, jw_41, jw_41f, jw_42, jw_42f, jw_43, jw_43f, jw_44, jw_44f, jw_45, jw_45f, jw_46, jw_46f, jw_39, jw_39f, jw_s39, jw_w39, jw_40, jw_40f, jw_s40, jw_w40, jw_47, jw_47f, jw_s47, jw_w47, jw_48, jw_48f, jw_s48, jw_w48, jw_z27, jw_z28, jw_z29, jw_z30, jw_z31, jw_z32, jw_z35, jw_l, uz_27_27, uz_27_28, uz_27_29, uz_27_30, uz_27_31, uz_27_32, uz_27_35, uz_28_27, uz_28_28, uz_28_29, uz_28_30, uz_28_31, uz_28_32, uz_28_35, uz_29_27, uz_29_28, uz_29_29, uz_29_30, uz_29_31, uz_29_32, uz_29_35, uz_30_27, uz_30_28, uz_30_29, uz_30_30, uz_30_31, uz_30_32, uz_30_35, uz_31_27, uz_31_28, uz_31_29, uz_31_30, uz_31_31, uz_31_32, uz_31_35, uz_32_27, uz_32_28, uz_32_29, uz_32_30, uz_32_31, uz_32_32, uz_32_35, uz_35_27, uz_35_28, uz_35_29, uz_35_30, uz_35_31, uz_35_32, uz_35_35, bgE, ab_rn, bi_0, bi_1, ite_not]
  exact key
theorem nI_le4 {x : Int32} (h : ¬ x < 1 ∧ ¬ 4 < x) : ∃ m : Nat, 1 ≤ m ∧ m ≤ 4 ∧ x = nI m := by
  have h0 : ¬ x < 0 := fun h0 => h.1 (Int32.lt_of_lt_of_le h0 (by decide))
  obtain ⟨m, hm, rfl⟩ := nI_of h0
  refine ⟨m, ?_, ?_, rfl⟩
  · by_cases c : 1 ≤ m
    · exact c
    · exact absurd (nI_lt (b := 1) (by omega) (by omega)) h.1
  · by_cases c : m ≤ 4
    · exact c
    · exact absurd (nI_lt (a := 4) (by omega) hm) h.2
set_option maxRecDepth 20000 in
set_option maxHeartbeats 4000000 in
theorem c_X9_judge {l : Launch} : ab_ctr l yX9_judge cX9_judge 5 (some .int) 5 120 s_X9_judge := by
  refine ab_met x_X9_judge (by decide) rfl fo_X9 ko_X9 so_X9 rfl (ab_cs_cons (ab_kS c_X9_in ml_X9_72 v_X9_in ⟨rfl, rfl⟩) (ab_cs_cons (ab_kS c_X9_longPower ml_X9_210 v_X9_longPower ⟨rfl, rfl⟩) (ab_cs_cons (ab_kV c_X9_begin ml_X9_169 v_X9_begin ⟨rfl, rfl⟩ r_X9_begin) (ab_cs_cons (ab_kV c_X9_does ml_X9_214 v_X9_does ⟨rfl, rfl⟩ r_X9_does) ab_cs_nil)))) ?_ ?_
  · intro as M Po h
    unfold s_X9_judge at h
    split at h
    · simp [ab_e0]
    · exact h.elim
  · intro as M Po h G hG
    unfold s_X9_judge at h
    split at h
    · simp only [ab_en, ab_e0, List.length_cons, List.length_nil, Nat.reduceAdd, Nat.reduceSub, List.replicate, List.cons_append, List.nil_append]
      rename_i x u
      obtain ⟨n, s, hc, h⟩ := h
      by_cases h1 : ¬ x < 1 ∧ ¬ 4 < x
      · rw [if_pos h1] at h
        have h0 : ¬ x < 0 := fun h0 => h1.1 (Int32.lt_of_lt_of_le h0 (by decide))
        by_cases h2 : ¬ u < 0 ∧ ¬ lw_M 1000 x.toNatClampNeg - 1 < u
        · rw [if_pos h2] at h
          obtain ⟨m, hm0, hm, rfl⟩ := nI_le4 h1
          obtain ⟨r, hr, rfl⟩ := pk_lOf h2.1
          have h := h m r hm hr rfl rfl
          have key := lA_X9_judge hG (N := t0 M) (z := (t0 M).1 30) (g := (t0 M).1 39) (h := (t0 M).1 40) (p := (t0 M).1 47) (q := (t0 M).1 48) hc hm hr h
          rw [jw_id] at key
          refine ab_go hG [37] 80 _ _ _ _ ?_
          simp (decide := true) only [ew_s, ew_0, Option.toList_some, Option.toList_none, List.cons_append, List.nil_append, true_and, and_true, List.length_cons, List.length_nil, Nat.reduceAdd, Nat.reduceLeDiff, Int32.reduceAdd, Int32.reduceSub, Int32.reduceMul, Int32.reduceLT, Int32.reduceLE, Int32.reduceToNatClampNeg, ↓reduceIte, and_self, si_1, si_2, sl_1, sl_2, false_and, and_false, dX9_judge_0, dX9_judge_1, dX9_judge_2, dX9_judge_5, dX9_judge_6, dX9_judge_7, dX9_judge_8, dX9_judge_11, dX9_judge_14, dX9_judge_17, dX9_judge_18, dX9_judge_19, dX9_judge_22, dX9_judge_23, dX9_judge_26, dX9_judge_27, dX9_judge_28, dX9_judge_31, dX9_judge_34, dX9_judge_36, dX9_judge_37, dX9_judge_38, dX9_judge_41, dX9_judge_42, dX9_judge_44, dX9_judge_46, dX9_judge_47, dX9_judge_50, dX9_judge_51, dX9_judge_52, dX9_judge_55, dX9_judge_56, dX9_judge_57, dX9_judge_58, dX9_judge_60, dX9_judge_61, dX9_judge_64, dX9_judge_65, dX9_judge_68, dX9_judge_69, dX9_judge_70, dX9_judge_73, dX9_judge_76, dX9_judge_78, dX9_judge_79, dX9_judge_82, dX9_judge_85, dX9_judge_87, ca_X9_judge_169, ca_X9_judge_210, ca_X9_judge_214, ca_X9_judge_72, e_aload_n0, e_calls, e_callv, e_i2l, e_iload4, e_iload_n1, e_ireturn, e_istore4i, e_istore4n, e_istore4r, e_isub, e_kl_X9_206, e_kl_X9_208, e_l2i, e_lconst0, e_lconst1, e_ldiv, e_lload_n2, e_lrem, e_lsub, e_putfield, j_bp_m2, j_bp_m9, j_goto_82_m38, j_ic_0, j_ic_1, j_icmp_ge_47_38, j_if_eq_14_20, j_if_ne_31_6, j_if_ne_73_6, j_ii_4_1, pf_X9_65_30, q_X9_in, q_X9_longPower, wi_0, wi_lt, wi_g255, wi_g40, wi_g20, wi_g4, wi_g3, wi_g9, wi_g10, wi_g30, wi_g1, wi_l255, wi_l40, wi_l20, wi_l4, wi_l3, wi_l9, wi_l10, wi_l30, wi_l1, t0_r, h0, not_false_eq_true, ab_rn, bi_0, bi_1, ite_not]
          rw [if_pos h1, if_pos h2]
          exact key
        · rw [if_neg h2] at h
          refine ab_go hG [37] 80 _ _ _ _ ?_
          simp (decide := true) only [ew_s, ew_0, Option.toList_some, Option.toList_none, List.cons_append, List.nil_append, true_and, and_true, List.length_cons, List.length_nil, Nat.reduceAdd, Nat.reduceLeDiff, Int32.reduceAdd, Int32.reduceSub, Int32.reduceMul, Int32.reduceLT, Int32.reduceLE, Int32.reduceToNatClampNeg, ↓reduceIte, and_self, si_1, si_2, sl_1, sl_2, false_and, and_false, dX9_judge_0, dX9_judge_1, dX9_judge_2, dX9_judge_5, dX9_judge_6, dX9_judge_7, dX9_judge_8, dX9_judge_11, dX9_judge_14, dX9_judge_17, dX9_judge_18, dX9_judge_19, dX9_judge_22, dX9_judge_23, dX9_judge_26, dX9_judge_27, dX9_judge_28, dX9_judge_31, dX9_judge_34, dX9_judge_36, dX9_judge_37, dX9_judge_38, dX9_judge_41, dX9_judge_42, dX9_judge_44, dX9_judge_46, dX9_judge_47, dX9_judge_50, dX9_judge_51, dX9_judge_52, dX9_judge_55, dX9_judge_56, dX9_judge_57, dX9_judge_58, dX9_judge_60, dX9_judge_61, dX9_judge_64, dX9_judge_65, dX9_judge_68, dX9_judge_69, dX9_judge_70, dX9_judge_73, dX9_judge_76, dX9_judge_78, dX9_judge_79, dX9_judge_82, dX9_judge_85, dX9_judge_87, ca_X9_judge_169, ca_X9_judge_210, ca_X9_judge_214, ca_X9_judge_72, e_aload_n0, e_calls, e_callv, e_i2l, e_iload4, e_iload_n1, e_ireturn, e_istore4i, e_istore4n, e_istore4r, e_isub, e_kl_X9_206, e_kl_X9_208, e_l2i, e_lconst0, e_lconst1, e_ldiv, e_lload_n2, e_lrem, e_lsub, e_putfield, j_bp_m2, j_bp_m9, j_goto_82_m38, j_ic_0, j_ic_1, j_icmp_ge_47_38, j_if_eq_14_20, j_if_ne_31_6, j_if_ne_73_6, j_ii_4_1, pf_X9_65_30, q_X9_in, q_X9_longPower, wi_0, wi_lt, wi_g255, wi_g40, wi_g20, wi_g4, wi_g3, wi_g9, wi_g10, wi_g30, wi_g1, wi_l255, wi_l40, wi_l20, wi_l4, wi_l3, wi_l9, wi_l10, wi_l30, wi_l1, t0_r, h0, not_false_eq_true, ab_rn, bi_0, bi_1, ite_not]
          rw [if_pos h1, if_neg h2]
          exact h
      · rw [if_neg h1] at h
        refine ab_go hG [37] 80 _ _ _ _ ?_
        simp (decide := true) only [ew_s, ew_0, Option.toList_some, Option.toList_none, List.cons_append, List.nil_append, true_and, and_true, List.length_cons, List.length_nil, Nat.reduceAdd, Nat.reduceLeDiff, Int32.reduceAdd, Int32.reduceSub, Int32.reduceMul, Int32.reduceLT, Int32.reduceLE, Int32.reduceToNatClampNeg, ↓reduceIte, and_self, si_1, si_2, sl_1, sl_2, false_and, and_false, dX9_judge_0, dX9_judge_1, dX9_judge_2, dX9_judge_5, dX9_judge_6, dX9_judge_7, dX9_judge_8, dX9_judge_11, dX9_judge_14, dX9_judge_17, dX9_judge_18, dX9_judge_19, dX9_judge_22, dX9_judge_23, dX9_judge_26, dX9_judge_27, dX9_judge_28, dX9_judge_31, dX9_judge_34, dX9_judge_36, dX9_judge_37, dX9_judge_38, dX9_judge_41, dX9_judge_42, dX9_judge_44, dX9_judge_46, dX9_judge_47, dX9_judge_50, dX9_judge_51, dX9_judge_52, dX9_judge_55, dX9_judge_56, dX9_judge_57, dX9_judge_58, dX9_judge_60, dX9_judge_61, dX9_judge_64, dX9_judge_65, dX9_judge_68, dX9_judge_69, dX9_judge_70, dX9_judge_73, dX9_judge_76, dX9_judge_78, dX9_judge_79, dX9_judge_82, dX9_judge_85, dX9_judge_87, ca_X9_judge_169, ca_X9_judge_210, ca_X9_judge_214, ca_X9_judge_72, e_aload_n0, e_calls, e_callv, e_i2l, e_iload4, e_iload_n1, e_ireturn, e_istore4i, e_istore4n, e_istore4r, e_isub, e_kl_X9_206, e_kl_X9_208, e_l2i, e_lconst0, e_lconst1, e_ldiv, e_lload_n2, e_lrem, e_lsub, e_putfield, j_bp_m2, j_bp_m9, j_goto_82_m38, j_ic_0, j_ic_1, j_icmp_ge_47_38, j_if_eq_14_20, j_if_ne_31_6, j_if_ne_73_6, j_ii_4_1, pf_X9_65_30, q_X9_in, q_X9_longPower, wi_0, wi_lt, wi_g255, wi_g40, wi_g20, wi_g4, wi_g3, wi_g9, wi_g10, wi_g30, wi_g1, wi_l255, wi_l40, wi_l20, wi_l4, wi_l3, wi_l9, wi_l10, wi_l30, wi_l1, t0_r, ab_rn, bi_0, bi_1, ite_not]
        rw [if_neg h1]
        exact h
    · exact h.elim

/-- a lot is 0 .. 19; the doing that it tells -/
theorem lt_N (v : Int64) : ∃ c : Nat, c < 20 ∧ lt_X v = nI c := by
  obtain ⟨n, hn, rfl⟩ := wb_of v
  refine ⟨n / 2 ^ 33 % 20, Nat.mod_lt _ (by omega), ?_⟩
  unfold lt_X
  have h1 : n / 2 ^ 33 < 2 ^ 63 := Nat.lt_of_lt_of_le (Nat.div_lt_of_lt_mul (show n < 2 ^ 33 * 2 ^ 31 from hn)) (by decide)
  rw [show (33 : Int32) = nI 33 from rfl, wb_shr hn (by decide)]
  rw [show lN (n / 2 ^ 33) - lN (n / 2 ^ 33) / 20 * 20 = lN (n / 2 ^ 33 % 20) from pk_lRem (b := 20) h1 (by omega) (by omega), lN_i]
def ld_3 (c : Nat) : Nat := if c < 5 then 200 + c else if c < 10 then 295 + c else if c = 10 then 100 else 0
def b3_M (u : Int64) : Nat := ld_3 (lt_X u).toNatClampNeg
/-- so many campaigns are left: the miles together, the seed behind them -/
def cs_l (M : ab_M) (n s : Nat) (sd : Int64 → Int64) (b3 : Int64 → Nat) : Nat → Int64 → (Nat → Int32) → Int32 → Int32 × Int64
  | 0, u, _, a => (a, u)
  | j + 1, u, P, a => cs_l M n s sd b3 j (sd u) (do_M M n s (b3 (sd u)) P).2 (a + (do_M M n s (b3 (sd u)) P).2 0)
theorem cs_e7 {M : ab_M} {n s : Nat} {sd : Int64 → Int64} {b3 : Int64 → Nat} (hn : n ≤ 5) : ∀ (j : Nat) (u : Int64) (a : Int32) {P Q : Nat → Int32}, e7 P Q → cs_l M n s sd b3 j u P a = cs_l M n s sd b3 j u Q a
  | 0, _, _, _, _, _ => rfl
  | j + 1, u, a, P, Q, h => by
    obtain ⟨h1, h2⟩ := do_e7 (M := M) (s := s) (b := b3 (sd u)) hn h
    rw [cs_l, cs_l, h2 0 (by omega)]
    exact cs_e7 hn j _ _ h2
/-- the memory with another seed -/
def sw_M (N : ab_M) (u : Int64) : ab_M := ab_sl N 30 26 u
theorem sw_dd {N : ab_M} {u : Int64} {n s : Nat} : dd_M (sw_M N u) n s = dd_M N n s := dd_env (M := N) (N := sw_M N u) rfl rfl rfl rfl rfl
theorem sw_do {N : ab_M} {u : Int64} {n s b : Nat} {P : Nat → Int32} : do_M (sw_M N u) n s b P = do_M N n s b P := do_env sw_dd (by
  funext P k
  exact hk_env (M := N) (N := sw_M N u) rfl P k) (by
  funext P w i f
  exact lm_env (M := N) (N := sw_M N u) rfl P w i f)
theorem sw_g {N : ab_M} {u : Int64} {z g h p q : Nat → Int32} : (jw (sw_M N u) z g h p q).2 30 26 = u := rfl
theorem sw_s {N : ab_M} {u v : Int64} {z g h p q : Nat → Int32} : ab_sl (jw (sw_M N u) z g h p q) 30 26 v = jw (sw_M N v) z g h p q := by
  refine Prod.ext rfl (funext fun a => funext fun b => ?_)
  simp only [ab_sl, jw, sw_M]
  split <;> rfl
theorem sw_id {N : ab_M} : sw_M N (N.2 30 26) = N := by
  refine Prod.ext rfl (funext fun a => funext fun b => ?_)
  simp only [sw_M, ab_sl]
  split
  · rename_i h
    rw [h.1, h.2]
  · rfl
theorem sd_r {u : Int64} : u * 6364136223846793005 + 1442695040888963407 = sd_X u := rfl
theorem lt_r {u : Int64} : ((u.toUInt64 >>> ((33 : Int32).toInt64.toUInt64 &&& Int64.toUInt64 63)).toInt64 - (u.toUInt64 >>> ((33 : Int32).toInt64.toUInt64 &&& Int64.toUInt64 63)).toInt64 / 20 * 20).toInt32 = lt_X u := rfl
theorem ld_lt {c : Nat} (h : c < 20) : ld_3 c < 1000 := by
  unfold ld_3
  split
  · omega
  split
  · omega
  split <;> omega
def s_X9_campaigns : ab_Sem := fun as M Po => match as with
  | [.ref 30, .int x] => ∃ n s : Nat, ct_M M n s ∧ (if ¬ x < 1 ∧ ¬ 30 < x then (∀ N, jj (sw_M (t0 M) (cs_l (t0 M) n s sd_X b3_M x.toNatClampNeg (M.2 30 26) ((t0 M).1 38) 0).2) N → Po (some (.int ((cs_l (t0 M) n s sd_X b3_M x.toNatClampNeg (M.2 30 26) ((t0 M).1 38) 0).1))) N) else Po (some (.int (-2))) (t0 M))
  | _ => False
theorem q_X9_campaigns {x : Int32} {M : ab_M} {Po : ab_P} : s_X9_campaigns [.ref 30, .int x] M Po = (∃ n s : Nat, ct_M M n s ∧ (if ¬ x < 1 ∧ ¬ 30 < x then (∀ N, jj (sw_M (t0 M) (cs_l (t0 M) n s sd_X b3_M x.toNatClampNeg (M.2 30 26) ((t0 M).1 38) 0).2) N → Po (some (.int ((cs_l (t0 M) n s sd_X b3_M x.toNatClampNeg (M.2 30 26) ((t0 M).1 38) 0).1))) N) else Po (some (.int (-2))) (t0 M))) := rfl
abbrev x_X9_campaigns : ab_X := (some .int, fl_X9, [(145, 3, s_X9_in), (338, 1, s_X9_begin), (428, 2, s_X9_does)], kl_X9, gs_X9, ab_ros)
theorem ca_X9_campaigns_72 {v0 v1 v2 : Value} {st : List Value} {M : ab_M} {k : List Value → ab_M → Prop} : ab_ca x_X9_campaigns (2 * 72 + 1) (v2 :: v1 :: v0 :: st) M k = (st.length ≤ 4 ∧ s_X9_in [v0, v1, v2] M (fun r M' => k (r.toList ++ st) M')) := rfl
theorem ca_X9_campaigns_169 {v0 : Value} {st : List Value} {M : ab_M} {k : List Value → ab_M → Prop} : ab_ca x_X9_campaigns (2 * 169) (v0 :: st) M k = (st.length ≤ 4 ∧ s_X9_begin [v0] M (fun r M' => k (r.toList ++ st) M')) := rfl
theorem ca_X9_campaigns_214 {v0 v1 : Value} {st : List Value} {M : ab_M} {k : List Value → ab_M → Prop} : ab_ca x_X9_campaigns (2 * 214) (v1 :: v0 :: st) M k = (st.length ≤ 4 ∧ s_X9_does [v0, v1] M (fun r M' => k (r.toList ++ st) M')) := rfl
theorem r_X9_campaigns : ∀ (as : List Value) (M : ab_M) (Po : ab_P), s_X9_campaigns as M Po → ∃ (q : Nat) (as' : List Value) (ci : Nat) (T : u_T) (N : Nat) (fs : List ab_F), as = .ref q :: as' ∧ ab_sh[q]? = some (.inl (ci, fs)) ∧ vwCl[ci]? = some (yX9_campaigns.cls, T, N) := by
  intro as M Po h
  unfold s_X9_campaigns at h
  split at h
  · first | exact ⟨_, _, 9, _, _, _, rfl, rfl, rfl⟩ | (rcases h.1 with rfl | rfl | rfl <;> exact ⟨_, _, 9, _, _, _, rfl, rfl, rfl⟩)
  · exact h.elim
set_option maxRecDepth 20000 in
set_option maxHeartbeats 4000000 in
theorem lq_X9_campaigns {G : ab_K} {Po : ab_P} (hG : ab_Clo cX9_campaigns x_X9_campaigns Po G) {N : ab_M} {n s m : Nat} {z h p q : Nat → Int32} (hc : ct_M N n s) (hm : m < 2 ^ 31) : ∀ (j i : Nat) (u : Int64) (P : Nat → Int32) (a : Int32) (c4 : Option Value), i + j = m → (∀ N', jj (sw_M N (cs_l N n s sd_X b3_M j u P a).2) N' → Po (some (.int (cs_l N n s sd_X b3_M j u P a).1)) N') → G 28 [some (.ref 30), some (.int (nI m)), some (.int a), some (.int (nI i)), c4] [] (jw (sw_M N u) z P h p q) := by
  intro j
  induction j with
  | zero =>
    intro i u P a c4 hi hh
    have e : i = m := by omega
    subst e
    unfold cs_l at hh
    refine ab_go1 hG [28] 80 _ _ _ _ ?_
    simp (decide := true) only [ew_s, ew_0, Option.toList_some, Option.toList_none, List.cons_append, List.nil_append, true_and, and_true, List.length_cons, List.length_nil, Nat.reduceAdd, Nat.reduceLeDiff, Int32.reduceAdd, Int32.reduceSub, Int32.reduceMul, Int32.reduceLT, Int32.reduceLE, Int32.reduceToNatClampNeg, ↓reduceIte, and_self, si_1, si_2, sl_1, sl_2, false_and, and_false, dX9_campaigns_0, dX9_campaigns_1, dX9_campaigns_2, dX9_campaigns_5, dX9_campaigns_6, dX9_campaigns_7, dX9_campaigns_8, dX9_campaigns_11, dX9_campaigns_14, dX9_campaigns_17, dX9_campaigns_19, dX9_campaigns_20, dX9_campaigns_21, dX9_campaigns_24, dX9_campaigns_25, dX9_campaigns_26, dX9_campaigns_27, dX9_campaigns_28, dX9_campaigns_29, dX9_campaigns_30, dX9_campaigns_33, dX9_campaigns_34, dX9_campaigns_35, dX9_campaigns_38, dX9_campaigns_41, dX9_campaigns_42, dX9_campaigns_45, dX9_campaigns_46, dX9_campaigns_49, dX9_campaigns_50, dX9_campaigns_53, dX9_campaigns_55, dX9_campaigns_56, dX9_campaigns_59, dX9_campaigns_60, dX9_campaigns_61, dX9_campaigns_63, dX9_campaigns_64, dX9_campaigns_66, dX9_campaigns_67, dX9_campaigns_70, dX9_campaigns_73, dX9_campaigns_75, dX9_campaigns_76, dX9_campaigns_79, dX9_campaigns_81, dX9_campaigns_83, dX9_campaigns_86, dX9_campaigns_89, dX9_campaigns_91, dX9_campaigns_92, dX9_campaigns_95, dX9_campaigns_97, dX9_campaigns_99, dX9_campaigns_102, dX9_campaigns_104, dX9_campaigns_107, dX9_campaigns_108, dX9_campaigns_111, dX9_campaigns_112, dX9_campaigns_113, dX9_campaigns_114, dX9_campaigns_117, dX9_campaigns_118, dX9_campaigns_119, dX9_campaigns_120, dX9_campaigns_121, dX9_campaigns_124, dX9_campaigns_127, dX9_campaigns_128, ca_X9_campaigns_169, ca_X9_campaigns_214, ca_X9_campaigns_72, e_aload_n0, e_calls, e_callv, e_getfield, e_i2l, e_iadd, e_iaload, e_iload4, e_iload_n1, e_iload_n2, e_iload_n3, e_ireturn, e_istore4i, e_istore4n, e_istore4r, e_istore_n2i, e_istore_n2n, e_istore_n2r, e_istore_n3i, e_istore_n3n, e_istore_n3r, e_kl_X9_194, e_kl_X9_252, e_kl_X9_254, e_kl_X9_256, e_l2i, e_ladd, e_lconst1, e_lmul, e_lrem, e_lushr, e_pop, e_putfield, ea_38, ea_39, ea_40, gf_X9_248_30, gf_X9_34_30, j_bp_10, j_bp_100, j_bp_33, j_bp_m2, j_goto_104_4, j_goto_124_m96, j_goto_76_32, j_goto_92_16, j_ic_0, j_ic_5, j_icmp_ge_30_97, j_icmp_ge_67_12, j_icmp_ge_83_12, j_icmp_ne_99_8, j_if_ne_14_6, j_ii_3_1, j_sp_200, j_sp_295, pf_X9_248_30, pf_X9_65_30, q_X9_in, jw_30_0, jw_30_2, jw_30_4, jw_30_7, jw_30_10, jw_30_19, jw_30_22, jw_30_27, jw_30_28, jw_30_29, jw_30_30, jw_30_31, jw_30_32, jw_30_35, jw_32, jw_32f, jw_33, jw_33f, jw_34, jw_34f, jw_35, jw_35f, jw_38, jw_38f, jw_41, jw_41f, jw_42, jw_42f, jw_43, jw_43f, jw_44, jw_44f, jw_45, jw_45f, jw_46, jw_46f, jw_39, jw_39f, jw_s39, jw_w39, jw_40, jw_40f, jw_s40, jw_w40, jw_47, jw_47f, jw_s47, jw_w47, jw_48, jw_48f, jw_s48, jw_w48, jw_z27, jw_z28, jw_z29, jw_z30, jw_z31, jw_z32, jw_z35, jw_l, uz_27_27, uz_27_28, uz_27_29, uz_27_30, uz_27_31, uz_27_32, uz_27_35, uz_28_27, uz_28_28, uz_28_29, uz_28_30, uz_28_31, uz_28_32, uz_28_35, uz_29_27, uz_29_28, uz_29_29, uz_29_30, uz_29_31, uz_29_32, uz_29_35, uz_30_27, uz_30_28, uz_30_29, uz_30_30, uz_30_31, uz_30_32, uz_30_35, uz_31_27, uz_31_28, uz_31_29, uz_31_30, uz_31_31, uz_31_32, uz_31_35, uz_32_27, uz_32_28, uz_32_29, uz_32_30, uz_32_31, uz_32_32, uz_32_35, uz_35_27, uz_35_28, uz_35_29, uz_35_30, uz_35_31, uz_35_32, uz_35_35, ab_rn, bi_0, bi_1, ite_not]
    rw [if_neg (nI_nlt (Nat.le_refl i) (by omega))]
    exact hh _ jj_i
  | succ j ih =>
    intro i u P a c4 hi hh
    obtain ⟨c, hcc, hlt⟩ := lt_N (sd_X u)
    have hcl : (nI c).toNatClampNeg = c := nI_clamp (by omega)
    unfold cs_l at hh
    have hb3 : b3_M (sd_X u) = ld_3 c := by
      unfold b3_M
      rw [hlt, hcl]
    rw [hb3] at hh
    have hb := ld_lt hcc
    have dd := doE (M := sw_M N (sd_X u)) (n := n) (s := s) hc (b := ld_3 c) hb
    have l5 : (nI c < 5) = (c < 5) := propext (nI_ltI (b := 5) (by omega) (by omega))
    have l10 : (nI c < 10) = (c < 10) := propext (nI_ltI (b := 10) (by omega) (by omega))
    have l1 : (nI c = 10) = (c = 10) := nI_eqz (b := 10) (by omega) (by omega)
    have ih1 := fun c4 => ih (i + 1) (sd_X u) _ _ c4 (by omega) hh
    by_cases c1 : c < 5
    · have hv : 200 + nI c = nI (ld_3 c) := by
        unfold ld_3
        rw [if_pos c1]
        exact nI_add 200 c
      refine ab_go1 hG [28] 80 _ _ _ _ ?_
      simp (decide := true) only [ew_s, ew_0, Option.toList_some, Option.toList_none, List.cons_append, List.nil_append, true_and, and_true, List.length_cons, List.length_nil, Nat.reduceAdd, Nat.reduceLeDiff, Int32.reduceAdd, Int32.reduceSub, Int32.reduceMul, Int32.reduceLT, Int32.reduceLE, Int32.reduceToNatClampNeg, ↓reduceIte, and_self, si_1, si_2, sl_1, sl_2, false_and, and_false, dX9_campaigns_0, dX9_campaigns_1, dX9_campaigns_2, dX9_campaigns_5, dX9_campaigns_6, dX9_campaigns_7, dX9_campaigns_8, dX9_campaigns_11, dX9_campaigns_14, dX9_campaigns_17, dX9_campaigns_19, dX9_campaigns_20, dX9_campaigns_21, dX9_campaigns_24, dX9_campaigns_25, dX9_campaigns_26, dX9_campaigns_27, dX9_campaigns_28, dX9_campaigns_29, dX9_campaigns_30, dX9_campaigns_33, dX9_campaigns_34, dX9_campaigns_35, dX9_campaigns_38, dX9_campaigns_41, dX9_campaigns_42, dX9_campaigns_45, dX9_campaigns_46, dX9_campaigns_49, dX9_campaigns_50, dX9_campaigns_53, dX9_campaigns_55, dX9_campaigns_56, dX9_campaigns_59, dX9_campaigns_60, dX9_campaigns_61, dX9_campaigns_63, dX9_campaigns_64, dX9_campaigns_66, dX9_campaigns_67, dX9_campaigns_70, dX9_campaigns_73, dX9_campaigns_75, dX9_campaigns_76, dX9_campaigns_79, dX9_campaigns_81, dX9_campaigns_83, dX9_campaigns_86, dX9_campaigns_89, dX9_campaigns_91, dX9_campaigns_92, dX9_campaigns_95, dX9_campaigns_97, dX9_campaigns_99, dX9_campaigns_102, dX9_campaigns_104, dX9_campaigns_107, dX9_campaigns_108, dX9_campaigns_111, dX9_campaigns_112, dX9_campaigns_113, dX9_campaigns_114, dX9_campaigns_117, dX9_campaigns_118, dX9_campaigns_119, dX9_campaigns_120, dX9_campaigns_121, dX9_campaigns_124, dX9_campaigns_127, dX9_campaigns_128, ca_X9_campaigns_169, ca_X9_campaigns_214, ca_X9_campaigns_72, e_aload_n0, e_calls, e_callv, e_getfield, e_i2l, e_iadd, e_iaload, e_iload4, e_iload_n1, e_iload_n2, e_iload_n3, e_ireturn, e_istore4i, e_istore4n, e_istore4r, e_istore_n2i, e_istore_n2n, e_istore_n2r, e_istore_n3i, e_istore_n3n, e_istore_n3r, e_kl_X9_194, e_kl_X9_252, e_kl_X9_254, e_kl_X9_256, e_l2i, e_ladd, e_lconst1, e_lmul, e_lrem, e_lushr, e_pop, e_putfield, ea_38, ea_39, ea_40, gf_X9_248_30, gf_X9_34_30, j_bp_10, j_bp_100, j_bp_33, j_bp_m2, j_goto_104_4, j_goto_124_m96, j_goto_76_32, j_goto_92_16, j_ic_0, j_ic_5, j_icmp_ge_30_97, j_icmp_ge_67_12, j_icmp_ge_83_12, j_icmp_ne_99_8, j_if_ne_14_6, j_ii_3_1, j_sp_200, j_sp_295, pf_X9_248_30, pf_X9_65_30, q_X9_in, jw_30_0, jw_30_2, jw_30_4, jw_30_7, jw_30_10, jw_30_19, jw_30_22, jw_30_27, jw_30_28, jw_30_29, jw_30_30, jw_30_31, jw_30_32, jw_30_35, jw_32, jw_32f, jw_33, jw_33f, jw_34, jw_34f, jw_35, jw_35f, jw_38, jw_38f, jw_41, jw_41f, jw_42, jw_42f, jw_43, jw_43f, jw_44, jw_44f, jw_45, jw_45f, jw_46, jw_46f, jw_39, jw_39f, jw_s39, jw_w39, jw_40, jw_40f, jw_s40, jw_w40, jw_47, jw_47f, jw_s47, jw_w47, jw_48, jw_48f, jw_s48, jw_w48, jw_z27, jw_z28, jw_z29, jw_z30, jw_z31, jw_z32, jw_z35, jw_l, uz_27_27, uz_27_28, uz_27_29, uz_27_30, uz_27_31, uz_27_32, uz_27_35, uz_28_27, uz_28_28, uz_28_29, uz_28_30, uz_28_31, uz_28_32, uz_28_35, uz_29_27, uz_29_28, uz_29_29, uz_29_30, uz_29_31, uz_29_32, uz_29_35, uz_30_27, uz_30_28, uz_30_29, uz_30_30, uz_30_31, uz_30_32, uz_30_35, uz_31_27, uz_31_28, uz_31_29, uz_31_30, uz_31_31, uz_31_32, uz_31_35, uz_32_27, uz_32_28, uz_32_29, uz_32_30, uz_32_31, uz_32_32, uz_32_35, uz_35_27, uz_35_28, uz_35_29, uz_35_30, uz_35_31, uz_35_32, uz_35_35, sw_g, sw_s, sd_r, lt_r, hlt, l5, l10, l1, c1, hv, dd, sw_do, nI_1, ab_rn, bi_0, bi_1, ite_not]
      rw [if_pos (nI_lt (by omega) (by omega))]
      exact ih1 _
    · by_cases c2 : c < 10
      · have hv : 295 + nI c = nI (ld_3 c) := by
          unfold ld_3
          rw [if_neg c1, if_pos c2]
          exact nI_add 295 c
        refine ab_go1 hG [28] 80 _ _ _ _ ?_
        simp (decide := true) only [ew_s, ew_0, Option.toList_some, Option.toList_none, List.cons_append, List.nil_append, true_and, and_true, List.length_cons, List.length_nil, Nat.reduceAdd, Nat.reduceLeDiff, Int32.reduceAdd, Int32.reduceSub, Int32.reduceMul, Int32.reduceLT, Int32.reduceLE, Int32.reduceToNatClampNeg, ↓reduceIte, and_self, si_1, si_2, sl_1, sl_2, false_and, and_false, dX9_campaigns_0, dX9_campaigns_1, dX9_campaigns_2, dX9_campaigns_5, dX9_campaigns_6, dX9_campaigns_7, dX9_campaigns_8, dX9_campaigns_11, dX9_campaigns_14, dX9_campaigns_17, dX9_campaigns_19, dX9_campaigns_20, dX9_campaigns_21, dX9_campaigns_24, dX9_campaigns_25, dX9_campaigns_26, dX9_campaigns_27, dX9_campaigns_28, dX9_campaigns_29, dX9_campaigns_30, dX9_campaigns_33, dX9_campaigns_34, dX9_campaigns_35, dX9_campaigns_38, dX9_campaigns_41, dX9_campaigns_42, dX9_campaigns_45, dX9_campaigns_46, dX9_campaigns_49, dX9_campaigns_50, dX9_campaigns_53, dX9_campaigns_55, dX9_campaigns_56, dX9_campaigns_59, dX9_campaigns_60, dX9_campaigns_61, dX9_campaigns_63, dX9_campaigns_64, dX9_campaigns_66, dX9_campaigns_67, dX9_campaigns_70, dX9_campaigns_73, dX9_campaigns_75, dX9_campaigns_76, dX9_campaigns_79, dX9_campaigns_81, dX9_campaigns_83, dX9_campaigns_86, dX9_campaigns_89, dX9_campaigns_91, dX9_campaigns_92, dX9_campaigns_95, dX9_campaigns_97, dX9_campaigns_99, dX9_campaigns_102, dX9_campaigns_104, dX9_campaigns_107, dX9_campaigns_108, dX9_campaigns_111, dX9_campaigns_112, dX9_campaigns_113, dX9_campaigns_114, dX9_campaigns_117, dX9_campaigns_118, dX9_campaigns_119, dX9_campaigns_120, dX9_campaigns_121, dX9_campaigns_124, dX9_campaigns_127, dX9_campaigns_128, ca_X9_campaigns_169, ca_X9_campaigns_214, ca_X9_campaigns_72, e_aload_n0, e_calls, e_callv, e_getfield, e_i2l, e_iadd, e_iaload, e_iload4, e_iload_n1, e_iload_n2, e_iload_n3, e_ireturn, e_istore4i, e_istore4n, e_istore4r, e_istore_n2i, e_istore_n2n, e_istore_n2r, e_istore_n3i, e_istore_n3n, e_istore_n3r, e_kl_X9_194, e_kl_X9_252, e_kl_X9_254, e_kl_X9_256, e_l2i, e_ladd, e_lconst1, e_lmul, e_lrem, e_lushr, e_pop, e_putfield, ea_38, ea_39, ea_40, gf_X9_248_30, gf_X9_34_30, j_bp_10, j_bp_100, j_bp_33, j_bp_m2, j_goto_104_4, j_goto_124_m96, j_goto_76_32, j_goto_92_16, j_ic_0, j_ic_5, j_icmp_ge_30_97, j_icmp_ge_67_12, j_icmp_ge_83_12, j_icmp_ne_99_8, j_if_ne_14_6, j_ii_3_1, j_sp_200, j_sp_295, pf_X9_248_30, pf_X9_65_30, q_X9_in, jw_30_0, jw_30_2, jw_30_4, jw_30_7, jw_30_10, jw_30_19, jw_30_22, jw_30_27, jw_30_28, jw_30_29, jw_30_30, jw_30_31, jw_30_32, jw_30_35, jw_32, jw_32f, jw_33, jw_33f, jw_34, jw_34f, jw_35, jw_35f, jw_38, jw_38f, jw_41, jw_41f, jw_42, jw_42f, jw_43, jw_43f, jw_44, jw_44f, jw_45, jw_45f, jw_46, jw_46f, jw_39, jw_39f, jw_s39, jw_w39, jw_40, jw_40f, jw_s40, jw_w40, jw_47, jw_47f, jw_s47, jw_w47, jw_48, jw_48f, jw_s48, jw_w48, jw_z27, jw_z28, jw_z29, jw_z30, jw_z31, jw_z32, jw_z35, jw_l, uz_27_27, uz_27_28, uz_27_29, uz_27_30, uz_27_31, uz_27_32, uz_27_35, uz_28_27, uz_28_28, uz_28_29, uz_28_30, uz_28_31, uz_28_32, uz_28_35, uz_29_27, uz_29_28, uz_29_29, uz_29_30, uz_29_31, uz_29_32, uz_29_35, uz_30_27, uz_30_28, uz_30_29, uz_30_30, uz_30_31, uz_30_32, uz_30_35, uz_31_27, uz_31_28, uz_31_29, uz_31_30, uz_31_31, uz_31_32, uz_31_35, uz_32_27, uz_32_28, uz_32_29, uz_32_30, uz_32_31, uz_32_32, uz_32_35, uz_35_27, uz_35_28, uz_35_29, uz_35_30, uz_35_31, uz_35_32, uz_35_35, sw_g, sw_s, sd_r, lt_r, hlt, l5, l10, l1, c1, c2, hv, dd, sw_do, nI_1, ab_rn, bi_0, bi_1, ite_not]
        rw [if_pos (nI_lt (by omega) (by omega))]
        exact ih1 _
      · by_cases c3 : c = 10
        · have hv : (100 : Int32) = nI (ld_3 c) := by
            subst c3
            rfl
          refine ab_go1 hG [28] 80 _ _ _ _ ?_
          simp (decide := true) only [ew_s, ew_0, Option.toList_some, Option.toList_none, List.cons_append, List.nil_append, true_and, and_true, List.length_cons, List.length_nil, Nat.reduceAdd, Nat.reduceLeDiff, Int32.reduceAdd, Int32.reduceSub, Int32.reduceMul, Int32.reduceLT, Int32.reduceLE, Int32.reduceToNatClampNeg, ↓reduceIte, and_self, si_1, si_2, sl_1, sl_2, false_and, and_false, dX9_campaigns_0, dX9_campaigns_1, dX9_campaigns_2, dX9_campaigns_5, dX9_campaigns_6, dX9_campaigns_7, dX9_campaigns_8, dX9_campaigns_11, dX9_campaigns_14, dX9_campaigns_17, dX9_campaigns_19, dX9_campaigns_20, dX9_campaigns_21, dX9_campaigns_24, dX9_campaigns_25, dX9_campaigns_26, dX9_campaigns_27, dX9_campaigns_28, dX9_campaigns_29, dX9_campaigns_30, dX9_campaigns_33, dX9_campaigns_34, dX9_campaigns_35, dX9_campaigns_38, dX9_campaigns_41, dX9_campaigns_42, dX9_campaigns_45, dX9_campaigns_46, dX9_campaigns_49, dX9_campaigns_50, dX9_campaigns_53, dX9_campaigns_55, dX9_campaigns_56, dX9_campaigns_59, dX9_campaigns_60, dX9_campaigns_61, dX9_campaigns_63, dX9_campaigns_64, dX9_campaigns_66, dX9_campaigns_67, dX9_campaigns_70, dX9_campaigns_73, dX9_campaigns_75, dX9_campaigns_76, dX9_campaigns_79, dX9_campaigns_81, dX9_campaigns_83, dX9_campaigns_86, dX9_campaigns_89, dX9_campaigns_91, dX9_campaigns_92, dX9_campaigns_95, dX9_campaigns_97, dX9_campaigns_99, dX9_campaigns_102, dX9_campaigns_104, dX9_campaigns_107, dX9_campaigns_108, dX9_campaigns_111, dX9_campaigns_112, dX9_campaigns_113, dX9_campaigns_114, dX9_campaigns_117, dX9_campaigns_118, dX9_campaigns_119, dX9_campaigns_120, dX9_campaigns_121, dX9_campaigns_124, dX9_campaigns_127, dX9_campaigns_128, ca_X9_campaigns_169, ca_X9_campaigns_214, ca_X9_campaigns_72, e_aload_n0, e_calls, e_callv, e_getfield, e_i2l, e_iadd, e_iaload, e_iload4, e_iload_n1, e_iload_n2, e_iload_n3, e_ireturn, e_istore4i, e_istore4n, e_istore4r, e_istore_n2i, e_istore_n2n, e_istore_n2r, e_istore_n3i, e_istore_n3n, e_istore_n3r, e_kl_X9_194, e_kl_X9_252, e_kl_X9_254, e_kl_X9_256, e_l2i, e_ladd, e_lconst1, e_lmul, e_lrem, e_lushr, e_pop, e_putfield, ea_38, ea_39, ea_40, gf_X9_248_30, gf_X9_34_30, j_bp_10, j_bp_100, j_bp_33, j_bp_m2, j_goto_104_4, j_goto_124_m96, j_goto_76_32, j_goto_92_16, j_ic_0, j_ic_5, j_icmp_ge_30_97, j_icmp_ge_67_12, j_icmp_ge_83_12, j_icmp_ne_99_8, j_if_ne_14_6, j_ii_3_1, j_sp_200, j_sp_295, pf_X9_248_30, pf_X9_65_30, q_X9_in, jw_30_0, jw_30_2, jw_30_4, jw_30_7, jw_30_10, jw_30_19, jw_30_22, jw_30_27, jw_30_28, jw_30_29, jw_30_30, jw_30_31, jw_30_32, jw_30_35, jw_32, jw_32f, jw_33, jw_33f, jw_34, jw_34f, jw_35, jw_35f, jw_38, jw_38f, jw_41, jw_41f, jw_42, jw_42f, jw_43, jw_43f, jw_44, jw_44f, jw_45, jw_45f, jw_46, jw_46f, jw_39, jw_39f, jw_s39, jw_w39, jw_40, jw_40f, jw_s40, jw_w40, jw_47, jw_47f, jw_s47, jw_w47, jw_48, jw_48f, jw_s48, jw_w48, jw_z27, jw_z28, jw_z29, jw_z30, jw_z31, jw_z32, jw_z35, jw_l, uz_27_27, uz_27_28, uz_27_29, uz_27_30, uz_27_31, uz_27_32, uz_27_35, uz_28_27, uz_28_28, uz_28_29, uz_28_30, uz_28_31, uz_28_32, uz_28_35, uz_29_27, uz_29_28, uz_29_29, uz_29_30, uz_29_31, uz_29_32, uz_29_35, uz_30_27, uz_30_28, uz_30_29, uz_30_30, uz_30_31, uz_30_32, uz_30_35, uz_31_27, uz_31_28, uz_31_29, uz_31_30, uz_31_31, uz_31_32, uz_31_35, uz_32_27, uz_32_28, uz_32_29, uz_32_30, uz_32_31, uz_32_32, uz_32_35, uz_35_27, uz_35_28, uz_35_29, uz_35_30, uz_35_31, uz_35_32, uz_35_35, sw_g, sw_s, sd_r, lt_r, hlt, l5, l10, l1, c1, c2, c3, sw_do, nI_1, ab_rn, bi_0, bi_1, ite_not]
          rw [if_pos (nI_lt (by omega) (by omega)), hv, dd]
          simp (decide := true) only [ew_s, ew_0, Option.toList_some, Option.toList_none, List.cons_append, List.nil_append, true_and, and_true, List.length_cons, List.length_nil, Nat.reduceAdd, Nat.reduceLeDiff, Int32.reduceAdd, Int32.reduceSub, Int32.reduceMul, Int32.reduceLT, Int32.reduceLE, Int32.reduceToNatClampNeg, ↓reduceIte, and_self, si_1, si_2, sl_1, sl_2, false_and, and_false, dX9_campaigns_0, dX9_campaigns_1, dX9_campaigns_2, dX9_campaigns_5, dX9_campaigns_6, dX9_campaigns_7, dX9_campaigns_8, dX9_campaigns_11, dX9_campaigns_14, dX9_campaigns_17, dX9_campaigns_19, dX9_campaigns_20, dX9_campaigns_21, dX9_campaigns_24, dX9_campaigns_25, dX9_campaigns_26, dX9_campaigns_27, dX9_campaigns_28, dX9_campaigns_29, dX9_campaigns_30, dX9_campaigns_33, dX9_campaigns_34, dX9_campaigns_35, dX9_campaigns_38, dX9_campaigns_41, dX9_campaigns_42, dX9_campaigns_45, dX9_campaigns_46, dX9_campaigns_49, dX9_campaigns_50, dX9_campaigns_53, dX9_campaigns_55, dX9_campaigns_56, dX9_campaigns_59, dX9_campaigns_60, dX9_campaigns_61, dX9_campaigns_63, dX9_campaigns_64, dX9_campaigns_66, dX9_campaigns_67, dX9_campaigns_70, dX9_campaigns_73, dX9_campaigns_75, dX9_campaigns_76, dX9_campaigns_79, dX9_campaigns_81, dX9_campaigns_83, dX9_campaigns_86, dX9_campaigns_89, dX9_campaigns_91, dX9_campaigns_92, dX9_campaigns_95, dX9_campaigns_97, dX9_campaigns_99, dX9_campaigns_102, dX9_campaigns_104, dX9_campaigns_107, dX9_campaigns_108, dX9_campaigns_111, dX9_campaigns_112, dX9_campaigns_113, dX9_campaigns_114, dX9_campaigns_117, dX9_campaigns_118, dX9_campaigns_119, dX9_campaigns_120, dX9_campaigns_121, dX9_campaigns_124, dX9_campaigns_127, dX9_campaigns_128, ca_X9_campaigns_169, ca_X9_campaigns_214, ca_X9_campaigns_72, e_aload_n0, e_calls, e_callv, e_getfield, e_i2l, e_iadd, e_iaload, e_iload4, e_iload_n1, e_iload_n2, e_iload_n3, e_ireturn, e_istore4i, e_istore4n, e_istore4r, e_istore_n2i, e_istore_n2n, e_istore_n2r, e_istore_n3i, e_istore_n3n, e_istore_n3r, e_kl_X9_194, e_kl_X9_252, e_kl_X9_254, e_kl_X9_256, e_l2i, e_ladd, e_lconst1, e_lmul, e_lrem, e_lushr, e_pop, e_putfield, ea_38, ea_39, ea_40, gf_X9_248_30, gf_X9_34_30, j_bp_10, j_bp_100, j_bp_33, j_bp_m2, j_goto_104_4, j_goto_124_m96, j_goto_76_32, j_goto_92_16, j_ic_0, j_ic_5, j_icmp_ge_30_97, j_icmp_ge_67_12, j_icmp_ge_83_12, j_icmp_ne_99_8, j_if_ne_14_6, j_ii_3_1, j_sp_200, j_sp_295, pf_X9_248_30, pf_X9_65_30, q_X9_in, jw_30_0, jw_30_2, jw_30_4, jw_30_7, jw_30_10, jw_30_19, jw_30_22, jw_30_27, jw_30_28, jw_30_29, jw_30_30, jw_30_31, jw_30_32, jw_30_35, jw_32, jw_32f, jw_33, jw_33f, jw_34, jw_34f, jw_35, jw_35f, jw_38, jw_38f, jw_41, jw_41f, jw_42, jw_42f, jw_43, jw_43f, jw_44, jw_44f, jw_45, jw_45f, jw_46, jw_46f, jw_39, jw_39f, jw_s39, jw_w39, jw_40, jw_40f, jw_s40, jw_w40, jw_47, jw_47f, jw_s47, jw_w47, jw_48, jw_48f, jw_s48, jw_w48, jw_z27, jw_z28, jw_z29, jw_z30, jw_z31, jw_z32, jw_z35, jw_l, uz_27_27, uz_27_28, uz_27_29, uz_27_30, uz_27_31, uz_27_32, uz_27_35, uz_28_27, uz_28_28, uz_28_29, uz_28_30, uz_28_31, uz_28_32, uz_28_35, uz_29_27, uz_29_28, uz_29_29, uz_29_30, uz_29_31, uz_29_32, uz_29_35, uz_30_27, uz_30_28, uz_30_29, uz_30_30, uz_30_31, uz_30_32, uz_30_35, uz_31_27, uz_31_28, uz_31_29, uz_31_30, uz_31_31, uz_31_32, uz_31_35, uz_32_27, uz_32_28, uz_32_29, uz_32_30, uz_32_31, uz_32_32, uz_32_35, uz_35_27, uz_35_28, uz_35_29, uz_35_30, uz_35_31, uz_35_32, uz_35_35, sw_g, sw_s, ab_rn, sw_do, nI_1]
          exact ih1 _
        · have hv : (0 : Int32) = nI (ld_3 c) := by
            unfold ld_3
            rw [if_neg c1, if_neg c2, if_neg c3]
            rfl
          refine ab_go1 hG [28] 80 _ _ _ _ ?_
          simp (decide := true) only [ew_s, ew_0, Option.toList_some, Option.toList_none, List.cons_append, List.nil_append, true_and, and_true, List.length_cons, List.length_nil, Nat.reduceAdd, Nat.reduceLeDiff, Int32.reduceAdd, Int32.reduceSub, Int32.reduceMul, Int32.reduceLT, Int32.reduceLE, Int32.reduceToNatClampNeg, ↓reduceIte, and_self, si_1, si_2, sl_1, sl_2, false_and, and_false, dX9_campaigns_0, dX9_campaigns_1, dX9_campaigns_2, dX9_campaigns_5, dX9_campaigns_6, dX9_campaigns_7, dX9_campaigns_8, dX9_campaigns_11, dX9_campaigns_14, dX9_campaigns_17, dX9_campaigns_19, dX9_campaigns_20, dX9_campaigns_21, dX9_campaigns_24, dX9_campaigns_25, dX9_campaigns_26, dX9_campaigns_27, dX9_campaigns_28, dX9_campaigns_29, dX9_campaigns_30, dX9_campaigns_33, dX9_campaigns_34, dX9_campaigns_35, dX9_campaigns_38, dX9_campaigns_41, dX9_campaigns_42, dX9_campaigns_45, dX9_campaigns_46, dX9_campaigns_49, dX9_campaigns_50, dX9_campaigns_53, dX9_campaigns_55, dX9_campaigns_56, dX9_campaigns_59, dX9_campaigns_60, dX9_campaigns_61, dX9_campaigns_63, dX9_campaigns_64, dX9_campaigns_66, dX9_campaigns_67, dX9_campaigns_70, dX9_campaigns_73, dX9_campaigns_75, dX9_campaigns_76, dX9_campaigns_79, dX9_campaigns_81, dX9_campaigns_83, dX9_campaigns_86, dX9_campaigns_89, dX9_campaigns_91, dX9_campaigns_92, dX9_campaigns_95, dX9_campaigns_97, dX9_campaigns_99, dX9_campaigns_102, dX9_campaigns_104, dX9_campaigns_107, dX9_campaigns_108, dX9_campaigns_111, dX9_campaigns_112, dX9_campaigns_113, dX9_campaigns_114, dX9_campaigns_117, dX9_campaigns_118, dX9_campaigns_119, dX9_campaigns_120, dX9_campaigns_121, dX9_campaigns_124, dX9_campaigns_127, dX9_campaigns_128, ca_X9_campaigns_169, ca_X9_campaigns_214, ca_X9_campaigns_72, e_aload_n0, e_calls, e_callv, e_getfield, e_i2l, e_iadd, e_iaload, e_iload4, e_iload_n1, e_iload_n2, e_iload_n3, e_ireturn, e_istore4i, e_istore4n, e_istore4r, e_istore_n2i, e_istore_n2n, e_istore_n2r, e_istore_n3i, e_istore_n3n, e_istore_n3r, e_kl_X9_194, e_kl_X9_252, e_kl_X9_254, e_kl_X9_256, e_l2i, e_ladd, e_lconst1, e_lmul, e_lrem, e_lushr, e_pop, e_putfield, ea_38, ea_39, ea_40, gf_X9_248_30, gf_X9_34_30, j_bp_10, j_bp_100, j_bp_33, j_bp_m2, j_goto_104_4, j_goto_124_m96, j_goto_76_32, j_goto_92_16, j_ic_0, j_ic_5, j_icmp_ge_30_97, j_icmp_ge_67_12, j_icmp_ge_83_12, j_icmp_ne_99_8, j_if_ne_14_6, j_ii_3_1, j_sp_200, j_sp_295, pf_X9_248_30, pf_X9_65_30, q_X9_in, jw_30_0, jw_30_2, jw_30_4, jw_30_7, jw_30_10, jw_30_19, jw_30_22, jw_30_27, jw_30_28, jw_30_29, jw_30_30, jw_30_31, jw_30_32, jw_30_35, jw_32, jw_32f, jw_33, jw_33f, jw_34, jw_34f, jw_35, jw_35f, jw_38, jw_38f, jw_41, jw_41f, jw_42, jw_42f, jw_43, jw_43f, jw_44, jw_44f, jw_45, jw_45f, jw_46, jw_46f, jw_39, jw_39f, jw_s39, jw_w39, jw_40, jw_40f, jw_s40, jw_w40, jw_47, jw_47f, jw_s47, jw_w47, jw_48, jw_48f, jw_s48, jw_w48, jw_z27, jw_z28, jw_z29, jw_z30, jw_z31, jw_z32, jw_z35, jw_l, uz_27_27, uz_27_28, uz_27_29, uz_27_30, uz_27_31, uz_27_32, uz_27_35, uz_28_27, uz_28_28, uz_28_29, uz_28_30, uz_28_31, uz_28_32, uz_28_35, uz_29_27, uz_29_28, uz_29_29, uz_29_30, uz_29_31, uz_29_32, uz_29_35, uz_30_27, uz_30_28, uz_30_29, uz_30_30, uz_30_31, uz_30_32, uz_30_35, uz_31_27, uz_31_28, uz_31_29, uz_31_30, uz_31_31, uz_31_32, uz_31_35, uz_32_27, uz_32_28, uz_32_29, uz_32_30, uz_32_31, uz_32_32, uz_32_35, uz_35_27, uz_35_28, uz_35_29, uz_35_30, uz_35_31, uz_35_32, uz_35_35, sw_g, sw_s, sd_r, lt_r, hlt, l5, l10, l1, c1, c2, c3, sw_do, nI_1, ab_rn, bi_0, bi_1, ite_not]
          rw [if_pos (nI_lt (by omega) (by omega)), hv, dd]
          simp (decide := true) only [ew_s, ew_0, Option.toList_some, Option.toList_none, List.cons_append, List.nil_append, true_and, and_true, List.length_cons, List.length_nil, Nat.reduceAdd, Nat.reduceLeDiff, Int32.reduceAdd, Int32.reduceSub, Int32.reduceMul, Int32.reduceLT, Int32.reduceLE, Int32.reduceToNatClampNeg, ↓reduceIte, and_self, si_1, si_2, sl_1, sl_2, false_and, and_false, dX9_campaigns_0, dX9_campaigns_1, dX9_campaigns_2, dX9_campaigns_5, dX9_campaigns_6, dX9_campaigns_7, dX9_campaigns_8, dX9_campaigns_11, dX9_campaigns_14, dX9_campaigns_17, dX9_campaigns_19, dX9_campaigns_20, dX9_campaigns_21, dX9_campaigns_24, dX9_campaigns_25, dX9_campaigns_26, dX9_campaigns_27, dX9_campaigns_28, dX9_campaigns_29, dX9_campaigns_30, dX9_campaigns_33, dX9_campaigns_34, dX9_campaigns_35, dX9_campaigns_38, dX9_campaigns_41, dX9_campaigns_42, dX9_campaigns_45, dX9_campaigns_46, dX9_campaigns_49, dX9_campaigns_50, dX9_campaigns_53, dX9_campaigns_55, dX9_campaigns_56, dX9_campaigns_59, dX9_campaigns_60, dX9_campaigns_61, dX9_campaigns_63, dX9_campaigns_64, dX9_campaigns_66, dX9_campaigns_67, dX9_campaigns_70, dX9_campaigns_73, dX9_campaigns_75, dX9_campaigns_76, dX9_campaigns_79, dX9_campaigns_81, dX9_campaigns_83, dX9_campaigns_86, dX9_campaigns_89, dX9_campaigns_91, dX9_campaigns_92, dX9_campaigns_95, dX9_campaigns_97, dX9_campaigns_99, dX9_campaigns_102, dX9_campaigns_104, dX9_campaigns_107, dX9_campaigns_108, dX9_campaigns_111, dX9_campaigns_112, dX9_campaigns_113, dX9_campaigns_114, dX9_campaigns_117, dX9_campaigns_118, dX9_campaigns_119, dX9_campaigns_120, dX9_campaigns_121, dX9_campaigns_124, dX9_campaigns_127, dX9_campaigns_128, ca_X9_campaigns_169, ca_X9_campaigns_214, ca_X9_campaigns_72, e_aload_n0, e_calls, e_callv, e_getfield, e_i2l, e_iadd, e_iaload, e_iload4, e_iload_n1, e_iload_n2, e_iload_n3, e_ireturn, e_istore4i, e_istore4n, e_istore4r, e_istore_n2i, e_istore_n2n, e_istore_n2r, e_istore_n3i, e_istore_n3n, e_istore_n3r, e_kl_X9_194, e_kl_X9_252, e_kl_X9_254, e_kl_X9_256, e_l2i, e_ladd, e_lconst1, e_lmul, e_lrem, e_lushr, e_pop, e_putfield, ea_38, ea_39, ea_40, gf_X9_248_30, gf_X9_34_30, j_bp_10, j_bp_100, j_bp_33, j_bp_m2, j_goto_104_4, j_goto_124_m96, j_goto_76_32, j_goto_92_16, j_ic_0, j_ic_5, j_icmp_ge_30_97, j_icmp_ge_67_12, j_icmp_ge_83_12, j_icmp_ne_99_8, j_if_ne_14_6, j_ii_3_1, j_sp_200, j_sp_295, pf_X9_248_30, pf_X9_65_30, q_X9_in, jw_30_0, jw_30_2, jw_30_4, jw_30_7, jw_30_10, jw_30_19, jw_30_22, jw_30_27, jw_30_28, jw_30_29, jw_30_30, jw_30_31, jw_30_32, jw_30_35, jw_32, jw_32f, jw_33, jw_33f, jw_34, jw_34f, jw_35, jw_35f, jw_38, jw_38f, jw_41, jw_41f, jw_42, jw_42f, jw_43, jw_43f, jw_44, jw_44f, jw_45, jw_45f, jw_46, jw_46f, jw_39, jw_39f, jw_s39, jw_w39, jw_40, jw_40f, jw_s40, jw_w40, jw_47, jw_47f, jw_s47, jw_w47, jw_48, jw_48f, jw_s48, jw_w48, jw_z27, jw_z28, jw_z29, jw_z30, jw_z31, jw_z32, jw_z35, jw_l, uz_27_27, uz_27_28, uz_27_29, uz_27_30, uz_27_31, uz_27_32, uz_27_35, uz_28_27, uz_28_28, uz_28_29, uz_28_30, uz_28_31, uz_28_32, uz_28_35, uz_29_27, uz_29_28, uz_29_29, uz_29_30, uz_29_31, uz_29_32, uz_29_35, uz_30_27, uz_30_28, uz_30_29, uz_30_30, uz_30_31, uz_30_32, uz_30_35, uz_31_27, uz_31_28, uz_31_29, uz_31_30, uz_31_31, uz_31_32, uz_31_35, uz_32_27, uz_32_28, uz_32_29, uz_32_30, uz_32_31, uz_32_32, uz_32_35, uz_35_27, uz_35_28, uz_35_29, uz_35_30, uz_35_31, uz_35_32, uz_35_35, sw_g, sw_s, ab_rn, sw_do, nI_1]
          exact ih1 _
set_option maxRecDepth 20000 in
set_option maxHeartbeats 4000000 in
theorem lA_X9_campaigns {G : ab_K} {Po : ab_P} (hG : ab_Clo cX9_campaigns x_X9_campaigns Po G) {N : ab_M} {n s m : Nat} {u : Int64} {z g h p q : Nat → Int32} (hc : ct_M N n s) (hm : m < 2 ^ 31) (hh : ∀ N', jj (sw_M N (cs_l N n s sd_X b3_M m u (N.1 38) 0).2) N' → Po (some (.int (cs_l N n s sd_X b3_M m u (N.1 38) 0).1)) N') : G 20 [some (.ref 30), some (.int (nI m)), none, none, none] [] (jw (sw_M N u) z g h p q) := by
  rw [← cs_e7 hc.1 m u 0 (e7_cp (f := g) (g := N.1 38))] at hh
  have key := lq_X9_campaigns hG (z := z) (h := h) (p := p) (q := q) hc hm m 0 u _ 0 none (by omega) hh
  refine ab_go hG [28] 80 _ _ _ _ ?_
  simp (decide := true) only [ew_s, ew_0, Option.toList_some, Option.toList_none, List.cons_append, List.nil_append, true_and, and_true, List.length_cons, List.length_nil, Nat.reduceAdd, Nat.reduceLeDiff, Int32.reduceAdd, Int32.reduceSub, Int32.reduceMul, Int32.reduceLT, Int32.reduceLE, Int32.reduceToNatClampNeg, ↓reduceIte, and_self, si_1, si_2, sl_1, sl_2, false_and, and_false, dX9_campaigns_0, dX9_campaigns_1, dX9_campaigns_2, dX9_campaigns_5, dX9_campaigns_6, dX9_campaigns_7, dX9_campaigns_8, dX9_campaigns_11, dX9_campaigns_14, dX9_campaigns_17, dX9_campaigns_19, dX9_campaigns_20, dX9_campaigns_21, dX9_campaigns_24, dX9_campaigns_25, dX9_campaigns_26, dX9_campaigns_27, dX9_campaigns_28, dX9_campaigns_29, dX9_campaigns_30, dX9_campaigns_33, dX9_campaigns_34, dX9_campaigns_35, dX9_campaigns_38, dX9_campaigns_41, dX9_campaigns_42, dX9_campaigns_45, dX9_campaigns_46, dX9_campaigns_49, dX9_campaigns_50, dX9_campaigns_53, dX9_campaigns_55, dX9_campaigns_56, dX9_campaigns_59, dX9_campaigns_60, dX9_campaigns_61, dX9_campaigns_63, dX9_campaigns_64, dX9_campaigns_66, dX9_campaigns_67, dX9_campaigns_70, dX9_campaigns_73, dX9_campaigns_75, dX9_campaigns_76, dX9_campaigns_79, dX9_campaigns_81, dX9_campaigns_83, dX9_campaigns_86, dX9_campaigns_89, dX9_campaigns_91, dX9_campaigns_92, dX9_campaigns_95, dX9_campaigns_97, dX9_campaigns_99, dX9_campaigns_102, dX9_campaigns_104, dX9_campaigns_107, dX9_campaigns_108, dX9_campaigns_111, dX9_campaigns_112, dX9_campaigns_113, dX9_campaigns_114, dX9_campaigns_117, dX9_campaigns_118, dX9_campaigns_119, dX9_campaigns_120, dX9_campaigns_121, dX9_campaigns_124, dX9_campaigns_127, dX9_campaigns_128, ca_X9_campaigns_169, ca_X9_campaigns_214, ca_X9_campaigns_72, e_aload_n0, e_calls, e_callv, e_getfield, e_i2l, e_iadd, e_iaload, e_iload4, e_iload_n1, e_iload_n2, e_iload_n3, e_ireturn, e_istore4i, e_istore4n, e_istore4r, e_istore_n2i, e_istore_n2n, e_istore_n2r, e_istore_n3i, e_istore_n3n, e_istore_n3r, e_kl_X9_194, e_kl_X9_252, e_kl_X9_254, e_kl_X9_256, e_l2i, e_ladd, e_lconst1, e_lmul, e_lrem, e_lushr, e_pop, e_putfield, ea_38, ea_39, ea_40, gf_X9_248_30, gf_X9_34_30, j_bp_10, j_bp_100, j_bp_33, j_bp_m2, j_goto_104_4, j_goto_124_m96, j_goto_76_32, j_goto_92_16, j_ic_0, j_ic_5, j_icmp_ge_30_97, j_icmp_ge_67_12, j_icmp_ge_83_12, j_icmp_ne_99_8, j_if_ne_14_6, j_ii_3_1, j_sp_200, j_sp_295, pf_X9_248_30, pf_X9_65_30, q_X9_in, jw_30_0, jw_30_2, jw_30_4, jw_30_7, jw_30_10, jw_30_19, jw_30_22, jw_30_27, jw_30_28, jw_30_29, jw_30_30, jw_30_31, jw_30_32, jw_30_35, jw_32, jw_32f, jw_33, jw_33f, jw_34, jw_34f, jw_35, jw_35f, jw_38, jw_38f, jw_41, jw_41f, jw_42, jw_42f, jw_43, jw_43f, jw_44, jw_44f, jw_45, jw_45f, jw_46, jw_46f, jw_39, jw_39f, jw_s39, jw_w39, jw_40, jw_40f, jw_s40, jw_w40, jw_47, jw_47f, jw_s47, jw_w47, jw_48, jw_48f, jw_s48, jw_w48, jw_z27, jw_z28, jw_z29, jw_z30, jw_z31, jw_z32, jw_z35, jw_l, uz_27_27, uz_27_28, uz_27_29, uz_27_30, uz_27_31, uz_27_32, uz_27_35, uz_28_27, uz_28_28, uz_28_29, uz_28_30, uz_28_31, uz_28_32, uz_28_35, uz_29_27, uz_29_28, uz_29_29, uz_29_30, uz_29_31, uz_29_32, uz_29_35, uz_30_27, uz_30_28, uz_30_29, uz_30_30, uz_30_31, uz_30_32, uz_30_35, uz_31_27, uz_31_28, uz_31_29, uz_31_30, uz_31_31, uz_31_32, uz_31_35, uz_32_27, uz_32_28, uz_32_29, uz_32_30, uz_32_31, uz_32_32, uz_32_35, uz_35_27, uz_35_28, uz_35_29, uz_35_30, uz_35_31, uz_35_32, uz_35_35, bgE, ab_rn, bi_0, bi_1, ite_not]
  exact key
set_option maxRecDepth 20000 in
set_option maxHeartbeats 4000000 in
theorem c_X9_campaigns {l : Launch} : ab_ctr l yX9_campaigns cX9_campaigns 5 (some .int) 5 120 s_X9_campaigns := by
  refine ab_met x_X9_campaigns (by decide) rfl fo_X9 ko_X9 so_X9 rfl (ab_cs_cons (ab_kS c_X9_in ml_X9_72 v_X9_in ⟨rfl, rfl⟩) (ab_cs_cons (ab_kV c_X9_begin ml_X9_169 v_X9_begin ⟨rfl, rfl⟩ r_X9_begin) (ab_cs_cons (ab_kV c_X9_does ml_X9_214 v_X9_does ⟨rfl, rfl⟩ r_X9_does) ab_cs_nil))) ?_ ?_
  · intro as M Po h
    unfold s_X9_campaigns at h
    split at h
    · simp [ab_e0]
    · exact h.elim
  · intro as M Po h G hG
    unfold s_X9_campaigns at h
    split at h
    · simp only [ab_en, ab_e0, List.length_cons, List.length_nil, Nat.reduceAdd, Nat.reduceSub, List.replicate, List.cons_append, List.nil_append]
      rename_i x
      obtain ⟨n, s, hc, h⟩ := h
      by_cases h1 : ¬ x < 1 ∧ ¬ 30 < x
      · rw [if_pos h1] at h
        have h0 : ¬ x < 0 := fun h0 => h1.1 (Int32.lt_of_lt_of_le h0 (by decide))
        obtain ⟨m, hm, rfl⟩ := nI_of h0
        rw [nI_clamp hm] at h
        have key := lA_X9_campaigns hG (u := M.2 30 26) (N := t0 M) (z := (t0 M).1 30) (g := (t0 M).1 39) (h := (t0 M).1 40) (p := (t0 M).1 47) (q := (t0 M).1 48) hc hm h
        rw [show M.2 30 26 = (t0 M).2 30 26 from rfl, sw_id, jw_id] at key
        refine ab_go hG [20] 80 _ _ _ _ ?_
        simp (decide := true) only [ew_s, ew_0, Option.toList_some, Option.toList_none, List.cons_append, List.nil_append, true_and, and_true, List.length_cons, List.length_nil, Nat.reduceAdd, Nat.reduceLeDiff, Int32.reduceAdd, Int32.reduceSub, Int32.reduceMul, Int32.reduceLT, Int32.reduceLE, Int32.reduceToNatClampNeg, ↓reduceIte, and_self, si_1, si_2, sl_1, sl_2, false_and, and_false, dX9_campaigns_0, dX9_campaigns_1, dX9_campaigns_2, dX9_campaigns_5, dX9_campaigns_6, dX9_campaigns_7, dX9_campaigns_8, dX9_campaigns_11, dX9_campaigns_14, dX9_campaigns_17, dX9_campaigns_19, dX9_campaigns_20, dX9_campaigns_21, dX9_campaigns_24, dX9_campaigns_25, dX9_campaigns_26, dX9_campaigns_27, dX9_campaigns_28, dX9_campaigns_29, dX9_campaigns_30, dX9_campaigns_33, dX9_campaigns_34, dX9_campaigns_35, dX9_campaigns_38, dX9_campaigns_41, dX9_campaigns_42, dX9_campaigns_45, dX9_campaigns_46, dX9_campaigns_49, dX9_campaigns_50, dX9_campaigns_53, dX9_campaigns_55, dX9_campaigns_56, dX9_campaigns_59, dX9_campaigns_60, dX9_campaigns_61, dX9_campaigns_63, dX9_campaigns_64, dX9_campaigns_66, dX9_campaigns_67, dX9_campaigns_70, dX9_campaigns_73, dX9_campaigns_75, dX9_campaigns_76, dX9_campaigns_79, dX9_campaigns_81, dX9_campaigns_83, dX9_campaigns_86, dX9_campaigns_89, dX9_campaigns_91, dX9_campaigns_92, dX9_campaigns_95, dX9_campaigns_97, dX9_campaigns_99, dX9_campaigns_102, dX9_campaigns_104, dX9_campaigns_107, dX9_campaigns_108, dX9_campaigns_111, dX9_campaigns_112, dX9_campaigns_113, dX9_campaigns_114, dX9_campaigns_117, dX9_campaigns_118, dX9_campaigns_119, dX9_campaigns_120, dX9_campaigns_121, dX9_campaigns_124, dX9_campaigns_127, dX9_campaigns_128, ca_X9_campaigns_169, ca_X9_campaigns_214, ca_X9_campaigns_72, e_aload_n0, e_calls, e_callv, e_getfield, e_i2l, e_iadd, e_iaload, e_iload4, e_iload_n1, e_iload_n2, e_iload_n3, e_ireturn, e_istore4i, e_istore4n, e_istore4r, e_istore_n2i, e_istore_n2n, e_istore_n2r, e_istore_n3i, e_istore_n3n, e_istore_n3r, e_kl_X9_194, e_kl_X9_252, e_kl_X9_254, e_kl_X9_256, e_l2i, e_ladd, e_lconst1, e_lmul, e_lrem, e_lushr, e_pop, e_putfield, ea_38, ea_39, ea_40, gf_X9_248_30, gf_X9_34_30, j_bp_10, j_bp_100, j_bp_33, j_bp_m2, j_goto_104_4, j_goto_124_m96, j_goto_76_32, j_goto_92_16, j_ic_0, j_ic_5, j_icmp_ge_30_97, j_icmp_ge_67_12, j_icmp_ge_83_12, j_icmp_ne_99_8, j_if_ne_14_6, j_ii_3_1, j_sp_200, j_sp_295, pf_X9_248_30, pf_X9_65_30, q_X9_in, wi_0, wi_lt, wi_g255, wi_g40, wi_g20, wi_g4, wi_g3, wi_g9, wi_g10, wi_g30, wi_g1, wi_l255, wi_l40, wi_l20, wi_l4, wi_l3, wi_l9, wi_l10, wi_l30, wi_l1, t0_r, ab_rn, bi_0, bi_1, ite_not]
        rw [if_pos h1]
        exact key
      · rw [if_neg h1] at h
        refine ab_go hG [20] 80 _ _ _ _ ?_
        simp (decide := true) only [ew_s, ew_0, Option.toList_some, Option.toList_none, List.cons_append, List.nil_append, true_and, and_true, List.length_cons, List.length_nil, Nat.reduceAdd, Nat.reduceLeDiff, Int32.reduceAdd, Int32.reduceSub, Int32.reduceMul, Int32.reduceLT, Int32.reduceLE, Int32.reduceToNatClampNeg, ↓reduceIte, and_self, si_1, si_2, sl_1, sl_2, false_and, and_false, dX9_campaigns_0, dX9_campaigns_1, dX9_campaigns_2, dX9_campaigns_5, dX9_campaigns_6, dX9_campaigns_7, dX9_campaigns_8, dX9_campaigns_11, dX9_campaigns_14, dX9_campaigns_17, dX9_campaigns_19, dX9_campaigns_20, dX9_campaigns_21, dX9_campaigns_24, dX9_campaigns_25, dX9_campaigns_26, dX9_campaigns_27, dX9_campaigns_28, dX9_campaigns_29, dX9_campaigns_30, dX9_campaigns_33, dX9_campaigns_34, dX9_campaigns_35, dX9_campaigns_38, dX9_campaigns_41, dX9_campaigns_42, dX9_campaigns_45, dX9_campaigns_46, dX9_campaigns_49, dX9_campaigns_50, dX9_campaigns_53, dX9_campaigns_55, dX9_campaigns_56, dX9_campaigns_59, dX9_campaigns_60, dX9_campaigns_61, dX9_campaigns_63, dX9_campaigns_64, dX9_campaigns_66, dX9_campaigns_67, dX9_campaigns_70, dX9_campaigns_73, dX9_campaigns_75, dX9_campaigns_76, dX9_campaigns_79, dX9_campaigns_81, dX9_campaigns_83, dX9_campaigns_86, dX9_campaigns_89, dX9_campaigns_91, dX9_campaigns_92, dX9_campaigns_95, dX9_campaigns_97, dX9_campaigns_99, dX9_campaigns_102, dX9_campaigns_104, dX9_campaigns_107, dX9_campaigns_108, dX9_campaigns_111, dX9_campaigns_112, dX9_campaigns_113, dX9_campaigns_114, dX9_campaigns_117, dX9_campaigns_118, dX9_campaigns_119, dX9_campaigns_120, dX9_campaigns_121, dX9_campaigns_124, dX9_campaigns_127, dX9_campaigns_128, ca_X9_campaigns_169, ca_X9_campaigns_214, ca_X9_campaigns_72, e_aload_n0, e_calls, e_callv, e_getfield, e_i2l, e_iadd, e_iaload, e_iload4, e_iload_n1, e_iload_n2, e_iload_n3, e_ireturn, e_istore4i, e_istore4n, e_istore4r, e_istore_n2i, e_istore_n2n, e_istore_n2r, e_istore_n3i, e_istore_n3n, e_istore_n3r, e_kl_X9_194, e_kl_X9_252, e_kl_X9_254, e_kl_X9_256, e_l2i, e_ladd, e_lconst1, e_lmul, e_lrem, e_lushr, e_pop, e_putfield, ea_38, ea_39, ea_40, gf_X9_248_30, gf_X9_34_30, j_bp_10, j_bp_100, j_bp_33, j_bp_m2, j_goto_104_4, j_goto_124_m96, j_goto_76_32, j_goto_92_16, j_ic_0, j_ic_5, j_icmp_ge_30_97, j_icmp_ge_67_12, j_icmp_ge_83_12, j_icmp_ne_99_8, j_if_ne_14_6, j_ii_3_1, j_sp_200, j_sp_295, pf_X9_248_30, pf_X9_65_30, q_X9_in, wi_0, wi_lt, wi_g255, wi_g40, wi_g20, wi_g4, wi_g3, wi_g9, wi_g10, wi_g30, wi_g1, wi_l255, wi_l40, wi_l20, wi_l4, wi_l3, wi_l9, wi_l10, wi_l30, wi_l1, t0_r, ab_rn, bi_0, bi_1, ite_not]
        rw [if_neg h1]
        exact h
    · exact h.elim

