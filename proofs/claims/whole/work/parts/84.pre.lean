/-! THE LAW FROM ITS ENTRY -/
/-- the places' addresses: objects and arrays, the tables, the script -/
def ad_of (qs : List Nat) (ts : List Nat) (b : Nat) : Nat → Nat := fun i => if 100 ≤ i ∧ i < 107 then ts.getD (i - 100) b else qs.getD i b
def M_0 : ab_M := (fun a => if a = 12 ∨ a = 18 ∨ a = 23 then (fun b => if b = 5 then -1 else 0) else fun _ => 0, fun a => if a = 29 then vp_updL (vp_updL (fun _ => 0) 0 (-1)) 1 (-1) else fun _ => 0)
theorem RL_0 : RLK 0 M_0 := ⟨by omega, 0, 0, fun _ => 0, fun _ => 0, fun _ => 0, fun _ => 0, 0, 0, 0, ⟨⟨by omega, by omega⟩, fun i hi => by omega, fun i hi => by omega⟩, ⟨⟨rfl, rfl, rfl⟩, fun i hi => by omega, fun i hi => by omega, fun i hi => by omega⟩, ⟨⟨rfl, rfl, rfl⟩, fun i hi => by omega, fun i hi => by omega⟩, ⟨by omega, rfl, rfl, fun i hi => by omega⟩, ⟨rfl, ⟨rfl, rfl, fun i _ => rfl⟩, ⟨0, by omega, rfl⟩, ⟨0, by omega, rfl⟩, fun i _ => ⟨0, by omega, rfl, fun _ => rfl⟩⟩, ⟨⟨by omega, rfl, rfl⟩, fun j hj => by omega⟩, fun c hc => Or.inl (by
  rcases (show c = 0 ∨ c = 1 by omega) with rfl | rfl
  · exact ⟨rfl, rfl⟩
  · exact ⟨rfl, rfl⟩), ⟨⟨by omega, rfl, rfl⟩, fun i hi => by omega⟩, rfl⟩
set_option maxHeartbeats 4000000 in
set_option maxRecDepth 100000 in
theorem wl_0 (ad : Nat → Nat) (cA : Nat → ClassId) : ab_wl ad cA M_0 = [((ad 0), .inr (8, [.ref (ad 1), .ref (ad 3), .ref (ad 8), .ref (ad 12), .ref (ad 14), .ref (ad 16), .ref (ad 20), .ref (ad 25), .ref (ad 29), .long 0])), ((ad 1), .inr (5, [.ref (ad 2), .int 0])), ((ad 2), .inl ((cA 2), 48, .inl (fun _ => 0))), ((ad 3), .inr (4, [.ref (ad 4), .ref (ad 5), .ref (ad 6), .ref (ad 7), .int 0, .int 0])), ((ad 4), .inl ((cA 4), 8, .inl (fun _ => 0))), ((ad 5), .inl ((cA 5), 8, .inl (fun _ => 0))), ((ad 6), .inl ((cA 6), 8, .inl (fun _ => 0))), ((ad 7), .inl ((cA 7), 72, .inl (fun _ => 0))), ((ad 8), .inr (7, [.ref (ad 9), .ref (ad 10), .ref (ad 11), .int 0])), ((ad 9), .inl ((cA 9), 5, .inl (fun _ => 0))), ((ad 10), .inl ((cA 10), 5, .inl (fun _ => 0))), ((ad 11), .inl ((cA 11), 5, .inl (fun _ => 0))), ((ad 12), .inr (2, [.ref (ad 3), .ref (ad 8), .ref (ad 13), .int 0, .int 0, .int (-1)])), ((ad 13), .inl ((cA 13), 5, .inl (fun _ => 0))), ((ad 14), .inr (0, [.ref (ad 15), .int 0])), ((ad 15), .inl ((cA 15), 14, .inr (.inl (fun _ => 0)))), ((ad 16), .inr (3, [.ref (ad 12), .ref (ad 18), .ref (ad 17)])), ((ad 17), .inl ((cA 17), 4, .inl (fun _ => 0))), ((ad 18), .inr (2, [.ref (ad 3), .ref (ad 8), .ref (ad 19), .int 0, .int 0, .int (-1)])), ((ad 19), .inl ((cA 19), 5, .inl (fun _ => 0))), ((ad 20), .inr (1, [.ref (ad 12), .ref (ad 23), .ref (ad 21), .ref (ad 22)])), ((ad 21), .inl ((cA 21), 4, .inl (fun _ => 0))), ((ad 22), .inl ((cA 22), 4, .inl (fun _ => 0))), ((ad 23), .inr (2, [.ref (ad 3), .ref (ad 8), .ref (ad 24), .int 0, .int 0, .int (-1)])), ((ad 24), .inl ((cA 24), 5, .inl (fun _ => 0))), ((ad 25), .inr (6, [.ref (ad 26), .ref (ad 27), .ref (ad 28), .int 0])), ((ad 26), .inl ((cA 26), 6, .inl (fun _ => 0))), ((ad 27), .inl ((cA 27), 6, .inl (fun _ => 0))), ((ad 28), .inl ((cA 28), 6, .inl (fun _ => 0))), ((ad 29), .inl ((cA 29), 2, .inr (.inl (vp_updL (vp_updL (fun _ => 0) 0 (-1)) 1 (-1))))), ((ad 30), .inr (9, [.int 0, .ref (ad 31), .int 0, .int 0, .int 0, .ref (ad 32), .ref (ad 33), .int 0, .ref (ad 34), .ref (ad 35), .int 0, .int 0, .ref (ad 36), .int 0, .ref (ad 37), .ref (ad 38), .ref (ad 39), .ref (ad 40), .ref (ad 41), .int 0, .ref (ad 42), .ref (ad 43), .int 0, .ref (ad 44), .ref (ad 45), .ref (ad 46), .long 0, .int 0, .int 0, .int 0, .int 0, .int 0, .int 0, .ref (ad 47), .ref (ad 48), .int 0])), ((ad 31), .inl ((cA 31), 48, .inl (fun _ => 0))), ((ad 32), .inl ((cA 32), 8, .inl (fun _ => 0))), ((ad 33), .inl ((cA 33), 8, .inl (fun _ => 0))), ((ad 34), .inl ((cA 34), 5, .inl (fun _ => 0))), ((ad 35), .inl ((cA 35), 5, .inl (fun _ => 0))), ((ad 36), .inl ((cA 36), 16, .inl (fun _ => 0))), ((ad 37), .inl ((cA 37), 15, .inl (fun _ => 0))), ((ad 38), .inl ((cA 38), 7, .inl (fun _ => 0))), ((ad 39), .inl ((cA 39), 7, .inl (fun _ => 0))), ((ad 40), .inl ((cA 40), 7, .inl (fun _ => 0))), ((ad 41), .inl ((cA 41), 98, .inl (fun _ => 0))), ((ad 42), .inl ((cA 42), 14, .inl (fun _ => 0))), ((ad 43), .inl ((cA 43), 2, .inl (fun _ => 0))), ((ad 44), .inl ((cA 44), 6, .inl (fun _ => 0))), ((ad 45), .inl ((cA 45), 6, .inl (fun _ => 0))), ((ad 46), .inl ((cA 46), 6, .inl (fun _ => 0))), ((ad 47), .inl ((cA 47), 8, .inl (fun _ => 0))), ((ad 48), .inl ((cA 48), 32, .inl (fun _ => 0)))] := by
  simp only [ab_wl, ab_sh, List.mapIdx_cons, List.mapIdx_nil, ab_ce, ab_fv, Nat.reduceAdd, Nat.zero_add]
  rfl
set_option maxHeartbeats 4000000 in
set_option maxRecDepth 100000 in
theorem cs_L {l : Launch} {L : Nat} {xs : Nat → Int32} : ∀ key n g, ab_lk (x_L L xs).2.2.1 key = some (n, g) → ab_cok l RL 7 168 key n g := (ab_cs_cons (ab_kV c_X8_write ml_L_13 v_X8_write ⟨rfl, rfl⟩ r_X8_write) (ab_cs_cons (ab_kV c_X9_write ml_L_17 v_X9_write ⟨rfl, rfl⟩ r_X9_write) (ab_cs_cons (ab_kV c_X8_wipe ml_L_18 v_X8_wipe ⟨rfl, rfl⟩ r_X8_wipe) (ab_cs_cons (ab_kV c_X9_wipe ml_L_22 v_X9_wipe ⟨rfl, rfl⟩ r_X9_wipe) (ab_cs_cons (ab_kV c_X8_fault ml_L_23 v_X8_fault ⟨rfl, rfl⟩ r_X8_fault) (ab_cs_cons (ab_kV c_X9_fault ml_L_26 v_X9_fault ⟨rfl, rfl⟩ r_X9_fault) (ab_cs_cons (ab_kV c_X8_army ml_L_27 v_X8_army ⟨rfl, rfl⟩ r_X8_army) (ab_cs_cons (ab_kV c_X9_army ml_L_30 v_X9_army ⟨rfl, rfl⟩ r_X9_army) (ab_cs_cons (ab_kV c_X8_about ml_L_31 v_X8_about ⟨rfl, rfl⟩ r_X8_about) (ab_cs_cons (ab_kV c_X9_about ml_L_34 v_X9_about ⟨rfl, rfl⟩ r_X9_about) (ab_cs_cons (ab_kV c_X8_man ml_L_35 v_X8_man ⟨rfl, rfl⟩ r_X8_man) (ab_cs_cons (ab_kV c_X9_man ml_L_39 v_X9_man ⟨rfl, rfl⟩ r_X9_man) (ab_cs_cons (ab_kV c_X8_stretch ml_L_40 v_X8_stretch ⟨rfl, rfl⟩ r_X8_stretch) (ab_cs_cons (ab_kV c_X9_stretch ml_L_43 v_X9_stretch ⟨rfl, rfl⟩ r_X9_stretch) (ab_cs_cons (ab_kV c_X8_day ml_L_44 v_X8_day ⟨rfl, rfl⟩ r_X8_day) (ab_cs_cons (ab_kV c_X9_day ml_L_47 v_X9_day ⟨rfl, rfl⟩ r_X9_day) (ab_cs_cons (ab_kV c_X8_halt ml_L_48 v_X8_halt ⟨rfl, rfl⟩ r_X8_halt) (ab_cs_cons (ab_kV c_X9_halt ml_L_51 v_X9_halt ⟨rfl, rfl⟩ r_X9_halt) (ab_cs_cons (ab_kV c_X8_gravel ml_L_52 v_X8_gravel ⟨rfl, rfl⟩ r_X8_gravel) (ab_cs_cons (ab_kV c_X9_gravel ml_L_55 v_X9_gravel ⟨rfl, rfl⟩ r_X9_gravel) (ab_cs_cons (ab_kV c_X8_pull ml_L_56 v_X8_pull ⟨rfl, rfl⟩ r_X8_pull) (ab_cs_cons (ab_kV c_X9_pull ml_L_59 v_X9_pull ⟨rfl, rfl⟩ r_X9_pull) (ab_cs_cons (ab_kV c_X8_undo ml_L_60 v_X8_undo ⟨rfl, rfl⟩ r_X8_undo) (ab_cs_cons (ab_kV c_X9_undo ml_L_63 v_X9_undo ⟨rfl, rfl⟩ r_X9_undo) (ab_cs_cons (ab_kV c_X8_later ml_L_64 v_X8_later ⟨rfl, rfl⟩ r_X8_later) (ab_cs_cons (ab_kV c_X9_later ml_L_67 v_X9_later ⟨rfl, rfl⟩ r_X9_later) (ab_cs_cons (ab_kV c_X8_comes ml_L_68 v_X8_comes ⟨rfl, rfl⟩ r_X8_comes) (ab_cs_cons (ab_kV c_X9_comes ml_L_71 v_X9_comes ⟨rfl, rfl⟩ r_X9_comes) (ab_cs_cons (ab_kV c_X8_leads ml_L_72 v_X8_leads ⟨rfl, rfl⟩ r_X8_leads) (ab_cs_cons (ab_kV c_X9_leads ml_L_75 v_X9_leads ⟨rfl, rfl⟩ r_X9_leads) (ab_cs_cons (ab_kV c_X8_cure ml_L_76 v_X8_cure ⟨rfl, rfl⟩ r_X8_cure) (ab_cs_cons (ab_kV c_X9_cure ml_L_79 v_X9_cure ⟨rfl, rfl⟩ r_X9_cure) (ab_cs_cons (ab_kV c_X8_plan ml_L_80 v_X8_plan ⟨rfl, rfl⟩ r_X8_plan) (ab_cs_cons (ab_kV c_X9_plan ml_L_83 v_X9_plan ⟨rfl, rfl⟩ r_X9_plan) (ab_cs_cons (ab_kV c_X8_judge ml_L_86 v_X8_judge ⟨rfl, rfl⟩ r_X8_judge) (ab_cs_cons (ab_kV c_X9_judge ml_L_90 v_X9_judge ⟨rfl, rfl⟩ r_X9_judge) (ab_cs_cons (ab_kV c_X8_share ml_L_91 v_X8_share ⟨rfl, rfl⟩ r_X8_share) (ab_cs_cons (ab_kV c_X9_share ml_L_95 v_X9_share ⟨rfl, rfl⟩ r_X9_share) (ab_cs_cons (ab_kV c_X8_attempt ml_L_96 v_X8_attempt ⟨rfl, rfl⟩ r_X8_attempt) (ab_cs_cons (ab_kV c_X9_attempt ml_L_100 v_X9_attempt ⟨rfl, rfl⟩ r_X9_attempt) (ab_cs_cons (ab_kV c_X8_unattempt ml_L_101 v_X8_unattempt ⟨rfl, rfl⟩ r_X8_unattempt) (ab_cs_cons (ab_kV c_X9_unattempt ml_L_104 v_X9_unattempt ⟨rfl, rfl⟩ r_X9_unattempt) (ab_cs_cons (ab_kV c_X8_paces ml_L_105 v_X8_paces ⟨rfl, rfl⟩ r_X8_paces) (ab_cs_cons (ab_kV c_X9_paces ml_L_108 v_X9_paces ⟨rfl, rfl⟩ r_X9_paces) (ab_cs_cons (ab_kV c_X8_rests ml_L_109 v_X8_rests ⟨rfl, rfl⟩ r_X8_rests) (ab_cs_cons (ab_kV c_X9_rests ml_L_112 v_X9_rests ⟨rfl, rfl⟩ r_X9_rests) (ab_cs_cons (ab_kV c_X8_thorny ml_L_113 v_X8_thorny ⟨rfl, rfl⟩ r_X8_thorny) (ab_cs_cons (ab_kV c_X9_thorny ml_L_117 v_X9_thorny ⟨rfl, rfl⟩ r_X9_thorny) (ab_cs_cons (ab_kV c_X8_seed ml_L_118 v_X8_seed ⟨rfl, rfl⟩ r_X8_seed) (ab_cs_cons (ab_kV c_X9_seed ml_L_122 v_X9_seed ⟨rfl, rfl⟩ r_X9_seed) (ab_cs_cons (ab_kV c_X8_campaigns ml_L_123 v_X8_campaigns ⟨rfl, rfl⟩ r_X8_campaigns) (ab_cs_cons (ab_kV c_X9_campaigns ml_L_126 v_X9_campaigns ⟨rfl, rfl⟩ r_X9_campaigns) (ab_cs_cons (ab_kV c_X8_keep ml_L_127 v_X8_keep ⟨rfl, rfl⟩ r_X8_keep) (ab_cs_cons (ab_kV c_X9_keep ml_L_130 v_X9_keep ⟨rfl, rfl⟩ r_X9_keep) (ab_cs_cons (ab_kV c_X8_again ml_L_131 v_X8_again ⟨rfl, rfl⟩ r_X8_again) (ab_cs_cons (ab_kV c_X9_again ml_L_134 v_X9_again ⟨rfl, rfl⟩ r_X9_again) ab_cs_nil))))))))))))))))))))))))))))))))))))))))))))))))))))))))
theorem kA_of {D : va_G} {s : State} {cA : Nat → ClassId} {c2 c4 c5 c6 c7 c9 c10 c11 c13 c15 c17 c19 c21 c22 c24 c26 c27 c28 c29 c31 c32 c33 c34 c35 c36 c37 c38 c39 c40 c41 c42 c43 c44 c45 c46 c47 c48 : ClassId} (hc : cA 2 = c2 ∧ cA 4 = c4 ∧ cA 5 = c5 ∧ cA 6 = c6 ∧ cA 7 = c7 ∧ cA 9 = c9 ∧ cA 10 = c10 ∧ cA 11 = c11 ∧ cA 13 = c13 ∧ cA 15 = c15 ∧ cA 17 = c17 ∧ cA 19 = c19 ∧ cA 21 = c21 ∧ cA 22 = c22 ∧ cA 24 = c24 ∧ cA 26 = c26 ∧ cA 27 = c27 ∧ cA 28 = c28 ∧ cA 29 = c29 ∧ cA 31 = c31 ∧ cA 32 = c32 ∧ cA 33 = c33 ∧ cA 34 = c34 ∧ cA 35 = c35 ∧ cA 36 = c36 ∧ cA 37 = c37 ∧ cA 38 = c38 ∧ cA 39 = c39 ∧ cA 40 = c40 ∧ cA 41 = c41 ∧ cA 42 = c42 ∧ cA 43 = c43 ∧ cA 44 = c44 ∧ cA 45 = c45 ∧ cA 46 = c46 ∧ cA 47 = c47 ∧ cA 48 = c48) (hK : va_K D vwCl [(c2, .int), (c4, .int), (c5, .int), (c6, .int), (c7, .int), (c9, .int), (c10, .int), (c11, .int), (c13, .int), (c15, .long), (c19, .int), (c17, .int), (c24, .int), (c21, .int), (c22, .int), (c26, .int), (c27, .int), (c28, .boolean), (c29, .long), (c31, .int), (c32, .int), (c33, .int), (c34, .int), (c35, .int), (c36, .int), (c37, .int), (c38, .int), (c39, .int), (c40, .int), (c41, .int), (c42, .int), (c43, .boolean), (c44, .int), (c45, .int), (c46, .int), (c47, .int), (c48, .int)] s) : ∀ (q : Nat) (a : FieldType × Nat), ab_sh[q]? = some (.inr a) → va_K D vwCl [(cA q, a.1)] s := by
  obtain ⟨e2, e4, e5, e6, e7, e9, e10, e11, e13, e15, e17, e19, e21, e22, e24, e26, e27, e28, e29, e31, e32, e33, e34, e35, e36, e37, e38, e39, e40, e41, e42, e43, e44, e45, e46, e47, e48⟩ := hc
  intro q a h
  match q, h with
  | 0, h => cases h
  | 1, h => cases h
  | 2, h =>
    cases h
    rw [e2]
    exact hK.sub [0] rfl
  | 3, h => cases h
  | 4, h =>
    cases h
    rw [e4]
    exact hK.sub [1] rfl
  | 5, h =>
    cases h
    rw [e5]
    exact hK.sub [2] rfl
  | 6, h =>
    cases h
    rw [e6]
    exact hK.sub [3] rfl
  | 7, h =>
    cases h
    rw [e7]
    exact hK.sub [4] rfl
  | 8, h => cases h
  | 9, h =>
    cases h
    rw [e9]
    exact hK.sub [5] rfl
  | 10, h =>
    cases h
    rw [e10]
    exact hK.sub [6] rfl
  | 11, h =>
    cases h
    rw [e11]
    exact hK.sub [7] rfl
  | 12, h => cases h
  | 13, h =>
    cases h
    rw [e13]
    exact hK.sub [8] rfl
  | 14, h => cases h
  | 15, h =>
    cases h
    rw [e15]
    exact hK.sub [9] rfl
  | 16, h => cases h
  | 17, h =>
    cases h
    rw [e17]
    exact hK.sub [11] rfl
  | 18, h => cases h
  | 19, h =>
    cases h
    rw [e19]
    exact hK.sub [10] rfl
  | 20, h => cases h
  | 21, h =>
    cases h
    rw [e21]
    exact hK.sub [13] rfl
  | 22, h =>
    cases h
    rw [e22]
    exact hK.sub [14] rfl
  | 23, h => cases h
  | 24, h =>
    cases h
    rw [e24]
    exact hK.sub [12] rfl
  | 25, h => cases h
  | 26, h =>
    cases h
    rw [e26]
    exact hK.sub [15] rfl
  | 27, h =>
    cases h
    rw [e27]
    exact hK.sub [16] rfl
  | 28, h =>
    cases h
    rw [e28]
    exact hK.sub [17] rfl
  | 29, h =>
    cases h
    rw [e29]
    exact hK.sub [18] rfl
  | 30, h => cases h
  | 31, h =>
    cases h
    rw [e31]
    exact hK.sub [19] rfl
  | 32, h =>
    cases h
    rw [e32]
    exact hK.sub [20] rfl
  | 33, h =>
    cases h
    rw [e33]
    exact hK.sub [21] rfl
  | 34, h =>
    cases h
    rw [e34]
    exact hK.sub [22] rfl
  | 35, h =>
    cases h
    rw [e35]
    exact hK.sub [23] rfl
  | 36, h =>
    cases h
    rw [e36]
    exact hK.sub [24] rfl
  | 37, h =>
    cases h
    rw [e37]
    exact hK.sub [25] rfl
  | 38, h =>
    cases h
    rw [e38]
    exact hK.sub [26] rfl
  | 39, h =>
    cases h
    rw [e39]
    exact hK.sub [27] rfl
  | 40, h =>
    cases h
    rw [e40]
    exact hK.sub [28] rfl
  | 41, h =>
    cases h
    rw [e41]
    exact hK.sub [29] rfl
  | 42, h =>
    cases h
    rw [e42]
    exact hK.sub [30] rfl
  | 43, h =>
    cases h
    rw [e43]
    exact hK.sub [31] rfl
  | 44, h =>
    cases h
    rw [e44]
    exact hK.sub [32] rfl
  | 45, h =>
    cases h
    rw [e45]
    exact hK.sub [33] rfl
  | 46, h =>
    cases h
    rw [e46]
    exact hK.sub [34] rfl
  | 47, h =>
    cases h
    rw [e47]
    exact hK.sub [35] rfl
  | 48, h =>
    cases h
    rw [e48]
    exact hK.sub [36] rfl
  | n + 49, h =>
    have h2 : ab_sh[n + 49]? = none := List.getElem?_eq_none (by show 49 ≤ n + 49; omega)
    rw [h2] at h
    cases h
