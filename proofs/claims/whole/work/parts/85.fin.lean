/-! THE LAW FROM ITS ENTRY -/
set_option maxHeartbeats 4000000 in
set_option maxRecDepth 100000 in
/-- both are made: the rest of the law -/
theorem law_fin {p : Program} {e : Env} {s : State} {m : MethodId} {below : List Frame} {meth : Method} {c : Code} (l : Launch) {b L : Nat} {xs : Nat → Int32} (hL : L ≤ 2048) (C0 : lw_At p s m meth c b L xs) {D : va_G} (hKc : ∀ (k : Nat) (q : vw_C), vwCl[k]? = some q → u_Kn s q.1 q.2.1 q.2.2 (D.1 k) (D.2 k)) {H : Heap} {locs : List Loc} {ls : Array Slot} {q0 q1 q2 q3 q4 q5 q6 q7 q8 q9 q10 q11 q12 q13 q14 q15 q16 q17 q18 q19 q20 q21 q22 q23 q24 q25 q26 q27 q28 q29 q30 q31 q32 q33 q34 q35 q36 q37 q38 q39 q40 q41 q42 q43 q44 q45 q46 q47 q48 : Nat} {c2 c4 c5 c6 c7 c9 c10 c11 c13 c15 c17 c19 c21 c22 c24 c26 c27 c28 c29 c31 c32 c33 c34 c35 c36 c37 c38 c39 c40 c41 c42 c43 c44 c45 c46 c47 c48 : ClassId} (hK : va_K D vwCl [(c2, .int), (c4, .int), (c5, .int), (c6, .int), (c7, .int), (c9, .int), (c10, .int), (c11, .int), (c13, .int), (c15, .long), (c19, .int), (c17, .int), (c24, .int), (c21, .int), (c22, .int), (c26, .int), (c27, .int), (c28, .boolean), (c29, .long), (c31, .int), (c32, .int), (c33, .int), (c34, .int), (c35, .int), (c36, .int), (c37, .int), (c38, .int), (c39, .int), (c40, .int), (c41, .int), (c42, .int), (c43, .boolean), (c44, .int), (c45, .int), (c46, .int), (c47, .int), (c48, .int)] s) (hP : va_P D vwCl [(q0, .inr (8, [.ref q1, .ref q3, .ref q8, .ref q12, .ref q14, .ref q16, .ref q20, .ref q25, .ref q29, .long 0])), (q1, .inr (5, [.ref q2, .int 0])), (q2, .inl (c2, 48, .inl (fun _ => 0))), (q3, .inr (4, [.ref q4, .ref q5, .ref q6, .ref q7, .int 0, .int 0])), (q4, .inl (c4, 8, .inl (fun _ => 0))), (q5, .inl (c5, 8, .inl (fun _ => 0))), (q6, .inl (c6, 8, .inl (fun _ => 0))), (q7, .inl (c7, 72, .inl (fun _ => 0))), (q8, .inr (7, [.ref q9, .ref q10, .ref q11, .int 0])), (q9, .inl (c9, 5, .inl (fun _ => 0))), (q10, .inl (c10, 5, .inl (fun _ => 0))), (q11, .inl (c11, 5, .inl (fun _ => 0))), (q12, .inr (2, [.ref q3, .ref q8, .ref q13, .int 0, .int 0, .int (-1)])), (q13, .inl (c13, 5, .inl (fun _ => 0))), (q14, .inr (0, [.ref q15, .int 0])), (q15, .inl (c15, 14, .inr (.inl (fun _ => 0)))), (q16, .inr (3, [.ref q12, .ref q18, .ref q17])), (q17, .inl (c17, 4, .inl (fun _ => 0))), (q18, .inr (2, [.ref q3, .ref q8, .ref q19, .int 0, .int 0, .int (-1)])), (q19, .inl (c19, 5, .inl (fun _ => 0))), (q20, .inr (1, [.ref q12, .ref q23, .ref q21, .ref q22])), (q21, .inl (c21, 4, .inl (fun _ => 0))), (q22, .inl (c22, 4, .inl (fun _ => 0))), (q23, .inr (2, [.ref q3, .ref q8, .ref q24, .int 0, .int 0, .int (-1)])), (q24, .inl (c24, 5, .inl (fun _ => 0))), (q25, .inr (6, [.ref q26, .ref q27, .ref q28, .int 0])), (q26, .inl (c26, 6, .inl (fun _ => 0))), (q27, .inl (c27, 6, .inl (fun _ => 0))), (q28, .inl (c28, 6, .inl (fun _ => 0))), (q29, .inl (c29, 2, .inr (.inl (vp_updL (vp_updL (fun _ => 0) 0 (-1)) 1 (-1))))), (q30, .inr (9, [.int 0, .ref q31, .int 0, .int 0, .int 0, .ref q32, .ref q33, .int 0, .ref q34, .ref q35, .int 0, .int 0, .ref q36, .int 0, .ref q37, .ref q38, .ref q39, .ref q40, .ref q41, .int 0, .ref q42, .ref q43, .int 0, .ref q44, .ref q45, .ref q46, .long 0, .int 0, .int 0, .int 0, .int 0, .int 0, .int 0, .ref q47, .ref q48, .int 0])), (q31, .inl (c31, 48, .inl (fun _ => 0))), (q32, .inl (c32, 8, .inl (fun _ => 0))), (q33, .inl (c33, 8, .inl (fun _ => 0))), (q34, .inl (c34, 5, .inl (fun _ => 0))), (q35, .inl (c35, 5, .inl (fun _ => 0))), (q36, .inl (c36, 16, .inl (fun _ => 0))), (q37, .inl (c37, 15, .inl (fun _ => 0))), (q38, .inl (c38, 7, .inl (fun _ => 0))), (q39, .inl (c39, 7, .inl (fun _ => 0))), (q40, .inl (c40, 7, .inl (fun _ => 0))), (q41, .inl (c41, 98, .inl (fun _ => 0))), (q42, .inl (c42, 14, .inl (fun _ => 0))), (q43, .inl (c43, 2, .inl (fun _ => 0))), (q44, .inl (c44, 6, .inl (fun _ => 0))), (q45, .inl (c45, 6, .inl (fun _ => 0))), (q46, .inl (c46, 6, .inl (fun _ => 0))), (q47, .inl (c47, 8, .inl (fun _ => 0))), (q48, .inl (c48, 32, .inl (fun _ => 0)))] H) (hD : va_D (fun q : Nat => s.heap.size ≤ q) [(q0, .inr (8, [.ref q1, .ref q3, .ref q8, .ref q12, .ref q14, .ref q16, .ref q20, .ref q25, .ref q29, .long 0])), (q1, .inr (5, [.ref q2, .int 0])), (q2, .inl (c2, 48, .inl (fun _ => 0))), (q3, .inr (4, [.ref q4, .ref q5, .ref q6, .ref q7, .int 0, .int 0])), (q4, .inl (c4, 8, .inl (fun _ => 0))), (q5, .inl (c5, 8, .inl (fun _ => 0))), (q6, .inl (c6, 8, .inl (fun _ => 0))), (q7, .inl (c7, 72, .inl (fun _ => 0))), (q8, .inr (7, [.ref q9, .ref q10, .ref q11, .int 0])), (q9, .inl (c9, 5, .inl (fun _ => 0))), (q10, .inl (c10, 5, .inl (fun _ => 0))), (q11, .inl (c11, 5, .inl (fun _ => 0))), (q12, .inr (2, [.ref q3, .ref q8, .ref q13, .int 0, .int 0, .int (-1)])), (q13, .inl (c13, 5, .inl (fun _ => 0))), (q14, .inr (0, [.ref q15, .int 0])), (q15, .inl (c15, 14, .inr (.inl (fun _ => 0)))), (q16, .inr (3, [.ref q12, .ref q18, .ref q17])), (q17, .inl (c17, 4, .inl (fun _ => 0))), (q18, .inr (2, [.ref q3, .ref q8, .ref q19, .int 0, .int 0, .int (-1)])), (q19, .inl (c19, 5, .inl (fun _ => 0))), (q20, .inr (1, [.ref q12, .ref q23, .ref q21, .ref q22])), (q21, .inl (c21, 4, .inl (fun _ => 0))), (q22, .inl (c22, 4, .inl (fun _ => 0))), (q23, .inr (2, [.ref q3, .ref q8, .ref q24, .int 0, .int 0, .int (-1)])), (q24, .inl (c24, 5, .inl (fun _ => 0))), (q25, .inr (6, [.ref q26, .ref q27, .ref q28, .int 0])), (q26, .inl (c26, 6, .inl (fun _ => 0))), (q27, .inl (c27, 6, .inl (fun _ => 0))), (q28, .inl (c28, 6, .inl (fun _ => 0))), (q29, .inl (c29, 2, .inr (.inl (vp_updL (vp_updL (fun _ => 0) 0 (-1)) 1 (-1))))), (q30, .inr (9, [.int 0, .ref q31, .int 0, .int 0, .int 0, .ref q32, .ref q33, .int 0, .ref q34, .ref q35, .int 0, .int 0, .ref q36, .int 0, .ref q37, .ref q38, .ref q39, .ref q40, .ref q41, .int 0, .ref q42, .ref q43, .int 0, .ref q44, .ref q45, .ref q46, .long 0, .int 0, .int 0, .int 0, .int 0, .int 0, .int 0, .ref q47, .ref q48, .int 0])), (q31, .inl (c31, 48, .inl (fun _ => 0))), (q32, .inl (c32, 8, .inl (fun _ => 0))), (q33, .inl (c33, 8, .inl (fun _ => 0))), (q34, .inl (c34, 5, .inl (fun _ => 0))), (q35, .inl (c35, 5, .inl (fun _ => 0))), (q36, .inl (c36, 16, .inl (fun _ => 0))), (q37, .inl (c37, 15, .inl (fun _ => 0))), (q38, .inl (c38, 7, .inl (fun _ => 0))), (q39, .inl (c39, 7, .inl (fun _ => 0))), (q40, .inl (c40, 7, .inl (fun _ => 0))), (q41, .inl (c41, 98, .inl (fun _ => 0))), (q42, .inl (c42, 14, .inl (fun _ => 0))), (q43, .inl (c43, 2, .inl (fun _ => 0))), (q44, .inl (c44, 6, .inl (fun _ => 0))), (q45, .inl (c45, 6, .inl (fun _ => 0))), (q46, .inl (c46, 6, .inl (fun _ => 0))), (q47, .inl (c47, 8, .inl (fun _ => 0))), (q48, .inl (c48, 32, .inl (fun _ => 0)))]) (hS : va_S (fun q : Nat => s.heap.size ≤ q) s.heap H locs) (hl : lv_has ls 4 [(3, .int 0), (2, .ref q30), (1, .ref q0), (0, .ref b)]) : W p l e room_1 s m #[Value.ref b] below meth c H locs 49 607 (lw_Z below #[Value.ref b] s) (F0 m 18 ls []) := by
  obtain ⟨hx, hb, hr, hml, hown, hts0, hX, hbl, hlocks, hgv⟩ := id C0
  have htb : ∀ w ∈ ab_tb, w.before #[Value.ref b] s = true := fun w hw => hts0 w (List.mem_filter.mp hw).1
  have hts : ∀ w ∈ ab_tw, w.before #[Value.ref b] s = true := fun w hw => htb w (List.mem_filter.mp hw).1
  have hNx : ab_Nx s := ab_Nx_of htb
  have hA : ∀ q : Nat, s.heap.size ≤ q → (fun q : Nat => s.heap.size ≤ q) q := fun _ h => h
  have hA2 : ∀ a : Nat, a < s.heap.size → ¬ (fun q : Nat => s.heap.size ≤ q) a := fun a h h2 => Nat.not_le.mpr h h2
  have hbA : ¬ (fun q : Nat => s.heap.size ≤ q) b := Nat.not_le.mpr hbl
  have hs := flat_of_before _ hgv
  have hini : (Cond.initialized "LameLead").before #[Value.ref b] s = true := hts0 _ (List.mem_of_getElem? (i := 38) (by decide +kernel))
  obtain ⟨t100, ev100, hT100⟩ := va_Tof (tm := (.static "LameLead" "SLOWED_BY" "[I")) (ty := .int) (N := 4) (f := ab_tab [2, 1, 3, 2]) (A := fun q : Nat => s.heap.size ≤ q) (by decide) (hs (.arrayOf (.static "LameLead" "SLOWED_BY" "[I") .int) (by decide +kernel)) (va_eqt (z := 4) (hs (.eq (.length (.static "LameLead" "SLOWED_BY" "[I")) (.int 4)) (by decide +kernel))) (fun j hj => by
    rcases (show j = 0 ∨ j = 1 ∨ j = 2 ∨ j = 3 by omega) with rfl | rfl | rfl | rfl
    · exact va_eqt (z := 2) (hs (.eq (.elem (.static "LameLead" "SLOWED_BY" "[I") (.int 0)) (.int 2)) (by decide +kernel))
    · exact va_eqt (z := 1) (hs (.eq (.elem (.static "LameLead" "SLOWED_BY" "[I") (.int 1)) (.int 1)) (by decide +kernel))
    · exact va_eqt (z := 3) (hs (.eq (.elem (.static "LameLead" "SLOWED_BY" "[I") (.int 2)) (.int 3)) (by decide +kernel))
    · exact va_eqt (z := 2) (hs (.eq (.elem (.static "LameLead" "SLOWED_BY" "[I") (.int 3)) (.int 2)) (by decide +kernel))) hA2
  have hZ100 := va_Zref (hts0 (.laysStatic "LameLead" "SLOWED_BY" "[I") (List.mem_of_getElem? (i := 371) (by decide +kernel))) hini ev100 hA2
  obtain ⟨t101, ev101, hT101⟩ := va_Tof (tm := (.static "LameLead" "FACTORIALS" "[I")) (ty := .int) (N := 6) (f := ab_tab [1, 1, 2, 6, 24, 120]) (A := fun q : Nat => s.heap.size ≤ q) (by decide) (hs (.arrayOf (.static "LameLead" "FACTORIALS" "[I") .int) (by decide +kernel)) (va_eqt (z := 6) (hs (.eq (.length (.static "LameLead" "FACTORIALS" "[I")) (.int 6)) (by decide +kernel))) (fun j hj => by
    rcases (show j = 0 ∨ j = 1 ∨ j = 2 ∨ j = 3 ∨ j = 4 ∨ j = 5 by omega) with rfl | rfl | rfl | rfl | rfl | rfl
    · exact va_eqt (z := 1) (hs (.eq (.elem (.static "LameLead" "FACTORIALS" "[I") (.int 0)) (.int 1)) (by decide +kernel))
    · exact va_eqt (z := 1) (hs (.eq (.elem (.static "LameLead" "FACTORIALS" "[I") (.int 1)) (.int 1)) (by decide +kernel))
    · exact va_eqt (z := 2) (hs (.eq (.elem (.static "LameLead" "FACTORIALS" "[I") (.int 2)) (.int 2)) (by decide +kernel))
    · exact va_eqt (z := 6) (hs (.eq (.elem (.static "LameLead" "FACTORIALS" "[I") (.int 3)) (.int 6)) (by decide +kernel))
    · exact va_eqt (z := 24) (hs (.eq (.elem (.static "LameLead" "FACTORIALS" "[I") (.int 4)) (.int 24)) (by decide +kernel))
    · exact va_eqt (z := 120) (hs (.eq (.elem (.static "LameLead" "FACTORIALS" "[I") (.int 5)) (.int 120)) (by decide +kernel))) hA2
  have hZ101 := va_Zref (hts0 (.laysStatic "LameLead" "FACTORIALS" "[I") (List.mem_of_getElem? (i := 653) (by decide +kernel))) hini ev101 hA2
  obtain ⟨t102, ev102, hT102⟩ := va_Tof (tm := (.static "LameLead" "ROW_LIMITS" "[J")) (ty := .long) (N := 4) (f := ab_tabL [1000, 1000000, 1000000000, 1000000000000]) (A := fun q : Nat => s.heap.size ≤ q) (by decide) (hs (.arrayOf (.static "LameLead" "ROW_LIMITS" "[J") .long) (by decide +kernel)) (va_eqt (z := 4) (hs (.eq (.length (.static "LameLead" "ROW_LIMITS" "[J")) (.int 4)) (by decide +kernel))) (fun j hj => by
    rcases (show j = 0 ∨ j = 1 ∨ j = 2 ∨ j = 3 by omega) with rfl | rfl | rfl | rfl
    · exact va_eqtl (z := 1000) (hs (.eq (.elem (.static "LameLead" "ROW_LIMITS" "[J") (.int 0)) (.long 1000)) (by decide +kernel))
    · exact va_eqtl (z := 1000000) (hs (.eq (.elem (.static "LameLead" "ROW_LIMITS" "[J") (.int 1)) (.long 1000000)) (by decide +kernel))
    · exact va_eqtl (z := 1000000000) (hs (.eq (.elem (.static "LameLead" "ROW_LIMITS" "[J") (.int 2)) (.long 1000000000)) (by decide +kernel))
    · exact va_eqtl (z := 1000000000000) (hs (.eq (.elem (.static "LameLead" "ROW_LIMITS" "[J") (.int 3)) (.long 1000000000000)) (by decide +kernel))) hA2
  have hZ102 := va_Zref (hts0 (.laysStatic "LameLead" "ROW_LIMITS" "[J") (List.mem_of_getElem? (i := 627) (by decide +kernel))) hini ev102 hA2
  obtain ⟨t103, ev103, hT103⟩ := va_Tof (tm := (.static "LameLead" "STRETCH_LEAST" "[I")) (ty := .int) (N := 2) (f := ab_tab [1, 0]) (A := fun q : Nat => s.heap.size ≤ q) (by decide) (hs (.arrayOf (.static "LameLead" "STRETCH_LEAST" "[I") .int) (by decide +kernel)) (va_eqt (z := 2) (hs (.eq (.length (.static "LameLead" "STRETCH_LEAST" "[I")) (.int 2)) (by decide +kernel))) (fun j hj => by
    rcases (show j = 0 ∨ j = 1 by omega) with rfl | rfl
    · exact va_eqt (z := 1) (hs (.eq (.elem (.static "LameLead" "STRETCH_LEAST" "[I") (.int 0)) (.int 1)) (by decide +kernel))
    · exact va_eqt (z := 0) (hs (.eq (.elem (.static "LameLead" "STRETCH_LEAST" "[I") (.int 1)) (.int 0)) (by decide +kernel))) hA2
  have hZ103 := va_Zref (hts0 (.laysStatic "LameLead" "STRETCH_LEAST" "[I") (List.mem_of_getElem? (i := 275) (by decide +kernel))) hini ev103 hA2
  obtain ⟨t104, ev104, hT104⟩ := va_Tof (tm := (.static "LameLead" "STRETCH_MOST" "[I")) (ty := .int) (N := 2) (f := ab_tab [9, 3]) (A := fun q : Nat => s.heap.size ≤ q) (by decide) (hs (.arrayOf (.static "LameLead" "STRETCH_MOST" "[I") .int) (by decide +kernel)) (va_eqt (z := 2) (hs (.eq (.length (.static "LameLead" "STRETCH_MOST" "[I")) (.int 2)) (by decide +kernel))) (fun j hj => by
    rcases (show j = 0 ∨ j = 1 by omega) with rfl | rfl
    · exact va_eqt (z := 9) (hs (.eq (.elem (.static "LameLead" "STRETCH_MOST" "[I") (.int 0)) (.int 9)) (by decide +kernel))
    · exact va_eqt (z := 3) (hs (.eq (.elem (.static "LameLead" "STRETCH_MOST" "[I") (.int 1)) (.int 3)) (by decide +kernel))) hA2
  have hZ104 := va_Zref (hts0 (.laysStatic "LameLead" "STRETCH_MOST" "[I") (List.mem_of_getElem? (i := 277) (by decide +kernel))) hini ev104 hA2
  obtain ⟨t105, ev105, hT105⟩ := va_Tof (tm := (.static "LameLead" "MAN_LEAST" "[I")) (ty := .int) (N := 3) (f := ab_tab [1, 0, 0]) (A := fun q : Nat => s.heap.size ≤ q) (by decide) (hs (.arrayOf (.static "LameLead" "MAN_LEAST" "[I") .int) (by decide +kernel)) (va_eqt (z := 3) (hs (.eq (.length (.static "LameLead" "MAN_LEAST" "[I")) (.int 3)) (by decide +kernel))) (fun j hj => by
    rcases (show j = 0 ∨ j = 1 ∨ j = 2 by omega) with rfl | rfl | rfl
    · exact va_eqt (z := 1) (hs (.eq (.elem (.static "LameLead" "MAN_LEAST" "[I") (.int 0)) (.int 1)) (by decide +kernel))
    · exact va_eqt (z := 0) (hs (.eq (.elem (.static "LameLead" "MAN_LEAST" "[I") (.int 1)) (.int 0)) (by decide +kernel))
    · exact va_eqt (z := 0) (hs (.eq (.elem (.static "LameLead" "MAN_LEAST" "[I") (.int 2)) (.int 0)) (by decide +kernel))) hA2
  have hZ105 := va_Zref (hts0 (.laysStatic "LameLead" "MAN_LEAST" "[I") (List.mem_of_getElem? (i := 287) (by decide +kernel))) hini ev105 hA2
  obtain ⟨t106, ev106, hT106⟩ := va_Tof (tm := (.static "LameLead" "MAN_MOST" "[I")) (ty := .int) (N := 3) (f := ab_tab [9, 3, 9]) (A := fun q : Nat => s.heap.size ≤ q) (by decide) (hs (.arrayOf (.static "LameLead" "MAN_MOST" "[I") .int) (by decide +kernel)) (va_eqt (z := 3) (hs (.eq (.length (.static "LameLead" "MAN_MOST" "[I")) (.int 3)) (by decide +kernel))) (fun j hj => by
    rcases (show j = 0 ∨ j = 1 ∨ j = 2 by omega) with rfl | rfl | rfl
    · exact va_eqt (z := 9) (hs (.eq (.elem (.static "LameLead" "MAN_MOST" "[I") (.int 0)) (.int 9)) (by decide +kernel))
    · exact va_eqt (z := 3) (hs (.eq (.elem (.static "LameLead" "MAN_MOST" "[I") (.int 1)) (.int 3)) (by decide +kernel))
    · exact va_eqt (z := 9) (hs (.eq (.elem (.static "LameLead" "MAN_MOST" "[I") (.int 2)) (.int 9)) (by decide +kernel))) hA2
  have hZ106 := va_Zref (hts0 (.laysStatic "LameLead" "MAN_MOST" "[I") (List.mem_of_getElem? (i := 289) (by decide +kernel))) hini ev106 hA2
  obtain ⟨cA, f2, f4, f5, f6, f7, f9, f10, f11, f13, f15, f17, f19, f21, f22, f24, f26, f27, f28, f29, f31, f32, f33, f34, f35, f36, f37, f38, f39, f40, f41, f42, f43, f44, f45, f46, f47, f48⟩ : ∃ cA : Nat → ClassId, cA 2 = c2 ∧ cA 4 = c4 ∧ cA 5 = c5 ∧ cA 6 = c6 ∧ cA 7 = c7 ∧ cA 9 = c9 ∧ cA 10 = c10 ∧ cA 11 = c11 ∧ cA 13 = c13 ∧ cA 15 = c15 ∧ cA 17 = c17 ∧ cA 19 = c19 ∧ cA 21 = c21 ∧ cA 22 = c22 ∧ cA 24 = c24 ∧ cA 26 = c26 ∧ cA 27 = c27 ∧ cA 28 = c28 ∧ cA 29 = c29 ∧ cA 31 = c31 ∧ cA 32 = c32 ∧ cA 33 = c33 ∧ cA 34 = c34 ∧ cA 35 = c35 ∧ cA 36 = c36 ∧ cA 37 = c37 ∧ cA 38 = c38 ∧ cA 39 = c39 ∧ cA 40 = c40 ∧ cA 41 = c41 ∧ cA 42 = c42 ∧ cA 43 = c43 ∧ cA 44 = c44 ∧ cA 45 = c45 ∧ cA 46 = c46 ∧ cA 47 = c47 ∧ cA 48 = c48 := ⟨(fun i => [0, 0, c2, 0, c4, c5, c6, c7, 0, c9, c10, c11, 0, c13, 0, c15, 0, c17, 0, c19, 0, c21, c22, 0, c24, 0, c26, c27, c28, c29, 0, c31, c32, c33, c34, c35, c36, c37, c38, c39, c40, c41, c42, c43, c44, c45, c46, c47, c48].getD i 0), rfl, rfl, rfl, rfl, rfl, rfl, rfl, rfl, rfl, rfl, rfl, rfl, rfl, rfl, rfl, rfl, rfl, rfl, rfl, rfl, rfl, rfl, rfl, rfl, rfl, rfl, rfl, rfl, rfl, rfl, rfl, rfl, rfl, rfl, rfl, rfl, rfl⟩
  have hkA := kA_of (cA := cA) (s := s) ⟨f2, f4, f5, f6, f7, f9, f10, f11, f13, f15, f17, f19, f21, f22, f24, f26, f27, f28, f29, f31, f32, f33, f34, f35, f36, f37, f38, f39, f40, f41, f42, f43, f44, f45, f46, f47, f48⟩ hK
  obtain ⟨ad, d0, d1, d2, d3, d4, d5, d6, d7, d8, d9, d10, d11, d12, d13, d14, d15, d16, d17, d18, d19, d20, d21, d22, d23, d24, d25, d26, d27, d28, d29, d30, d31, d32, d33, d34, d35, d36, d37, d38, d39, d40, d41, d42, d43, d44, d45, d46, d47, d48, ad100, ad101, ad102, ad103, ad104, ad105, ad106, ad200⟩ : ∃ ad : Nat → Nat, ad 0 = q0 ∧ ad 1 = q1 ∧ ad 2 = q2 ∧ ad 3 = q3 ∧ ad 4 = q4 ∧ ad 5 = q5 ∧ ad 6 = q6 ∧ ad 7 = q7 ∧ ad 8 = q8 ∧ ad 9 = q9 ∧ ad 10 = q10 ∧ ad 11 = q11 ∧ ad 12 = q12 ∧ ad 13 = q13 ∧ ad 14 = q14 ∧ ad 15 = q15 ∧ ad 16 = q16 ∧ ad 17 = q17 ∧ ad 18 = q18 ∧ ad 19 = q19 ∧ ad 20 = q20 ∧ ad 21 = q21 ∧ ad 22 = q22 ∧ ad 23 = q23 ∧ ad 24 = q24 ∧ ad 25 = q25 ∧ ad 26 = q26 ∧ ad 27 = q27 ∧ ad 28 = q28 ∧ ad 29 = q29 ∧ ad 30 = q30 ∧ ad 31 = q31 ∧ ad 32 = q32 ∧ ad 33 = q33 ∧ ad 34 = q34 ∧ ad 35 = q35 ∧ ad 36 = q36 ∧ ad 37 = q37 ∧ ad 38 = q38 ∧ ad 39 = q39 ∧ ad 40 = q40 ∧ ad 41 = q41 ∧ ad 42 = q42 ∧ ad 43 = q43 ∧ ad 44 = q44 ∧ ad 45 = q45 ∧ ad 46 = q46 ∧ ad 47 = q47 ∧ ad 48 = q48 ∧ ad 100 = t100 ∧ ad 101 = t101 ∧ ad 102 = t102 ∧ ad 103 = t103 ∧ ad 104 = t104 ∧ ad 105 = t105 ∧ ad 106 = t106 ∧ ad 200 = b := ⟨(ad_of [q0, q1, q2, q3, q4, q5, q6, q7, q8, q9, q10, q11, q12, q13, q14, q15, q16, q17, q18, q19, q20, q21, q22, q23, q24, q25, q26, q27, q28, q29, q30, q31, q32, q33, q34, q35, q36, q37, q38, q39, q40, q41, q42, q43, q44, q45, q46, q47, q48] [t100, t101, t102, t103, t104, t105, t106] b), rfl, rfl, rfl, rfl, rfl, rfl, rfl, rfl, rfl, rfl, rfl, rfl, rfl, rfl, rfl, rfl, rfl, rfl, rfl, rfl, rfl, rfl, rfl, rfl, rfl, rfl, rfl, rfl, rfl, rfl, rfl, rfl, rfl, rfl, rfl, rfl, rfl, rfl, rfl, rfl, rfl, rfl, rfl, rfl, rfl, rfl, rfl, rfl, rfl, rfl, rfl, rfl, rfl, rfl, rfl, rfl, rfl⟩
  subst d0 d1 d2 d3 d4 d5 d6 d7 d8 d9 d10 d11 d12 d13 d14 d15 d16 d17 d18 d19 d20 d21 d22 d23 d24 d25 d26 d27 d28 d29 d30 d31 d32 d33 d34 d35 d36 d37 d38 d39 d40 d41 d42 d43 d44 d45 d46 d47 d48
  subst f2 f4 f5 f6 f7 f9 f10 f11 f13 f15 f17 f19 f21 f22 f24 f26 f27 f28 f29 f31 f32 f33 f34 f35 f36 f37 f38 f39 f40 f41 f42 f43 f44 f45 f46 f47 f48
  have hP : va_P D vwCl (ab_wl ad cA M_0) H := by
    rw [wl_0]
    exact hP
  have hD : va_D (fun q : Nat => s.heap.size ≤ q) (ab_wl ad cA M_0) := by
    rw [wl_0]
    exact hD
  have gw : ∀ i, i < ab_sh.length → ∃ y, (ab_wl ad cA M_0)[i]? = some (ad i, y) := fun i hi => ⟨_, by rw [ab_wl_get, List.getElem?_eq_getElem hi]; rfl⟩
  have hW0 : ab_W0 D ad cA (fun q : Nat => s.heap.size ≤ q) s := by
    refine ⟨⟨hKc, fun k q h => by simp at h⟩, hkA, fun i j hi hj e => ?_, fun i hi => ?_, fun t ht => ?_⟩
    · obtain ⟨y1, h1⟩ := gw i hi
      obtain ⟨y2, h2⟩ := gw j hj
      exact hD.1 i j _ _ h1 h2 e
    · obtain ⟨y1, h1⟩ := gw i hi
      exact hD.2 i _ h1
    · simp only [ab_sts, List.mem_cons, List.not_mem_nil, or_false] at ht
      rcases ht with rfl | rfl | rfl | rfl | rfl | rfl | rfl
      · show va_Z "LameLead" "SLOWED_BY" "[I" (.ref (ad 100)) _ s s.heap ∧ va_T .int (ad 100) 4 _ _ s s.heap
        rw [ad100]
        exact ⟨hZ100, hT100⟩
      · show va_Z "LameLead" "FACTORIALS" "[I" (.ref (ad 101)) _ s s.heap ∧ va_T .int (ad 101) 6 _ _ s s.heap
        rw [ad101]
        exact ⟨hZ101, hT101⟩
      · show va_Z "LameLead" "ROW_LIMITS" "[J" (.ref (ad 102)) _ s s.heap ∧ va_T .long (ad 102) 4 _ _ s s.heap
        rw [ad102]
        exact ⟨hZ102, hT102⟩
      · show va_Z "LameLead" "STRETCH_LEAST" "[I" (.ref (ad 103)) _ s s.heap ∧ va_T .int (ad 103) 2 _ _ s s.heap
        rw [ad103]
        exact ⟨hZ103, hT103⟩
      · show va_Z "LameLead" "STRETCH_MOST" "[I" (.ref (ad 104)) _ s s.heap ∧ va_T .int (ad 104) 2 _ _ s s.heap
        rw [ad104]
        exact ⟨hZ104, hT104⟩
      · show va_Z "LameLead" "MAN_LEAST" "[I" (.ref (ad 105)) _ s s.heap ∧ va_T .int (ad 105) 3 _ _ s s.heap
        rw [ad105]
        exact ⟨hZ105, hT105⟩
      · show va_Z "LameLead" "MAN_MOST" "[I" (.ref (ad 106)) _ s s.heap ∧ va_T .int (ad 106) 3 _ _ s s.heap
        rw [ad106]
        exact ⟨hZ106, hT106⟩
  have hC : ab_C p s m #[Value.ref b] c cL_law RL D ad cA (fun q : Nat => s.heap.size ≤ q) 4 := ⟨hx, hb, hml, hown, htb, hW0⟩
  have hclo := ab_sound (l := l) (e := e) (R := room_1) (below := below) (meth := meth) (cells := 49) (slots := 607) (Q := lw_Z below #[Value.ref b] s) (X := x_L L xs) (Post := fun r _ => r = some (.int 1)) hC ab_flok_nil ko_L ab_gs_nil (fun q ty n f hq => by
      unfold ab_lk at hq
      split at hq
      · rename_i e1
        cases hq
        subst e1
        obtain ⟨scr, h1, h2, h3, h4, h5⟩ := hX
        refine ⟨⟨scr, ?_, h2, h3, by omega, by rw [h4], h5, ?_⟩, by omega, fun j => rfl⟩
        · rw [ad200]
          exact h1
        · rw [ad200]
          exact hbA
      · cases hq)
    (fun key n g hg => cs_L (l := l) (L := L) (xs := xs) key n g hg p e room_1 s m #[Value.ref b] below meth c 49 607 _ cL_law D ad cA _ 4 hC (Nat.le_of_ble_eq_true rfl) (Nat.le_of_ble_eq_true rfl) (Nat.le_of_ble_eq_true rfl) (Nat.le_of_ble_eq_true rfl))
    (fun pc M2 H2 locs2 ls2 hP2 hS2 => ⟨fun v hd hn hp => by
      cases hp
      exact va_forget hS2.2.2 (lw_ret hx hb hr hlocks hd), fun v hd h => (by cases h), fun hd h => (by cases h)⟩)
  have hlok : ab_lok ad 4 ls [some (.ref 200), some (.ref 0), some (.ref 30), some (.int (nI (4 * 0)))] := by
    refine ⟨hl.1, hl.2.1, Nat.le_refl 4, fun i v hi => ?_⟩
    match i, hi with
    | 0, hi => cases hi; show ls[0]? = some (.val (.ref (ad 200))); rw [ad200]; exact hl.2.2 (0, .ref b) (List.mem_of_getElem? (i := 3) rfl)
    | 1, hi => cases hi; show ls[1]? = some (.val (.ref (ad 0))); exact hl.2.2 (1, .ref (ad 0)) (List.mem_of_getElem? (i := 2) rfl)
    | 2, hi => cases hi; show ls[2]? = some (.val (.ref (ad 30))); exact hl.2.2 (2, .ref (ad 30)) (List.mem_of_getElem? (i := 1) rfl)
    | 3, hi => cases hi; exact hl.2.2 (3, .int 0) (List.mem_of_getElem? (i := 0) rfl)
    | n + 4, hi => simp at hi
  exact law_loop hclo hL (fun _ => rfl) 512 0 M_0 (by omega) (by omega) RL_0 H _ ls hP hS hlok
