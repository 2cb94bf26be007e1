/-! THE LAW: its loop, on the small machine -/
abbrev x_L (L : Nat) (xs : Nat → Int32) : ab_X := (some .boolean, [], [(26, 2, s_X8_write), (34, 2, s_X9_write), (36, 1, s_X8_wipe), (44, 1, s_X9_wipe), (46, 1, s_X8_fault), (52, 1, s_X9_fault), (54, 1, s_X8_army), (60, 1, s_X9_army), (62, 2, s_X8_about), (68, 2, s_X9_about), (70, 3, s_X8_man), (78, 3, s_X9_man), (80, 3, s_X8_stretch), (86, 3, s_X9_stretch), (88, 1, s_X8_day), (94, 1, s_X9_day), (96, 1, s_X8_halt), (102, 1, s_X9_halt), (104, 2, s_X8_gravel), (110, 2, s_X9_gravel), (112, 2, s_X8_pull), (118, 2, s_X9_pull), (120, 1, s_X8_undo), (126, 1, s_X9_undo), (128, 3, s_X8_later), (134, 3, s_X9_later), (136, 1, s_X8_comes), (142, 1, s_X9_comes), (144, 2, s_X8_leads), (150, 2, s_X9_leads), (152, 2, s_X8_cure), (158, 2, s_X9_cure), (160, 3, s_X8_plan), (166, 3, s_X9_plan), (172, 3, s_X8_judge), (180, 3, s_X9_judge), (182, 3, s_X8_share), (190, 3, s_X9_share), (192, 4, s_X8_attempt), (200, 4, s_X9_attempt), (202, 1, s_X8_unattempt), (208, 1, s_X9_unattempt), (210, 2, s_X8_paces), (216, 2, s_X9_paces), (218, 4, s_X8_rests), (224, 4, s_X9_rests), (226, 4, s_X8_thorny), (234, 4, s_X9_thorny), (236, 2, s_X8_seed), (244, 2, s_X9_seed), (246, 2, s_X8_campaigns), (252, 2, s_X9_campaigns), (254, 2, s_X8_keep), (260, 2, s_X9_keep), (262, 2, s_X8_again), (268, 2, s_X9_again)], kl_L, [], [(200, .int, L, fun k => .int (xs k))])
theorem ca_L_13 {L : Nat} {xs : Nat → Int32} {v0 v1 : Value} {st : List Value} {M : ab_M} {k : List Value → ab_M → Prop} : ab_ca (x_L L xs) (2 * 13) (v1 :: v0 :: st) M k = (st.length ≤ 4 ∧ s_X8_write [v0, v1] M (fun r M' => k (r.toList ++ st) M')) := rfl
theorem ca_L_17 {L : Nat} {xs : Nat → Int32} {v0 v1 : Value} {st : List Value} {M : ab_M} {k : List Value → ab_M → Prop} : ab_ca (x_L L xs) (2 * 17) (v1 :: v0 :: st) M k = (st.length ≤ 4 ∧ s_X9_write [v0, v1] M (fun r M' => k (r.toList ++ st) M')) := rfl
theorem ca_L_18 {L : Nat} {xs : Nat → Int32} {v0 : Value} {st : List Value} {M : ab_M} {k : List Value → ab_M → Prop} : ab_ca (x_L L xs) (2 * 18) (v0 :: st) M k = (st.length ≤ 4 ∧ s_X8_wipe [v0] M (fun r M' => k (r.toList ++ st) M')) := rfl
theorem ca_L_22 {L : Nat} {xs : Nat → Int32} {v0 : Value} {st : List Value} {M : ab_M} {k : List Value → ab_M → Prop} : ab_ca (x_L L xs) (2 * 22) (v0 :: st) M k = (st.length ≤ 4 ∧ s_X9_wipe [v0] M (fun r M' => k (r.toList ++ st) M')) := rfl
theorem ca_L_23 {L : Nat} {xs : Nat → Int32} {v0 : Value} {st : List Value} {M : ab_M} {k : List Value → ab_M → Prop} : ab_ca (x_L L xs) (2 * 23) (v0 :: st) M k = (st.length ≤ 4 ∧ s_X8_fault [v0] M (fun r M' => k (r.toList ++ st) M')) := rfl
theorem ca_L_26 {L : Nat} {xs : Nat → Int32} {v0 : Value} {st : List Value} {M : ab_M} {k : List Value → ab_M → Prop} : ab_ca (x_L L xs) (2 * 26) (v0 :: st) M k = (st.length ≤ 4 ∧ s_X9_fault [v0] M (fun r M' => k (r.toList ++ st) M')) := rfl
theorem ca_L_27 {L : Nat} {xs : Nat → Int32} {v0 : Value} {st : List Value} {M : ab_M} {k : List Value → ab_M → Prop} : ab_ca (x_L L xs) (2 * 27) (v0 :: st) M k = (st.length ≤ 4 ∧ s_X8_army [v0] M (fun r M' => k (r.toList ++ st) M')) := rfl
theorem ca_L_30 {L : Nat} {xs : Nat → Int32} {v0 : Value} {st : List Value} {M : ab_M} {k : List Value → ab_M → Prop} : ab_ca (x_L L xs) (2 * 30) (v0 :: st) M k = (st.length ≤ 4 ∧ s_X9_army [v0] M (fun r M' => k (r.toList ++ st) M')) := rfl
theorem ca_L_31 {L : Nat} {xs : Nat → Int32} {v0 v1 : Value} {st : List Value} {M : ab_M} {k : List Value → ab_M → Prop} : ab_ca (x_L L xs) (2 * 31) (v1 :: v0 :: st) M k = (st.length ≤ 4 ∧ s_X8_about [v0, v1] M (fun r M' => k (r.toList ++ st) M')) := rfl
theorem ca_L_34 {L : Nat} {xs : Nat → Int32} {v0 v1 : Value} {st : List Value} {M : ab_M} {k : List Value → ab_M → Prop} : ab_ca (x_L L xs) (2 * 34) (v1 :: v0 :: st) M k = (st.length ≤ 4 ∧ s_X9_about [v0, v1] M (fun r M' => k (r.toList ++ st) M')) := rfl
theorem ca_L_35 {L : Nat} {xs : Nat → Int32} {v0 v1 v2 : Value} {st : List Value} {M : ab_M} {k : List Value → ab_M → Prop} : ab_ca (x_L L xs) (2 * 35) (v2 :: v1 :: v0 :: st) M k = (st.length ≤ 4 ∧ s_X8_man [v0, v1, v2] M (fun r M' => k (r.toList ++ st) M')) := rfl
theorem ca_L_39 {L : Nat} {xs : Nat → Int32} {v0 v1 v2 : Value} {st : List Value} {M : ab_M} {k : List Value → ab_M → Prop} : ab_ca (x_L L xs) (2 * 39) (v2 :: v1 :: v0 :: st) M k = (st.length ≤ 4 ∧ s_X9_man [v0, v1, v2] M (fun r M' => k (r.toList ++ st) M')) := rfl
theorem ca_L_40 {L : Nat} {xs : Nat → Int32} {v0 v1 v2 : Value} {st : List Value} {M : ab_M} {k : List Value → ab_M → Prop} : ab_ca (x_L L xs) (2 * 40) (v2 :: v1 :: v0 :: st) M k = (st.length ≤ 4 ∧ s_X8_stretch [v0, v1, v2] M (fun r M' => k (r.toList ++ st) M')) := rfl
theorem ca_L_43 {L : Nat} {xs : Nat → Int32} {v0 v1 v2 : Value} {st : List Value} {M : ab_M} {k : List Value → ab_M → Prop} : ab_ca (x_L L xs) (2 * 43) (v2 :: v1 :: v0 :: st) M k = (st.length ≤ 4 ∧ s_X9_stretch [v0, v1, v2] M (fun r M' => k (r.toList ++ st) M')) := rfl
theorem ca_L_44 {L : Nat} {xs : Nat → Int32} {v0 : Value} {st : List Value} {M : ab_M} {k : List Value → ab_M → Prop} : ab_ca (x_L L xs) (2 * 44) (v0 :: st) M k = (st.length ≤ 4 ∧ s_X8_day [v0] M (fun r M' => k (r.toList ++ st) M')) := rfl
theorem ca_L_47 {L : Nat} {xs : Nat → Int32} {v0 : Value} {st : List Value} {M : ab_M} {k : List Value → ab_M → Prop} : ab_ca (x_L L xs) (2 * 47) (v0 :: st) M k = (st.length ≤ 4 ∧ s_X9_day [v0] M (fun r M' => k (r.toList ++ st) M')) := rfl
theorem ca_L_48 {L : Nat} {xs : Nat → Int32} {v0 : Value} {st : List Value} {M : ab_M} {k : List Value → ab_M → Prop} : ab_ca (x_L L xs) (2 * 48) (v0 :: st) M k = (st.length ≤ 4 ∧ s_X8_halt [v0] M (fun r M' => k (r.toList ++ st) M')) := rfl
theorem ca_L_51 {L : Nat} {xs : Nat → Int32} {v0 : Value} {st : List Value} {M : ab_M} {k : List Value → ab_M → Prop} : ab_ca (x_L L xs) (2 * 51) (v0 :: st) M k = (st.length ≤ 4 ∧ s_X9_halt [v0] M (fun r M' => k (r.toList ++ st) M')) := rfl
theorem ca_L_52 {L : Nat} {xs : Nat → Int32} {v0 v1 : Value} {st : List Value} {M : ab_M} {k : List Value → ab_M → Prop} : ab_ca (x_L L xs) (2 * 52) (v1 :: v0 :: st) M k = (st.length ≤ 4 ∧ s_X8_gravel [v0, v1] M (fun r M' => k (r.toList ++ st) M')) := rfl
theorem ca_L_55 {L : Nat} {xs : Nat → Int32} {v0 v1 : Value} {st : List Value} {M : ab_M} {k : List Value → ab_M → Prop} : ab_ca (x_L L xs) (2 * 55) (v1 :: v0 :: st) M k = (st.length ≤ 4 ∧ s_X9_gravel [v0, v1] M (fun r M' => k (r.toList ++ st) M')) := rfl
theorem ca_L_56 {L : Nat} {xs : Nat → Int32} {v0 v1 : Value} {st : List Value} {M : ab_M} {k : List Value → ab_M → Prop} : ab_ca (x_L L xs) (2 * 56) (v1 :: v0 :: st) M k = (st.length ≤ 4 ∧ s_X8_pull [v0, v1] M (fun r M' => k (r.toList ++ st) M')) := rfl
theorem ca_L_59 {L : Nat} {xs : Nat → Int32} {v0 v1 : Value} {st : List Value} {M : ab_M} {k : List Value → ab_M → Prop} : ab_ca (x_L L xs) (2 * 59) (v1 :: v0 :: st) M k = (st.length ≤ 4 ∧ s_X9_pull [v0, v1] M (fun r M' => k (r.toList ++ st) M')) := rfl
theorem ca_L_60 {L : Nat} {xs : Nat → Int32} {v0 : Value} {st : List Value} {M : ab_M} {k : List Value → ab_M → Prop} : ab_ca (x_L L xs) (2 * 60) (v0 :: st) M k = (st.length ≤ 4 ∧ s_X8_undo [v0] M (fun r M' => k (r.toList ++ st) M')) := rfl
theorem ca_L_63 {L : Nat} {xs : Nat → Int32} {v0 : Value} {st : List Value} {M : ab_M} {k : List Value → ab_M → Prop} : ab_ca (x_L L xs) (2 * 63) (v0 :: st) M k = (st.length ≤ 4 ∧ s_X9_undo [v0] M (fun r M' => k (r.toList ++ st) M')) := rfl
theorem ca_L_64 {L : Nat} {xs : Nat → Int32} {v0 v1 v2 : Value} {st : List Value} {M : ab_M} {k : List Value → ab_M → Prop} : ab_ca (x_L L xs) (2 * 64) (v2 :: v1 :: v0 :: st) M k = (st.length ≤ 4 ∧ s_X8_later [v0, v1, v2] M (fun r M' => k (r.toList ++ st) M')) := rfl
theorem ca_L_67 {L : Nat} {xs : Nat → Int32} {v0 v1 v2 : Value} {st : List Value} {M : ab_M} {k : List Value → ab_M → Prop} : ab_ca (x_L L xs) (2 * 67) (v2 :: v1 :: v0 :: st) M k = (st.length ≤ 4 ∧ s_X9_later [v0, v1, v2] M (fun r M' => k (r.toList ++ st) M')) := rfl
theorem ca_L_68 {L : Nat} {xs : Nat → Int32} {v0 : Value} {st : List Value} {M : ab_M} {k : List Value → ab_M → Prop} : ab_ca (x_L L xs) (2 * 68) (v0 :: st) M k = (st.length ≤ 4 ∧ s_X8_comes [v0] M (fun r M' => k (r.toList ++ st) M')) := rfl
theorem ca_L_71 {L : Nat} {xs : Nat → Int32} {v0 : Value} {st : List Value} {M : ab_M} {k : List Value → ab_M → Prop} : ab_ca (x_L L xs) (2 * 71) (v0 :: st) M k = (st.length ≤ 4 ∧ s_X9_comes [v0] M (fun r M' => k (r.toList ++ st) M')) := rfl
theorem ca_L_72 {L : Nat} {xs : Nat → Int32} {v0 v1 : Value} {st : List Value} {M : ab_M} {k : List Value → ab_M → Prop} : ab_ca (x_L L xs) (2 * 72) (v1 :: v0 :: st) M k = (st.length ≤ 4 ∧ s_X8_leads [v0, v1] M (fun r M' => k (r.toList ++ st) M')) := rfl
theorem ca_L_75 {L : Nat} {xs : Nat → Int32} {v0 v1 : Value} {st : List Value} {M : ab_M} {k : List Value → ab_M → Prop} : ab_ca (x_L L xs) (2 * 75) (v1 :: v0 :: st) M k = (st.length ≤ 4 ∧ s_X9_leads [v0, v1] M (fun r M' => k (r.toList ++ st) M')) := rfl
theorem ca_L_76 {L : Nat} {xs : Nat → Int32} {v0 v1 : Value} {st : List Value} {M : ab_M} {k : List Value → ab_M → Prop} : ab_ca (x_L L xs) (2 * 76) (v1 :: v0 :: st) M k = (st.length ≤ 4 ∧ s_X8_cure [v0, v1] M (fun r M' => k (r.toList ++ st) M')) := rfl
theorem ca_L_79 {L : Nat} {xs : Nat → Int32} {v0 v1 : Value} {st : List Value} {M : ab_M} {k : List Value → ab_M → Prop} : ab_ca (x_L L xs) (2 * 79) (v1 :: v0 :: st) M k = (st.length ≤ 4 ∧ s_X9_cure [v0, v1] M (fun r M' => k (r.toList ++ st) M')) := rfl
theorem ca_L_80 {L : Nat} {xs : Nat → Int32} {v0 v1 v2 : Value} {st : List Value} {M : ab_M} {k : List Value → ab_M → Prop} : ab_ca (x_L L xs) (2 * 80) (v2 :: v1 :: v0 :: st) M k = (st.length ≤ 4 ∧ s_X8_plan [v0, v1, v2] M (fun r M' => k (r.toList ++ st) M')) := rfl
theorem ca_L_83 {L : Nat} {xs : Nat → Int32} {v0 v1 v2 : Value} {st : List Value} {M : ab_M} {k : List Value → ab_M → Prop} : ab_ca (x_L L xs) (2 * 83) (v2 :: v1 :: v0 :: st) M k = (st.length ≤ 4 ∧ s_X9_plan [v0, v1, v2] M (fun r M' => k (r.toList ++ st) M')) := rfl
theorem ca_L_86 {L : Nat} {xs : Nat → Int32} {v0 v1 v2 : Value} {st : List Value} {M : ab_M} {k : List Value → ab_M → Prop} : ab_ca (x_L L xs) (2 * 86) (v2 :: v1 :: v0 :: st) M k = (st.length ≤ 4 ∧ s_X8_judge [v0, v1, v2] M (fun r M' => k (r.toList ++ st) M')) := rfl
theorem ca_L_90 {L : Nat} {xs : Nat → Int32} {v0 v1 v2 : Value} {st : List Value} {M : ab_M} {k : List Value → ab_M → Prop} : ab_ca (x_L L xs) (2 * 90) (v2 :: v1 :: v0 :: st) M k = (st.length ≤ 4 ∧ s_X9_judge [v0, v1, v2] M (fun r M' => k (r.toList ++ st) M')) := rfl
theorem ca_L_91 {L : Nat} {xs : Nat → Int32} {v0 v1 v2 : Value} {st : List Value} {M : ab_M} {k : List Value → ab_M → Prop} : ab_ca (x_L L xs) (2 * 91) (v2 :: v1 :: v0 :: st) M k = (st.length ≤ 4 ∧ s_X8_share [v0, v1, v2] M (fun r M' => k (r.toList ++ st) M')) := rfl
theorem ca_L_95 {L : Nat} {xs : Nat → Int32} {v0 v1 v2 : Value} {st : List Value} {M : ab_M} {k : List Value → ab_M → Prop} : ab_ca (x_L L xs) (2 * 95) (v2 :: v1 :: v0 :: st) M k = (st.length ≤ 4 ∧ s_X9_share [v0, v1, v2] M (fun r M' => k (r.toList ++ st) M')) := rfl
theorem ca_L_96 {L : Nat} {xs : Nat → Int32} {v0 v1 v2 v3 : Value} {st : List Value} {M : ab_M} {k : List Value → ab_M → Prop} : ab_ca (x_L L xs) (2 * 96) (v3 :: v2 :: v1 :: v0 :: st) M k = (st.length ≤ 4 ∧ s_X8_attempt [v0, v1, v2, v3] M (fun r M' => k (r.toList ++ st) M')) := rfl
theorem ca_L_100 {L : Nat} {xs : Nat → Int32} {v0 v1 v2 v3 : Value} {st : List Value} {M : ab_M} {k : List Value → ab_M → Prop} : ab_ca (x_L L xs) (2 * 100) (v3 :: v2 :: v1 :: v0 :: st) M k = (st.length ≤ 4 ∧ s_X9_attempt [v0, v1, v2, v3] M (fun r M' => k (r.toList ++ st) M')) := rfl
theorem ca_L_101 {L : Nat} {xs : Nat → Int32} {v0 : Value} {st : List Value} {M : ab_M} {k : List Value → ab_M → Prop} : ab_ca (x_L L xs) (2 * 101) (v0 :: st) M k = (st.length ≤ 4 ∧ s_X8_unattempt [v0] M (fun r M' => k (r.toList ++ st) M')) := rfl
theorem ca_L_104 {L : Nat} {xs : Nat → Int32} {v0 : Value} {st : List Value} {M : ab_M} {k : List Value → ab_M → Prop} : ab_ca (x_L L xs) (2 * 104) (v0 :: st) M k = (st.length ≤ 4 ∧ s_X9_unattempt [v0] M (fun r M' => k (r.toList ++ st) M')) := rfl
theorem ca_L_105 {L : Nat} {xs : Nat → Int32} {v0 v1 : Value} {st : List Value} {M : ab_M} {k : List Value → ab_M → Prop} : ab_ca (x_L L xs) (2 * 105) (v1 :: v0 :: st) M k = (st.length ≤ 4 ∧ s_X8_paces [v0, v1] M (fun r M' => k (r.toList ++ st) M')) := rfl
theorem ca_L_108 {L : Nat} {xs : Nat → Int32} {v0 v1 : Value} {st : List Value} {M : ab_M} {k : List Value → ab_M → Prop} : ab_ca (x_L L xs) (2 * 108) (v1 :: v0 :: st) M k = (st.length ≤ 4 ∧ s_X9_paces [v0, v1] M (fun r M' => k (r.toList ++ st) M')) := rfl
theorem ca_L_109 {L : Nat} {xs : Nat → Int32} {v0 v1 v2 v3 : Value} {st : List Value} {M : ab_M} {k : List Value → ab_M → Prop} : ab_ca (x_L L xs) (2 * 109) (v3 :: v2 :: v1 :: v0 :: st) M k = (st.length ≤ 4 ∧ s_X8_rests [v0, v1, v2, v3] M (fun r M' => k (r.toList ++ st) M')) := rfl
theorem ca_L_112 {L : Nat} {xs : Nat → Int32} {v0 v1 v2 v3 : Value} {st : List Value} {M : ab_M} {k : List Value → ab_M → Prop} : ab_ca (x_L L xs) (2 * 112) (v3 :: v2 :: v1 :: v0 :: st) M k = (st.length ≤ 4 ∧ s_X9_rests [v0, v1, v2, v3] M (fun r M' => k (r.toList ++ st) M')) := rfl
theorem ca_L_113 {L : Nat} {xs : Nat → Int32} {v0 v1 v2 v3 : Value} {st : List Value} {M : ab_M} {k : List Value → ab_M → Prop} : ab_ca (x_L L xs) (2 * 113) (v3 :: v2 :: v1 :: v0 :: st) M k = (st.length ≤ 4 ∧ s_X8_thorny [v0, v1, v2, v3] M (fun r M' => k (r.toList ++ st) M')) := rfl
theorem ca_L_117 {L : Nat} {xs : Nat → Int32} {v0 v1 v2 v3 : Value} {st : List Value} {M : ab_M} {k : List Value → ab_M → Prop} : ab_ca (x_L L xs) (2 * 117) (v3 :: v2 :: v1 :: v0 :: st) M k = (st.length ≤ 4 ∧ s_X9_thorny [v0, v1, v2, v3] M (fun r M' => k (r.toList ++ st) M')) := rfl
theorem ca_L_118 {L : Nat} {xs : Nat → Int32} {v0 v1 : Value} {st : List Value} {M : ab_M} {k : List Value → ab_M → Prop} : ab_ca (x_L L xs) (2 * 118) (v1 :: v0 :: st) M k = (st.length ≤ 4 ∧ s_X8_seed [v0, v1] M (fun r M' => k (r.toList ++ st) M')) := rfl
theorem ca_L_122 {L : Nat} {xs : Nat → Int32} {v0 v1 : Value} {st : List Value} {M : ab_M} {k : List Value → ab_M → Prop} : ab_ca (x_L L xs) (2 * 122) (v1 :: v0 :: st) M k = (st.length ≤ 4 ∧ s_X9_seed [v0, v1] M (fun r M' => k (r.toList ++ st) M')) := rfl
theorem ca_L_123 {L : Nat} {xs : Nat → Int32} {v0 v1 : Value} {st : List Value} {M : ab_M} {k : List Value → ab_M → Prop} : ab_ca (x_L L xs) (2 * 123) (v1 :: v0 :: st) M k = (st.length ≤ 4 ∧ s_X8_campaigns [v0, v1] M (fun r M' => k (r.toList ++ st) M')) := rfl
theorem ca_L_126 {L : Nat} {xs : Nat → Int32} {v0 v1 : Value} {st : List Value} {M : ab_M} {k : List Value → ab_M → Prop} : ab_ca (x_L L xs) (2 * 126) (v1 :: v0 :: st) M k = (st.length ≤ 4 ∧ s_X9_campaigns [v0, v1] M (fun r M' => k (r.toList ++ st) M')) := rfl
theorem ca_L_127 {L : Nat} {xs : Nat → Int32} {v0 v1 : Value} {st : List Value} {M : ab_M} {k : List Value → ab_M → Prop} : ab_ca (x_L L xs) (2 * 127) (v1 :: v0 :: st) M k = (st.length ≤ 4 ∧ s_X8_keep [v0, v1] M (fun r M' => k (r.toList ++ st) M')) := rfl
theorem ca_L_130 {L : Nat} {xs : Nat → Int32} {v0 v1 : Value} {st : List Value} {M : ab_M} {k : List Value → ab_M → Prop} : ab_ca (x_L L xs) (2 * 130) (v1 :: v0 :: st) M k = (st.length ≤ 4 ∧ s_X9_keep [v0, v1] M (fun r M' => k (r.toList ++ st) M')) := rfl
theorem ca_L_131 {L : Nat} {xs : Nat → Int32} {v0 v1 : Value} {st : List Value} {M : ab_M} {k : List Value → ab_M → Prop} : ab_ca (x_L L xs) (2 * 131) (v1 :: v0 :: st) M k = (st.length ≤ 4 ∧ s_X8_again [v0, v1] M (fun r M' => k (r.toList ++ st) M')) := rfl
theorem ca_L_134 {L : Nat} {xs : Nat → Int32} {v0 v1 : Value} {st : List Value} {M : ab_M} {k : List Value → ab_M → Prop} : ab_ca (x_L L xs) (2 * 134) (v1 :: v0 :: st) M k = (st.length ≤ 4 ∧ s_X9_again [v0, v1] M (fun r M' => k (r.toList ++ st) M')) := rfl
theorem al_200 : ab_al 200 = none := by decide +kernel
theorem rd_L {L : Nat} {xs : Nat → Int32} (hL : L ≤ 2048) {j : Nat} (hj : j < L) : ∀ (M : ab_M) (f : Value → Prop), ab_ia (x_L L xs) M 200 (nI j) f = f (.int (xs j)) := by
  intro M f
  unfold ab_ia
  rw [al_200]
  show (FieldType.int = FieldType.int ∧ (0 ≤ nI j ∧ nI j < Int32.ofNat L) ∧ f (.int (xs (nI j).toNatClampNeg))) = _
  rw [nI_clamp (by omega)]
  exact propext ⟨fun h => h.2.2, fun h => ⟨rfl, ⟨nI_pos' (by omega), nI_lt hj (by omega)⟩, h⟩⟩
theorem ln_L {L : Nat} {xs : Nat → Int32} : ∀ f : Int32 → Prop, ab_len (x_L L xs) 200 f = f (nI L) := by
  intro f
  unfold ab_len
  rw [al_200]
  rfl
theorem lg_self (v : Int64) : lg_cmp v v = 0 := by
  unfold lg_cmp
  simp
theorem RLK_mo {k : Nat} {M : ab_M} (hk : k + 1 ≤ 1000) (h : RLK k M) : RLK (k + 1) M := by
  obtain ⟨_, n, s, ln, gd, pc, kd, z, a, t, hR⟩ := h
  exact ⟨hk, n, s, ln, gd, pc, kd, z, a, t, RQ_s SX_rf SM_rf hR.2.2.2.2.2.2.2.2 hR⟩
set_option maxRecDepth 20000 in
set_option maxHeartbeats 4000000 in
theorem lc_write {G : ab_K} {Po : ab_P} {L : Nat} {xs : Nat → Int32} (hG : ab_Clo cL_law (x_L L xs) Po G) {i k : Nat} {M : ab_M} (hi : i + 4 ≤ L) (hL : L ≤ 2048) (hk : k + 1 ≤ 1000) (hR : RLK k M) (hh : ∀ M2, RLK (k + 1) M2 → G 937 [some (.ref 200), some (.ref 0), some (.ref 30), some (.int (nI i))] [] M2) : G 160 [some (.ref 200), some (.ref 0), some (.ref 30), some (.int (nI i))] [] M := by
  have a0 := rd_L (xs := xs) hL (j := i) (by omega)
  have a1 := rd_L (xs := xs) hL (j := i + 1) (by omega)
  have a2 := rd_L (xs := xs) hL (j := i + 2) (by omega)
  have a3 := rd_L (xs := xs) hL (j := i + 3) (by omega)
  have t1 : nI i + 1 = nI (i + 1) := nI_1 i
  have t2 : nI i + 2 = nI (i + 2) := nI_add i 2
  have t3 : nI i + 3 = nI (i + 3) := nI_add i 3
  refine ab_go hG [937] 60 _ _ _ _ ?_
  simp (decide := true) only [ew_s, ew_0, Option.toList_some, Option.toList_none, List.cons_append, List.nil_append, true_and, and_true, List.length_cons, List.length_nil, Nat.reduceAdd, Nat.reduceLeDiff, Int32.reduceAdd, Int32.reduceSub, Int32.reduceMul, Int32.reduceLT, Int32.reduceLE, Int32.reduceToNatClampNeg, ↓reduceIte, and_self, si_1, si_2, sl_1, sl_2, false_and, and_false, dL_law_160, dL_law_161, dL_law_162, dL_law_163, dL_law_164, dL_law_165, dL_law_166, dL_law_169, dL_law_170, dL_law_171, dL_law_172, dL_law_173, dL_law_174, dL_law_175, dL_law_178, dL_law_181, dL_law_182, ca_L_13, ca_L_17, e_aload_n0, e_aload_n1, e_aload_n2, e_callv, e_iadd, e_iaload, e_iload_n3, e_ireturn, j_ic_0, j_ic_1, j_icmp_eq_178_759, a1, a2, a3, t1, t2, t3, lg_self, eq_self]
  refine w_write hk hR _ (fun v M1 hm => ?_)
  simp (decide := true) only [ew_s, ew_0, Option.toList_some, Option.toList_none, List.cons_append, List.nil_append, true_and, and_true, List.length_cons, List.length_nil, Nat.reduceAdd, Nat.reduceLeDiff, Int32.reduceAdd, Int32.reduceSub, Int32.reduceMul, Int32.reduceLT, Int32.reduceLE, Int32.reduceToNatClampNeg, ↓reduceIte, and_self, si_1, si_2, sl_1, sl_2, false_and, and_false, dL_law_160, dL_law_161, dL_law_162, dL_law_163, dL_law_164, dL_law_165, dL_law_166, dL_law_169, dL_law_170, dL_law_171, dL_law_172, dL_law_173, dL_law_174, dL_law_175, dL_law_178, dL_law_181, dL_law_182, ca_L_13, ca_L_17, e_aload_n0, e_aload_n1, e_aload_n2, e_callv, e_iadd, e_iaload, e_iload_n3, e_ireturn, j_ic_0, j_ic_1, j_icmp_eq_178_759, a1, a2, a3, t1, t2, t3, lg_self, eq_self]
  refine hm _ (fun M2 hR2 => ?_)
  simp (decide := true) only [ew_s, ew_0, Option.toList_some, Option.toList_none, List.cons_append, List.nil_append, true_and, and_true, List.length_cons, List.length_nil, Nat.reduceAdd, Nat.reduceLeDiff, Int32.reduceAdd, Int32.reduceSub, Int32.reduceMul, Int32.reduceLT, Int32.reduceLE, Int32.reduceToNatClampNeg, ↓reduceIte, and_self, si_1, si_2, sl_1, sl_2, false_and, and_false, dL_law_160, dL_law_161, dL_law_162, dL_law_163, dL_law_164, dL_law_165, dL_law_166, dL_law_169, dL_law_170, dL_law_171, dL_law_172, dL_law_173, dL_law_174, dL_law_175, dL_law_178, dL_law_181, dL_law_182, ca_L_13, ca_L_17, e_aload_n0, e_aload_n1, e_aload_n2, e_callv, e_iadd, e_iaload, e_iload_n3, e_ireturn, j_ic_0, j_ic_1, j_icmp_eq_178_759, a1, a2, a3, t1, t2, t3, lg_self, eq_self]
  exact hh M2 hR2

set_option maxRecDepth 20000 in
set_option maxHeartbeats 4000000 in
theorem lc_wipe {G : ab_K} {Po : ab_P} {L : Nat} {xs : Nat → Int32} (hG : ab_Clo cL_law (x_L L xs) Po G) {i k : Nat} {M : ab_M} (hi : i + 4 ≤ L) (hL : L ≤ 2048) (hk : k + 1 ≤ 1000) (hR : RLK k M) (hh : ∀ M2, RLK (k + 1) M2 → G 937 [some (.ref 200), some (.ref 0), some (.ref 30), some (.int (nI i))] [] M2) : G 183 [some (.ref 200), some (.ref 0), some (.ref 30), some (.int (nI i))] [] M := by
  have a0 := rd_L (xs := xs) hL (j := i) (by omega)
  have a1 := rd_L (xs := xs) hL (j := i + 1) (by omega)
  have a2 := rd_L (xs := xs) hL (j := i + 2) (by omega)
  have a3 := rd_L (xs := xs) hL (j := i + 3) (by omega)
  have t1 : nI i + 1 = nI (i + 1) := nI_1 i
  have t2 : nI i + 2 = nI (i + 2) := nI_add i 2
  have t3 : nI i + 3 = nI (i + 3) := nI_add i 3
  refine ab_go hG [937] 60 _ _ _ _ ?_
  simp (decide := true) only [ew_s, ew_0, Option.toList_some, Option.toList_none, List.cons_append, List.nil_append, true_and, and_true, List.length_cons, List.length_nil, Nat.reduceAdd, Nat.reduceLeDiff, Int32.reduceAdd, Int32.reduceSub, Int32.reduceMul, Int32.reduceLT, Int32.reduceLE, Int32.reduceToNatClampNeg, ↓reduceIte, and_self, si_1, si_2, sl_1, sl_2, false_and, and_false, dL_law_183, dL_law_184, dL_law_187, dL_law_188, dL_law_191, dL_law_194, dL_law_195, ca_L_18, ca_L_22, e_aload_n1, e_aload_n2, e_callv, e_ireturn, j_ic_0, j_icmp_eq_191_746, a1, a2, a3, t1, t2, t3, lg_self, eq_self]
  refine w_wipe hk hR _ (fun v M1 hm => ?_)
  simp (decide := true) only [ew_s, ew_0, Option.toList_some, Option.toList_none, List.cons_append, List.nil_append, true_and, and_true, List.length_cons, List.length_nil, Nat.reduceAdd, Nat.reduceLeDiff, Int32.reduceAdd, Int32.reduceSub, Int32.reduceMul, Int32.reduceLT, Int32.reduceLE, Int32.reduceToNatClampNeg, ↓reduceIte, and_self, si_1, si_2, sl_1, sl_2, false_and, and_false, dL_law_183, dL_law_184, dL_law_187, dL_law_188, dL_law_191, dL_law_194, dL_law_195, ca_L_18, ca_L_22, e_aload_n1, e_aload_n2, e_callv, e_ireturn, j_ic_0, j_icmp_eq_191_746, a1, a2, a3, t1, t2, t3, lg_self, eq_self]
  refine hm _ (fun M2 hR2 => ?_)
  simp (decide := true) only [ew_s, ew_0, Option.toList_some, Option.toList_none, List.cons_append, List.nil_append, true_and, and_true, List.length_cons, List.length_nil, Nat.reduceAdd, Nat.reduceLeDiff, Int32.reduceAdd, Int32.reduceSub, Int32.reduceMul, Int32.reduceLT, Int32.reduceLE, Int32.reduceToNatClampNeg, ↓reduceIte, and_self, si_1, si_2, sl_1, sl_2, false_and, and_false, dL_law_183, dL_law_184, dL_law_187, dL_law_188, dL_law_191, dL_law_194, dL_law_195, ca_L_18, ca_L_22, e_aload_n1, e_aload_n2, e_callv, e_ireturn, j_ic_0, j_icmp_eq_191_746, a1, a2, a3, t1, t2, t3, lg_self, eq_self]
  exact hh M2 hR2

set_option maxRecDepth 20000 in
set_option maxHeartbeats 4000000 in
theorem lc_fault {G : ab_K} {Po : ab_P} {L : Nat} {xs : Nat → Int32} (hG : ab_Clo cL_law (x_L L xs) Po G) {i k : Nat} {M : ab_M} (hi : i + 4 ≤ L) (hL : L ≤ 2048) (hk : k + 1 ≤ 1000) (hR : RLK k M) (hh : ∀ M2, RLK (k + 1) M2 → G 937 [some (.ref 200), some (.ref 0), some (.ref 30), some (.int (nI i))] [] M2) : G 196 [some (.ref 200), some (.ref 0), some (.ref 30), some (.int (nI i))] [] M := by
  have a0 := rd_L (xs := xs) hL (j := i) (by omega)
  have a1 := rd_L (xs := xs) hL (j := i + 1) (by omega)
  have a2 := rd_L (xs := xs) hL (j := i + 2) (by omega)
  have a3 := rd_L (xs := xs) hL (j := i + 3) (by omega)
  have t1 : nI i + 1 = nI (i + 1) := nI_1 i
  have t2 : nI i + 2 = nI (i + 2) := nI_add i 2
  have t3 : nI i + 3 = nI (i + 3) := nI_add i 3
  refine ab_go hG [937] 60 _ _ _ _ ?_
  simp (decide := true) only [ew_s, ew_0, Option.toList_some, Option.toList_none, List.cons_append, List.nil_append, true_and, and_true, List.length_cons, List.length_nil, Nat.reduceAdd, Nat.reduceLeDiff, Int32.reduceAdd, Int32.reduceSub, Int32.reduceMul, Int32.reduceLT, Int32.reduceLE, Int32.reduceToNatClampNeg, ↓reduceIte, and_self, si_1, si_2, sl_1, sl_2, false_and, and_false, dL_law_196, dL_law_197, dL_law_200, dL_law_201, dL_law_204, dL_law_207, dL_law_208, ca_L_23, ca_L_26, e_aload_n1, e_aload_n2, e_callv, e_ireturn, j_ic_0, j_icmp_eq_204_733, a1, a2, a3, t1, t2, t3, lg_self, eq_self]
  refine w_fault hk hR _ (fun v M1 hm => ?_)
  simp (decide := true) only [ew_s, ew_0, Option.toList_some, Option.toList_none, List.cons_append, List.nil_append, true_and, and_true, List.length_cons, List.length_nil, Nat.reduceAdd, Nat.reduceLeDiff, Int32.reduceAdd, Int32.reduceSub, Int32.reduceMul, Int32.reduceLT, Int32.reduceLE, Int32.reduceToNatClampNeg, ↓reduceIte, and_self, si_1, si_2, sl_1, sl_2, false_and, and_false, dL_law_196, dL_law_197, dL_law_200, dL_law_201, dL_law_204, dL_law_207, dL_law_208, ca_L_23, ca_L_26, e_aload_n1, e_aload_n2, e_callv, e_ireturn, j_ic_0, j_icmp_eq_204_733, a1, a2, a3, t1, t2, t3, lg_self, eq_self]
  refine hm _ (fun M2 hR2 => ?_)
  simp (decide := true) only [ew_s, ew_0, Option.toList_some, Option.toList_none, List.cons_append, List.nil_append, true_and, and_true, List.length_cons, List.length_nil, Nat.reduceAdd, Nat.reduceLeDiff, Int32.reduceAdd, Int32.reduceSub, Int32.reduceMul, Int32.reduceLT, Int32.reduceLE, Int32.reduceToNatClampNeg, ↓reduceIte, and_self, si_1, si_2, sl_1, sl_2, false_and, and_false, dL_law_196, dL_law_197, dL_law_200, dL_law_201, dL_law_204, dL_law_207, dL_law_208, ca_L_23, ca_L_26, e_aload_n1, e_aload_n2, e_callv, e_ireturn, j_ic_0, j_icmp_eq_204_733, a1, a2, a3, t1, t2, t3, lg_self, eq_self]
  exact hh M2 hR2

set_option maxRecDepth 20000 in
set_option maxHeartbeats 4000000 in
theorem lc_army {G : ab_K} {Po : ab_P} {L : Nat} {xs : Nat → Int32} (hG : ab_Clo cL_law (x_L L xs) Po G) {i k : Nat} {M : ab_M} (hi : i + 4 ≤ L) (hL : L ≤ 2048) (hk : k + 1 ≤ 1000) (hR : RLK k M) (hh : ∀ M2, RLK (k + 1) M2 → G 937 [some (.ref 200), some (.ref 0), some (.ref 30), some (.int (nI i))] [] M2) : G 209 [some (.ref 200), some (.ref 0), some (.ref 30), some (.int (nI i))] [] M := by
  have a0 := rd_L (xs := xs) hL (j := i) (by omega)
  have a1 := rd_L (xs := xs) hL (j := i + 1) (by omega)
  have a2 := rd_L (xs := xs) hL (j := i + 2) (by omega)
  have a3 := rd_L (xs := xs) hL (j := i + 3) (by omega)
  have t1 : nI i + 1 = nI (i + 1) := nI_1 i
  have t2 : nI i + 2 = nI (i + 2) := nI_add i 2
  have t3 : nI i + 3 = nI (i + 3) := nI_add i 3
  refine ab_go hG [937] 60 _ _ _ _ ?_
  simp (decide := true) only [ew_s, ew_0, Option.toList_some, Option.toList_none, List.cons_append, List.nil_append, true_and, and_true, List.length_cons, List.length_nil, Nat.reduceAdd, Nat.reduceLeDiff, Int32.reduceAdd, Int32.reduceSub, Int32.reduceMul, Int32.reduceLT, Int32.reduceLE, Int32.reduceToNatClampNeg, ↓reduceIte, and_self, si_1, si_2, sl_1, sl_2, false_and, and_false, dL_law_209, dL_law_210, dL_law_213, dL_law_214, dL_law_217, dL_law_220, dL_law_221, ca_L_27, ca_L_30, e_aload_n1, e_aload_n2, e_callv, e_ireturn, j_ic_0, j_icmp_eq_217_720, a1, a2, a3, t1, t2, t3, lg_self, eq_self]
  refine w_army hk hR _ (fun v M1 hm => ?_)
  simp (decide := true) only [ew_s, ew_0, Option.toList_some, Option.toList_none, List.cons_append, List.nil_append, true_and, and_true, List.length_cons, List.length_nil, Nat.reduceAdd, Nat.reduceLeDiff, Int32.reduceAdd, Int32.reduceSub, Int32.reduceMul, Int32.reduceLT, Int32.reduceLE, Int32.reduceToNatClampNeg, ↓reduceIte, and_self, si_1, si_2, sl_1, sl_2, false_and, and_false, dL_law_209, dL_law_210, dL_law_213, dL_law_214, dL_law_217, dL_law_220, dL_law_221, ca_L_27, ca_L_30, e_aload_n1, e_aload_n2, e_callv, e_ireturn, j_ic_0, j_icmp_eq_217_720, a1, a2, a3, t1, t2, t3, lg_self, eq_self]
  refine hm _ (fun M2 hR2 => ?_)
  simp (decide := true) only [ew_s, ew_0, Option.toList_some, Option.toList_none, List.cons_append, List.nil_append, true_and, and_true, List.length_cons, List.length_nil, Nat.reduceAdd, Nat.reduceLeDiff, Int32.reduceAdd, Int32.reduceSub, Int32.reduceMul, Int32.reduceLT, Int32.reduceLE, Int32.reduceToNatClampNeg, ↓reduceIte, and_self, si_1, si_2, sl_1, sl_2, false_and, and_false, dL_law_209, dL_law_210, dL_law_213, dL_law_214, dL_law_217, dL_law_220, dL_law_221, ca_L_27, ca_L_30, e_aload_n1, e_aload_n2, e_callv, e_ireturn, j_ic_0, j_icmp_eq_217_720, a1, a2, a3, t1, t2, t3, lg_self, eq_self]
  exact hh M2 hR2

set_option maxRecDepth 20000 in
set_option maxHeartbeats 4000000 in
theorem lc_about {G : ab_K} {Po : ab_P} {L : Nat} {xs : Nat → Int32} (hG : ab_Clo cL_law (x_L L xs) Po G) {i k : Nat} {M : ab_M} (hi : i + 4 ≤ L) (hL : L ≤ 2048) (hk : k + 1 ≤ 1000) (hR : RLK k M) (hh : ∀ M2, RLK (k + 1) M2 → G 937 [some (.ref 200), some (.ref 0), some (.ref 30), some (.int (nI i))] [] M2) : G 222 [some (.ref 200), some (.ref 0), some (.ref 30), some (.int (nI i))] [] M := by
  have a0 := rd_L (xs := xs) hL (j := i) (by omega)
  have a1 := rd_L (xs := xs) hL (j := i + 1) (by omega)
  have a2 := rd_L (xs := xs) hL (j := i + 2) (by omega)
  have a3 := rd_L (xs := xs) hL (j := i + 3) (by omega)
  have t1 : nI i + 1 = nI (i + 1) := nI_1 i
  have t2 : nI i + 2 = nI (i + 2) := nI_add i 2
  have t3 : nI i + 3 = nI (i + 3) := nI_add i 3
  refine ab_go hG [937] 60 _ _ _ _ ?_
  simp (decide := true) only [ew_s, ew_0, Option.toList_some, Option.toList_none, List.cons_append, List.nil_append, true_and, and_true, List.length_cons, List.length_nil, Nat.reduceAdd, Nat.reduceLeDiff, Int32.reduceAdd, Int32.reduceSub, Int32.reduceMul, Int32.reduceLT, Int32.reduceLE, Int32.reduceToNatClampNeg, ↓reduceIte, and_self, si_1, si_2, sl_1, sl_2, false_and, and_false, dL_law_222, dL_law_223, dL_law_224, dL_law_225, dL_law_226, dL_law_227, dL_law_228, dL_law_231, dL_law_232, dL_law_233, dL_law_234, dL_law_235, dL_law_236, dL_law_237, dL_law_240, dL_law_243, dL_law_244, ca_L_31, ca_L_34, e_aload_n0, e_aload_n1, e_aload_n2, e_callv, e_iadd, e_iaload, e_iload_n3, e_ireturn, j_ic_0, j_ic_1, j_icmp_eq_240_697, a1, a2, a3, t1, t2, t3, lg_self, eq_self]
  refine w_about hk hR _ (fun v M1 hm => ?_)
  simp (decide := true) only [ew_s, ew_0, Option.toList_some, Option.toList_none, List.cons_append, List.nil_append, true_and, and_true, List.length_cons, List.length_nil, Nat.reduceAdd, Nat.reduceLeDiff, Int32.reduceAdd, Int32.reduceSub, Int32.reduceMul, Int32.reduceLT, Int32.reduceLE, Int32.reduceToNatClampNeg, ↓reduceIte, and_self, si_1, si_2, sl_1, sl_2, false_and, and_false, dL_law_222, dL_law_223, dL_law_224, dL_law_225, dL_law_226, dL_law_227, dL_law_228, dL_law_231, dL_law_232, dL_law_233, dL_law_234, dL_law_235, dL_law_236, dL_law_237, dL_law_240, dL_law_243, dL_law_244, ca_L_31, ca_L_34, e_aload_n0, e_aload_n1, e_aload_n2, e_callv, e_iadd, e_iaload, e_iload_n3, e_ireturn, j_ic_0, j_ic_1, j_icmp_eq_240_697, a1, a2, a3, t1, t2, t3, lg_self, eq_self]
  refine hm _ (fun M2 hR2 => ?_)
  simp (decide := true) only [ew_s, ew_0, Option.toList_some, Option.toList_none, List.cons_append, List.nil_append, true_and, and_true, List.length_cons, List.length_nil, Nat.reduceAdd, Nat.reduceLeDiff, Int32.reduceAdd, Int32.reduceSub, Int32.reduceMul, Int32.reduceLT, Int32.reduceLE, Int32.reduceToNatClampNeg, ↓reduceIte, and_self, si_1, si_2, sl_1, sl_2, false_and, and_false, dL_law_222, dL_law_223, dL_law_224, dL_law_225, dL_law_226, dL_law_227, dL_law_228, dL_law_231, dL_law_232, dL_law_233, dL_law_234, dL_law_235, dL_law_236, dL_law_237, dL_law_240, dL_law_243, dL_law_244, ca_L_31, ca_L_34, e_aload_n0, e_aload_n1, e_aload_n2, e_callv, e_iadd, e_iaload, e_iload_n3, e_ireturn, j_ic_0, j_ic_1, j_icmp_eq_240_697, a1, a2, a3, t1, t2, t3, lg_self, eq_self]
  exact hh M2 hR2

set_option maxRecDepth 20000 in
set_option maxHeartbeats 4000000 in
theorem lc_man {G : ab_K} {Po : ab_P} {L : Nat} {xs : Nat → Int32} (hG : ab_Clo cL_law (x_L L xs) Po G) {i k : Nat} {M : ab_M} (hi : i + 4 ≤ L) (hL : L ≤ 2048) (hk : k + 1 ≤ 1000) (hR : RLK k M) (hh : ∀ M2, RLK (k + 1) M2 → G 937 [some (.ref 200), some (.ref 0), some (.ref 30), some (.int (nI i))] [] M2) : G 245 [some (.ref 200), some (.ref 0), some (.ref 30), some (.int (nI i))] [] M := by
  have a0 := rd_L (xs := xs) hL (j := i) (by omega)
  have a1 := rd_L (xs := xs) hL (j := i + 1) (by omega)
  have a2 := rd_L (xs := xs) hL (j := i + 2) (by omega)
  have a3 := rd_L (xs := xs) hL (j := i + 3) (by omega)
  have t1 : nI i + 1 = nI (i + 1) := nI_1 i
  have t2 : nI i + 2 = nI (i + 2) := nI_add i 2
  have t3 : nI i + 3 = nI (i + 3) := nI_add i 3
  refine ab_go hG [937] 60 _ _ _ _ ?_
  simp (decide := true) only [ew_s, ew_0, Option.toList_some, Option.toList_none, List.cons_append, List.nil_append, true_and, and_true, List.length_cons, List.length_nil, Nat.reduceAdd, Nat.reduceLeDiff, Int32.reduceAdd, Int32.reduceSub, Int32.reduceMul, Int32.reduceLT, Int32.reduceLE, Int32.reduceToNatClampNeg, ↓reduceIte, and_self, si_1, si_2, sl_1, sl_2, false_and, and_false, dL_law_245, dL_law_246, dL_law_247, dL_law_248, dL_law_249, dL_law_250, dL_law_251, dL_law_252, dL_law_253, dL_law_254, dL_law_255, dL_law_256, dL_law_259, dL_law_260, dL_law_261, dL_law_262, dL_law_263, dL_law_264, dL_law_265, dL_law_266, dL_law_267, dL_law_268, dL_law_269, dL_law_270, dL_law_273, dL_law_276, dL_law_277, ca_L_35, ca_L_39, e_aload_n0, e_aload_n1, e_aload_n2, e_callv, e_iadd, e_iaload, e_iload_n3, e_ireturn, j_ic_0, j_ic_1, j_ic_2, j_icmp_eq_273_664, a1, a2, a3, t1, t2, t3, lg_self, eq_self]
  refine w_man hk hR _ (fun v M1 hm => ?_)
  simp (decide := true) only [ew_s, ew_0, Option.toList_some, Option.toList_none, List.cons_append, List.nil_append, true_and, and_true, List.length_cons, List.length_nil, Nat.reduceAdd, Nat.reduceLeDiff, Int32.reduceAdd, Int32.reduceSub, Int32.reduceMul, Int32.reduceLT, Int32.reduceLE, Int32.reduceToNatClampNeg, ↓reduceIte, and_self, si_1, si_2, sl_1, sl_2, false_and, and_false, dL_law_245, dL_law_246, dL_law_247, dL_law_248, dL_law_249, dL_law_250, dL_law_251, dL_law_252, dL_law_253, dL_law_254, dL_law_255, dL_law_256, dL_law_259, dL_law_260, dL_law_261, dL_law_262, dL_law_263, dL_law_264, dL_law_265, dL_law_266, dL_law_267, dL_law_268, dL_law_269, dL_law_270, dL_law_273, dL_law_276, dL_law_277, ca_L_35, ca_L_39, e_aload_n0, e_aload_n1, e_aload_n2, e_callv, e_iadd, e_iaload, e_iload_n3, e_ireturn, j_ic_0, j_ic_1, j_ic_2, j_icmp_eq_273_664, a1, a2, a3, t1, t2, t3, lg_self, eq_self]
  refine hm _ (fun M2 hR2 => ?_)
  simp (decide := true) only [ew_s, ew_0, Option.toList_some, Option.toList_none, List.cons_append, List.nil_append, true_and, and_true, List.length_cons, List.length_nil, Nat.reduceAdd, Nat.reduceLeDiff, Int32.reduceAdd, Int32.reduceSub, Int32.reduceMul, Int32.reduceLT, Int32.reduceLE, Int32.reduceToNatClampNeg, ↓reduceIte, and_self, si_1, si_2, sl_1, sl_2, false_and, and_false, dL_law_245, dL_law_246, dL_law_247, dL_law_248, dL_law_249, dL_law_250, dL_law_251, dL_law_252, dL_law_253, dL_law_254, dL_law_255, dL_law_256, dL_law_259, dL_law_260, dL_law_261, dL_law_262, dL_law_263, dL_law_264, dL_law_265, dL_law_266, dL_law_267, dL_law_268, dL_law_269, dL_law_270, dL_law_273, dL_law_276, dL_law_277, ca_L_35, ca_L_39, e_aload_n0, e_aload_n1, e_aload_n2, e_callv, e_iadd, e_iaload, e_iload_n3, e_ireturn, j_ic_0, j_ic_1, j_ic_2, j_icmp_eq_273_664, a1, a2, a3, t1, t2, t3, lg_self, eq_self]
  exact hh M2 hR2

set_option maxRecDepth 20000 in
set_option maxHeartbeats 4000000 in
theorem lc_stretch {G : ab_K} {Po : ab_P} {L : Nat} {xs : Nat → Int32} (hG : ab_Clo cL_law (x_L L xs) Po G) {i k : Nat} {M : ab_M} (hi : i + 4 ≤ L) (hL : L ≤ 2048) (hk : k + 1 ≤ 1000) (hR : RLK k M) (hh : ∀ M2, RLK (k + 1) M2 → G 937 [some (.ref 200), some (.ref 0), some (.ref 30), some (.int (nI i))] [] M2) : G 278 [some (.ref 200), some (.ref 0), some (.ref 30), some (.int (nI i))] [] M := by
  have a0 := rd_L (xs := xs) hL (j := i) (by omega)
  have a1 := rd_L (xs := xs) hL (j := i + 1) (by omega)
  have a2 := rd_L (xs := xs) hL (j := i + 2) (by omega)
  have a3 := rd_L (xs := xs) hL (j := i + 3) (by omega)
  have t1 : nI i + 1 = nI (i + 1) := nI_1 i
  have t2 : nI i + 2 = nI (i + 2) := nI_add i 2
  have t3 : nI i + 3 = nI (i + 3) := nI_add i 3
  refine ab_go hG [937] 60 _ _ _ _ ?_
  simp (decide := true) only [ew_s, ew_0, Option.toList_some, Option.toList_none, List.cons_append, List.nil_append, true_and, and_true, List.length_cons, List.length_nil, Nat.reduceAdd, Nat.reduceLeDiff, Int32.reduceAdd, Int32.reduceSub, Int32.reduceMul, Int32.reduceLT, Int32.reduceLE, Int32.reduceToNatClampNeg, ↓reduceIte, and_self, si_1, si_2, sl_1, sl_2, false_and, and_false, dL_law_278, dL_law_279, dL_law_280, dL_law_281, dL_law_282, dL_law_283, dL_law_284, dL_law_285, dL_law_286, dL_law_287, dL_law_288, dL_law_289, dL_law_292, dL_law_293, dL_law_294, dL_law_295, dL_law_296, dL_law_297, dL_law_298, dL_law_299, dL_law_300, dL_law_301, dL_law_302, dL_law_303, dL_law_306, dL_law_309, dL_law_310, ca_L_40, ca_L_43, e_aload_n0, e_aload_n1, e_aload_n2, e_callv, e_iadd, e_iaload, e_iload_n3, e_ireturn, j_ic_0, j_ic_1, j_ic_2, j_icmp_eq_306_631, a1, a2, a3, t1, t2, t3, lg_self, eq_self]
  refine w_stretch hk hR _ (fun v M1 hm => ?_)
  simp (decide := true) only [ew_s, ew_0, Option.toList_some, Option.toList_none, List.cons_append, List.nil_append, true_and, and_true, List.length_cons, List.length_nil, Nat.reduceAdd, Nat.reduceLeDiff, Int32.reduceAdd, Int32.reduceSub, Int32.reduceMul, Int32.reduceLT, Int32.reduceLE, Int32.reduceToNatClampNeg, ↓reduceIte, and_self, si_1, si_2, sl_1, sl_2, false_and, and_false, dL_law_278, dL_law_279, dL_law_280, dL_law_281, dL_law_282, dL_law_283, dL_law_284, dL_law_285, dL_law_286, dL_law_287, dL_law_288, dL_law_289, dL_law_292, dL_law_293, dL_law_294, dL_law_295, dL_law_296, dL_law_297, dL_law_298, dL_law_299, dL_law_300, dL_law_301, dL_law_302, dL_law_303, dL_law_306, dL_law_309, dL_law_310, ca_L_40, ca_L_43, e_aload_n0, e_aload_n1, e_aload_n2, e_callv, e_iadd, e_iaload, e_iload_n3, e_ireturn, j_ic_0, j_ic_1, j_ic_2, j_icmp_eq_306_631, a1, a2, a3, t1, t2, t3, lg_self, eq_self]
  refine hm _ (fun M2 hR2 => ?_)
  simp (decide := true) only [ew_s, ew_0, Option.toList_some, Option.toList_none, List.cons_append, List.nil_append, true_and, and_true, List.length_cons, List.length_nil, Nat.reduceAdd, Nat.reduceLeDiff, Int32.reduceAdd, Int32.reduceSub, Int32.reduceMul, Int32.reduceLT, Int32.reduceLE, Int32.reduceToNatClampNeg, ↓reduceIte, and_self, si_1, si_2, sl_1, sl_2, false_and, and_false, dL_law_278, dL_law_279, dL_law_280, dL_law_281, dL_law_282, dL_law_283, dL_law_284, dL_law_285, dL_law_286, dL_law_287, dL_law_288, dL_law_289, dL_law_292, dL_law_293, dL_law_294, dL_law_295, dL_law_296, dL_law_297, dL_law_298, dL_law_299, dL_law_300, dL_law_301, dL_law_302, dL_law_303, dL_law_306, dL_law_309, dL_law_310, ca_L_40, ca_L_43, e_aload_n0, e_aload_n1, e_aload_n2, e_callv, e_iadd, e_iaload, e_iload_n3, e_ireturn, j_ic_0, j_ic_1, j_ic_2, j_icmp_eq_306_631, a1, a2, a3, t1, t2, t3, lg_self, eq_self]
  exact hh M2 hR2

set_option maxRecDepth 20000 in
set_option maxHeartbeats 4000000 in
theorem lc_day {G : ab_K} {Po : ab_P} {L : Nat} {xs : Nat → Int32} (hG : ab_Clo cL_law (x_L L xs) Po G) {i k : Nat} {M : ab_M} (hi : i + 4 ≤ L) (hL : L ≤ 2048) (hk : k + 1 ≤ 1000) (hR : RLK k M) (hh : ∀ M2, RLK (k + 1) M2 → G 937 [some (.ref 200), some (.ref 0), some (.ref 30), some (.int (nI i))] [] M2) : G 311 [some (.ref 200), some (.ref 0), some (.ref 30), some (.int (nI i))] [] M := by
  have a0 := rd_L (xs := xs) hL (j := i) (by omega)
  have a1 := rd_L (xs := xs) hL (j := i + 1) (by omega)
  have a2 := rd_L (xs := xs) hL (j := i + 2) (by omega)
  have a3 := rd_L (xs := xs) hL (j := i + 3) (by omega)
  have t1 : nI i + 1 = nI (i + 1) := nI_1 i
  have t2 : nI i + 2 = nI (i + 2) := nI_add i 2
  have t3 : nI i + 3 = nI (i + 3) := nI_add i 3
  refine ab_go hG [937] 60 _ _ _ _ ?_
  simp (decide := true) only [ew_s, ew_0, Option.toList_some, Option.toList_none, List.cons_append, List.nil_append, true_and, and_true, List.length_cons, List.length_nil, Nat.reduceAdd, Nat.reduceLeDiff, Int32.reduceAdd, Int32.reduceSub, Int32.reduceMul, Int32.reduceLT, Int32.reduceLE, Int32.reduceToNatClampNeg, ↓reduceIte, and_self, si_1, si_2, sl_1, sl_2, false_and, and_false, dL_law_311, dL_law_312, dL_law_315, dL_law_316, dL_law_319, dL_law_322, dL_law_323, ca_L_44, ca_L_47, e_aload_n1, e_aload_n2, e_callv, e_ireturn, j_ic_0, j_icmp_eq_319_618, a1, a2, a3, t1, t2, t3, lg_self, eq_self]
  refine w_day hk hR _ (fun v M1 hm => ?_)
  simp (decide := true) only [ew_s, ew_0, Option.toList_some, Option.toList_none, List.cons_append, List.nil_append, true_and, and_true, List.length_cons, List.length_nil, Nat.reduceAdd, Nat.reduceLeDiff, Int32.reduceAdd, Int32.reduceSub, Int32.reduceMul, Int32.reduceLT, Int32.reduceLE, Int32.reduceToNatClampNeg, ↓reduceIte, and_self, si_1, si_2, sl_1, sl_2, false_and, and_false, dL_law_311, dL_law_312, dL_law_315, dL_law_316, dL_law_319, dL_law_322, dL_law_323, ca_L_44, ca_L_47, e_aload_n1, e_aload_n2, e_callv, e_ireturn, j_ic_0, j_icmp_eq_319_618, a1, a2, a3, t1, t2, t3, lg_self, eq_self]
  refine hm _ (fun M2 hR2 => ?_)
  simp (decide := true) only [ew_s, ew_0, Option.toList_some, Option.toList_none, List.cons_append, List.nil_append, true_and, and_true, List.length_cons, List.length_nil, Nat.reduceAdd, Nat.reduceLeDiff, Int32.reduceAdd, Int32.reduceSub, Int32.reduceMul, Int32.reduceLT, Int32.reduceLE, Int32.reduceToNatClampNeg, ↓reduceIte, and_self, si_1, si_2, sl_1, sl_2, false_and, and_false, dL_law_311, dL_law_312, dL_law_315, dL_law_316, dL_law_319, dL_law_322, dL_law_323, ca_L_44, ca_L_47, e_aload_n1, e_aload_n2, e_callv, e_ireturn, j_ic_0, j_icmp_eq_319_618, a1, a2, a3, t1, t2, t3, lg_self, eq_self]
  exact hh M2 hR2

set_option maxRecDepth 20000 in
set_option maxHeartbeats 4000000 in
theorem lc_halt {G : ab_K} {Po : ab_P} {L : Nat} {xs : Nat → Int32} (hG : ab_Clo cL_law (x_L L xs) Po G) {i k : Nat} {M : ab_M} (hi : i + 4 ≤ L) (hL : L ≤ 2048) (hk : k + 1 ≤ 1000) (hR : RLK k M) (hh : ∀ M2, RLK (k + 1) M2 → G 937 [some (.ref 200), some (.ref 0), some (.ref 30), some (.int (nI i))] [] M2) : G 324 [some (.ref 200), some (.ref 0), some (.ref 30), some (.int (nI i))] [] M := by
  have a0 := rd_L (xs := xs) hL (j := i) (by omega)
  have a1 := rd_L (xs := xs) hL (j := i + 1) (by omega)
  have a2 := rd_L (xs := xs) hL (j := i + 2) (by omega)
  have a3 := rd_L (xs := xs) hL (j := i + 3) (by omega)
  have t1 : nI i + 1 = nI (i + 1) := nI_1 i
  have t2 : nI i + 2 = nI (i + 2) := nI_add i 2
  have t3 : nI i + 3 = nI (i + 3) := nI_add i 3
  refine ab_go hG [937] 60 _ _ _ _ ?_
  simp (decide := true) only [ew_s, ew_0, Option.toList_some, Option.toList_none, List.cons_append, List.nil_append, true_and, and_true, List.length_cons, List.length_nil, Nat.reduceAdd, Nat.reduceLeDiff, Int32.reduceAdd, Int32.reduceSub, Int32.reduceMul, Int32.reduceLT, Int32.reduceLE, Int32.reduceToNatClampNeg, ↓reduceIte, and_self, si_1, si_2, sl_1, sl_2, false_and, and_false, dL_law_324, dL_law_325, dL_law_328, dL_law_329, dL_law_332, dL_law_335, dL_law_336, ca_L_48, ca_L_51, e_aload_n1, e_aload_n2, e_callv, e_ireturn, j_ic_0, j_icmp_eq_332_605, a1, a2, a3, t1, t2, t3, lg_self, eq_self]
  refine w_halt hk hR _ (fun v M1 hm => ?_)
  simp (decide := true) only [ew_s, ew_0, Option.toList_some, Option.toList_none, List.cons_append, List.nil_append, true_and, and_true, List.length_cons, List.length_nil, Nat.reduceAdd, Nat.reduceLeDiff, Int32.reduceAdd, Int32.reduceSub, Int32.reduceMul, Int32.reduceLT, Int32.reduceLE, Int32.reduceToNatClampNeg, ↓reduceIte, and_self, si_1, si_2, sl_1, sl_2, false_and, and_false, dL_law_324, dL_law_325, dL_law_328, dL_law_329, dL_law_332, dL_law_335, dL_law_336, ca_L_48, ca_L_51, e_aload_n1, e_aload_n2, e_callv, e_ireturn, j_ic_0, j_icmp_eq_332_605, a1, a2, a3, t1, t2, t3, lg_self, eq_self]
  refine hm _ (fun M2 hR2 => ?_)
  simp (decide := true) only [ew_s, ew_0, Option.toList_some, Option.toList_none, List.cons_append, List.nil_append, true_and, and_true, List.length_cons, List.length_nil, Nat.reduceAdd, Nat.reduceLeDiff, Int32.reduceAdd, Int32.reduceSub, Int32.reduceMul, Int32.reduceLT, Int32.reduceLE, Int32.reduceToNatClampNeg, ↓reduceIte, and_self, si_1, si_2, sl_1, sl_2, false_and, and_false, dL_law_324, dL_law_325, dL_law_328, dL_law_329, dL_law_332, dL_law_335, dL_law_336, ca_L_48, ca_L_51, e_aload_n1, e_aload_n2, e_callv, e_ireturn, j_ic_0, j_icmp_eq_332_605, a1, a2, a3, t1, t2, t3, lg_self, eq_self]
  exact hh M2 hR2

set_option maxRecDepth 20000 in
set_option maxHeartbeats 4000000 in
theorem lc_gravel {G : ab_K} {Po : ab_P} {L : Nat} {xs : Nat → Int32} (hG : ab_Clo cL_law (x_L L xs) Po G) {i k : Nat} {M : ab_M} (hi : i + 4 ≤ L) (hL : L ≤ 2048) (hk : k + 1 ≤ 1000) (hR : RLK k M) (hh : ∀ M2, RLK (k + 1) M2 → G 937 [some (.ref 200), some (.ref 0), some (.ref 30), some (.int (nI i))] [] M2) : G 337 [some (.ref 200), some (.ref 0), some (.ref 30), some (.int (nI i))] [] M := by
  have a0 := rd_L (xs := xs) hL (j := i) (by omega)
  have a1 := rd_L (xs := xs) hL (j := i + 1) (by omega)
  have a2 := rd_L (xs := xs) hL (j := i + 2) (by omega)
  have a3 := rd_L (xs := xs) hL (j := i + 3) (by omega)
  have t1 : nI i + 1 = nI (i + 1) := nI_1 i
  have t2 : nI i + 2 = nI (i + 2) := nI_add i 2
  have t3 : nI i + 3 = nI (i + 3) := nI_add i 3
  refine ab_go hG [937] 60 _ _ _ _ ?_
  simp (decide := true) only [ew_s, ew_0, Option.toList_some, Option.toList_none, List.cons_append, List.nil_append, true_and, and_true, List.length_cons, List.length_nil, Nat.reduceAdd, Nat.reduceLeDiff, Int32.reduceAdd, Int32.reduceSub, Int32.reduceMul, Int32.reduceLT, Int32.reduceLE, Int32.reduceToNatClampNeg, ↓reduceIte, and_self, si_1, si_2, sl_1, sl_2, false_and, and_false, dL_law_337, dL_law_338, dL_law_339, dL_law_340, dL_law_341, dL_law_342, dL_law_343, dL_law_346, dL_law_347, dL_law_348, dL_law_349, dL_law_350, dL_law_351, dL_law_352, dL_law_355, dL_law_358, dL_law_359, ca_L_52, ca_L_55, e_aload_n0, e_aload_n1, e_aload_n2, e_callv, e_iadd, e_iaload, e_iload_n3, e_ireturn, j_ic_0, j_ic_1, j_icmp_eq_355_582, a1, a2, a3, t1, t2, t3, lg_self, eq_self]
  refine w_gravel hk hR _ (fun v M1 hm => ?_)
  simp (decide := true) only [ew_s, ew_0, Option.toList_some, Option.toList_none, List.cons_append, List.nil_append, true_and, and_true, List.length_cons, List.length_nil, Nat.reduceAdd, Nat.reduceLeDiff, Int32.reduceAdd, Int32.reduceSub, Int32.reduceMul, Int32.reduceLT, Int32.reduceLE, Int32.reduceToNatClampNeg, ↓reduceIte, and_self, si_1, si_2, sl_1, sl_2, false_and, and_false, dL_law_337, dL_law_338, dL_law_339, dL_law_340, dL_law_341, dL_law_342, dL_law_343, dL_law_346, dL_law_347, dL_law_348, dL_law_349, dL_law_350, dL_law_351, dL_law_352, dL_law_355, dL_law_358, dL_law_359, ca_L_52, ca_L_55, e_aload_n0, e_aload_n1, e_aload_n2, e_callv, e_iadd, e_iaload, e_iload_n3, e_ireturn, j_ic_0, j_ic_1, j_icmp_eq_355_582, a1, a2, a3, t1, t2, t3, lg_self, eq_self]
  refine hm _ (fun M2 hR2 => ?_)
  simp (decide := true) only [ew_s, ew_0, Option.toList_some, Option.toList_none, List.cons_append, List.nil_append, true_and, and_true, List.length_cons, List.length_nil, Nat.reduceAdd, Nat.reduceLeDiff, Int32.reduceAdd, Int32.reduceSub, Int32.reduceMul, Int32.reduceLT, Int32.reduceLE, Int32.reduceToNatClampNeg, ↓reduceIte, and_self, si_1, si_2, sl_1, sl_2, false_and, and_false, dL_law_337, dL_law_338, dL_law_339, dL_law_340, dL_law_341, dL_law_342, dL_law_343, dL_law_346, dL_law_347, dL_law_348, dL_law_349, dL_law_350, dL_law_351, dL_law_352, dL_law_355, dL_law_358, dL_law_359, ca_L_52, ca_L_55, e_aload_n0, e_aload_n1, e_aload_n2, e_callv, e_iadd, e_iaload, e_iload_n3, e_ireturn, j_ic_0, j_ic_1, j_icmp_eq_355_582, a1, a2, a3, t1, t2, t3, lg_self, eq_self]
  exact hh M2 hR2

set_option maxRecDepth 20000 in
set_option maxHeartbeats 4000000 in
theorem lc_pull {G : ab_K} {Po : ab_P} {L : Nat} {xs : Nat → Int32} (hG : ab_Clo cL_law (x_L L xs) Po G) {i k : Nat} {M : ab_M} (hi : i + 4 ≤ L) (hL : L ≤ 2048) (hk : k + 1 ≤ 1000) (hR : RLK k M) (hh : ∀ M2, RLK (k + 1) M2 → G 937 [some (.ref 200), some (.ref 0), some (.ref 30), some (.int (nI i))] [] M2) : G 360 [some (.ref 200), some (.ref 0), some (.ref 30), some (.int (nI i))] [] M := by
  have a0 := rd_L (xs := xs) hL (j := i) (by omega)
  have a1 := rd_L (xs := xs) hL (j := i + 1) (by omega)
  have a2 := rd_L (xs := xs) hL (j := i + 2) (by omega)
  have a3 := rd_L (xs := xs) hL (j := i + 3) (by omega)
  have t1 : nI i + 1 = nI (i + 1) := nI_1 i
  have t2 : nI i + 2 = nI (i + 2) := nI_add i 2
  have t3 : nI i + 3 = nI (i + 3) := nI_add i 3
  refine ab_go hG [937] 60 _ _ _ _ ?_
  simp (decide := true) only [ew_s, ew_0, Option.toList_some, Option.toList_none, List.cons_append, List.nil_append, true_and, and_true, List.length_cons, List.length_nil, Nat.reduceAdd, Nat.reduceLeDiff, Int32.reduceAdd, Int32.reduceSub, Int32.reduceMul, Int32.reduceLT, Int32.reduceLE, Int32.reduceToNatClampNeg, ↓reduceIte, and_self, si_1, si_2, sl_1, sl_2, false_and, and_false, dL_law_360, dL_law_361, dL_law_362, dL_law_363, dL_law_364, dL_law_365, dL_law_366, dL_law_369, dL_law_370, dL_law_371, dL_law_372, dL_law_373, dL_law_374, dL_law_375, dL_law_378, dL_law_381, dL_law_382, ca_L_56, ca_L_59, e_aload_n0, e_aload_n1, e_aload_n2, e_callv, e_iadd, e_iaload, e_iload_n3, e_ireturn, j_ic_0, j_ic_1, j_icmp_eq_378_559, a1, a2, a3, t1, t2, t3, lg_self, eq_self]
  refine w_pull hk hR _ (fun v M1 hm => ?_)
  simp (decide := true) only [ew_s, ew_0, Option.toList_some, Option.toList_none, List.cons_append, List.nil_append, true_and, and_true, List.length_cons, List.length_nil, Nat.reduceAdd, Nat.reduceLeDiff, Int32.reduceAdd, Int32.reduceSub, Int32.reduceMul, Int32.reduceLT, Int32.reduceLE, Int32.reduceToNatClampNeg, ↓reduceIte, and_self, si_1, si_2, sl_1, sl_2, false_and, and_false, dL_law_360, dL_law_361, dL_law_362, dL_law_363, dL_law_364, dL_law_365, dL_law_366, dL_law_369, dL_law_370, dL_law_371, dL_law_372, dL_law_373, dL_law_374, dL_law_375, dL_law_378, dL_law_381, dL_law_382, ca_L_56, ca_L_59, e_aload_n0, e_aload_n1, e_aload_n2, e_callv, e_iadd, e_iaload, e_iload_n3, e_ireturn, j_ic_0, j_ic_1, j_icmp_eq_378_559, a1, a2, a3, t1, t2, t3, lg_self, eq_self]
  refine hm _ (fun M2 hR2 => ?_)
  simp (decide := true) only [ew_s, ew_0, Option.toList_some, Option.toList_none, List.cons_append, List.nil_append, true_and, and_true, List.length_cons, List.length_nil, Nat.reduceAdd, Nat.reduceLeDiff, Int32.reduceAdd, Int32.reduceSub, Int32.reduceMul, Int32.reduceLT, Int32.reduceLE, Int32.reduceToNatClampNeg, ↓reduceIte, and_self, si_1, si_2, sl_1, sl_2, false_and, and_false, dL_law_360, dL_law_361, dL_law_362, dL_law_363, dL_law_364, dL_law_365, dL_law_366, dL_law_369, dL_law_370, dL_law_371, dL_law_372, dL_law_373, dL_law_374, dL_law_375, dL_law_378, dL_law_381, dL_law_382, ca_L_56, ca_L_59, e_aload_n0, e_aload_n1, e_aload_n2, e_callv, e_iadd, e_iaload, e_iload_n3, e_ireturn, j_ic_0, j_ic_1, j_icmp_eq_378_559, a1, a2, a3, t1, t2, t3, lg_self, eq_self]
  exact hh M2 hR2

set_option maxRecDepth 20000 in
set_option maxHeartbeats 4000000 in
theorem lc_undo {G : ab_K} {Po : ab_P} {L : Nat} {xs : Nat → Int32} (hG : ab_Clo cL_law (x_L L xs) Po G) {i k : Nat} {M : ab_M} (hi : i + 4 ≤ L) (hL : L ≤ 2048) (hk : k + 1 ≤ 1000) (hR : RLK k M) (hh : ∀ M2, RLK (k + 1) M2 → G 937 [some (.ref 200), some (.ref 0), some (.ref 30), some (.int (nI i))] [] M2) : G 383 [some (.ref 200), some (.ref 0), some (.ref 30), some (.int (nI i))] [] M := by
  have a0 := rd_L (xs := xs) hL (j := i) (by omega)
  have a1 := rd_L (xs := xs) hL (j := i + 1) (by omega)
  have a2 := rd_L (xs := xs) hL (j := i + 2) (by omega)
  have a3 := rd_L (xs := xs) hL (j := i + 3) (by omega)
  have t1 : nI i + 1 = nI (i + 1) := nI_1 i
  have t2 : nI i + 2 = nI (i + 2) := nI_add i 2
  have t3 : nI i + 3 = nI (i + 3) := nI_add i 3
  refine ab_go hG [937] 60 _ _ _ _ ?_
  simp (decide := true) only [ew_s, ew_0, Option.toList_some, Option.toList_none, List.cons_append, List.nil_append, true_and, and_true, List.length_cons, List.length_nil, Nat.reduceAdd, Nat.reduceLeDiff, Int32.reduceAdd, Int32.reduceSub, Int32.reduceMul, Int32.reduceLT, Int32.reduceLE, Int32.reduceToNatClampNeg, ↓reduceIte, and_self, si_1, si_2, sl_1, sl_2, false_and, and_false, dL_law_383, dL_law_384, dL_law_387, dL_law_388, dL_law_391, dL_law_394, dL_law_395, ca_L_60, ca_L_63, e_aload_n1, e_aload_n2, e_callv, e_ireturn, j_ic_0, j_icmp_eq_391_546, a1, a2, a3, t1, t2, t3, lg_self, eq_self]
  refine w_undo hk hR _ (fun v M1 hm => ?_)
  simp (decide := true) only [ew_s, ew_0, Option.toList_some, Option.toList_none, List.cons_append, List.nil_append, true_and, and_true, List.length_cons, List.length_nil, Nat.reduceAdd, Nat.reduceLeDiff, Int32.reduceAdd, Int32.reduceSub, Int32.reduceMul, Int32.reduceLT, Int32.reduceLE, Int32.reduceToNatClampNeg, ↓reduceIte, and_self, si_1, si_2, sl_1, sl_2, false_and, and_false, dL_law_383, dL_law_384, dL_law_387, dL_law_388, dL_law_391, dL_law_394, dL_law_395, ca_L_60, ca_L_63, e_aload_n1, e_aload_n2, e_callv, e_ireturn, j_ic_0, j_icmp_eq_391_546, a1, a2, a3, t1, t2, t3, lg_self, eq_self]
  refine hm _ (fun M2 hR2 => ?_)
  simp (decide := true) only [ew_s, ew_0, Option.toList_some, Option.toList_none, List.cons_append, List.nil_append, true_and, and_true, List.length_cons, List.length_nil, Nat.reduceAdd, Nat.reduceLeDiff, Int32.reduceAdd, Int32.reduceSub, Int32.reduceMul, Int32.reduceLT, Int32.reduceLE, Int32.reduceToNatClampNeg, ↓reduceIte, and_self, si_1, si_2, sl_1, sl_2, false_and, and_false, dL_law_383, dL_law_384, dL_law_387, dL_law_388, dL_law_391, dL_law_394, dL_law_395, ca_L_60, ca_L_63, e_aload_n1, e_aload_n2, e_callv, e_ireturn, j_ic_0, j_icmp_eq_391_546, a1, a2, a3, t1, t2, t3, lg_self, eq_self]
  exact hh M2 hR2

set_option maxRecDepth 20000 in
set_option maxHeartbeats 4000000 in
theorem lc_later {G : ab_K} {Po : ab_P} {L : Nat} {xs : Nat → Int32} (hG : ab_Clo cL_law (x_L L xs) Po G) {i k : Nat} {M : ab_M} (hi : i + 4 ≤ L) (hL : L ≤ 2048) (hk : k + 1 ≤ 1000) (hR : RLK k M) (hh : ∀ M2, RLK (k + 1) M2 → G 937 [some (.ref 200), some (.ref 0), some (.ref 30), some (.int (nI i))] [] M2) : G 396 [some (.ref 200), some (.ref 0), some (.ref 30), some (.int (nI i))] [] M := by
  have a0 := rd_L (xs := xs) hL (j := i) (by omega)
  have a1 := rd_L (xs := xs) hL (j := i + 1) (by omega)
  have a2 := rd_L (xs := xs) hL (j := i + 2) (by omega)
  have a3 := rd_L (xs := xs) hL (j := i + 3) (by omega)
  have t1 : nI i + 1 = nI (i + 1) := nI_1 i
  have t2 : nI i + 2 = nI (i + 2) := nI_add i 2
  have t3 : nI i + 3 = nI (i + 3) := nI_add i 3
  refine ab_go hG [937] 60 _ _ _ _ ?_
  simp (decide := true) only [ew_s, ew_0, Option.toList_some, Option.toList_none, List.cons_append, List.nil_append, true_and, and_true, List.length_cons, List.length_nil, Nat.reduceAdd, Nat.reduceLeDiff, Int32.reduceAdd, Int32.reduceSub, Int32.reduceMul, Int32.reduceLT, Int32.reduceLE, Int32.reduceToNatClampNeg, ↓reduceIte, and_self, si_1, si_2, sl_1, sl_2, false_and, and_false, dL_law_396, dL_law_397, dL_law_398, dL_law_399, dL_law_400, dL_law_401, dL_law_402, dL_law_403, dL_law_404, dL_law_405, dL_law_406, dL_law_407, dL_law_410, dL_law_411, dL_law_412, dL_law_413, dL_law_414, dL_law_415, dL_law_416, dL_law_417, dL_law_418, dL_law_419, dL_law_420, dL_law_421, dL_law_424, dL_law_427, dL_law_428, ca_L_64, ca_L_67, e_aload_n0, e_aload_n1, e_aload_n2, e_callv, e_iadd, e_iaload, e_iload_n3, e_ireturn, j_ic_0, j_ic_1, j_ic_2, j_icmp_eq_424_513, a1, a2, a3, t1, t2, t3, lg_self, eq_self]
  refine w_later hk hR _ (fun v M1 hm => ?_)
  simp (decide := true) only [ew_s, ew_0, Option.toList_some, Option.toList_none, List.cons_append, List.nil_append, true_and, and_true, List.length_cons, List.length_nil, Nat.reduceAdd, Nat.reduceLeDiff, Int32.reduceAdd, Int32.reduceSub, Int32.reduceMul, Int32.reduceLT, Int32.reduceLE, Int32.reduceToNatClampNeg, ↓reduceIte, and_self, si_1, si_2, sl_1, sl_2, false_and, and_false, dL_law_396, dL_law_397, dL_law_398, dL_law_399, dL_law_400, dL_law_401, dL_law_402, dL_law_403, dL_law_404, dL_law_405, dL_law_406, dL_law_407, dL_law_410, dL_law_411, dL_law_412, dL_law_413, dL_law_414, dL_law_415, dL_law_416, dL_law_417, dL_law_418, dL_law_419, dL_law_420, dL_law_421, dL_law_424, dL_law_427, dL_law_428, ca_L_64, ca_L_67, e_aload_n0, e_aload_n1, e_aload_n2, e_callv, e_iadd, e_iaload, e_iload_n3, e_ireturn, j_ic_0, j_ic_1, j_ic_2, j_icmp_eq_424_513, a1, a2, a3, t1, t2, t3, lg_self, eq_self]
  refine hm _ (fun M2 hR2 => ?_)
  simp (decide := true) only [ew_s, ew_0, Option.toList_some, Option.toList_none, List.cons_append, List.nil_append, true_and, and_true, List.length_cons, List.length_nil, Nat.reduceAdd, Nat.reduceLeDiff, Int32.reduceAdd, Int32.reduceSub, Int32.reduceMul, Int32.reduceLT, Int32.reduceLE, Int32.reduceToNatClampNeg, ↓reduceIte, and_self, si_1, si_2, sl_1, sl_2, false_and, and_false, dL_law_396, dL_law_397, dL_law_398, dL_law_399, dL_law_400, dL_law_401, dL_law_402, dL_law_403, dL_law_404, dL_law_405, dL_law_406, dL_law_407, dL_law_410, dL_law_411, dL_law_412, dL_law_413, dL_law_414, dL_law_415, dL_law_416, dL_law_417, dL_law_418, dL_law_419, dL_law_420, dL_law_421, dL_law_424, dL_law_427, dL_law_428, ca_L_64, ca_L_67, e_aload_n0, e_aload_n1, e_aload_n2, e_callv, e_iadd, e_iaload, e_iload_n3, e_ireturn, j_ic_0, j_ic_1, j_ic_2, j_icmp_eq_424_513, a1, a2, a3, t1, t2, t3, lg_self, eq_self]
  exact hh M2 hR2

set_option maxRecDepth 20000 in
set_option maxHeartbeats 4000000 in
theorem lc_comes {G : ab_K} {Po : ab_P} {L : Nat} {xs : Nat → Int32} (hG : ab_Clo cL_law (x_L L xs) Po G) {i k : Nat} {M : ab_M} (hi : i + 4 ≤ L) (hL : L ≤ 2048) (hk : k + 1 ≤ 1000) (hR : RLK k M) (hh : ∀ M2, RLK (k + 1) M2 → G 937 [some (.ref 200), some (.ref 0), some (.ref 30), some (.int (nI i))] [] M2) : G 429 [some (.ref 200), some (.ref 0), some (.ref 30), some (.int (nI i))] [] M := by
  have a0 := rd_L (xs := xs) hL (j := i) (by omega)
  have a1 := rd_L (xs := xs) hL (j := i + 1) (by omega)
  have a2 := rd_L (xs := xs) hL (j := i + 2) (by omega)
  have a3 := rd_L (xs := xs) hL (j := i + 3) (by omega)
  have t1 : nI i + 1 = nI (i + 1) := nI_1 i
  have t2 : nI i + 2 = nI (i + 2) := nI_add i 2
  have t3 : nI i + 3 = nI (i + 3) := nI_add i 3
  refine ab_go hG [937] 60 _ _ _ _ ?_
  simp (decide := true) only [ew_s, ew_0, Option.toList_some, Option.toList_none, List.cons_append, List.nil_append, true_and, and_true, List.length_cons, List.length_nil, Nat.reduceAdd, Nat.reduceLeDiff, Int32.reduceAdd, Int32.reduceSub, Int32.reduceMul, Int32.reduceLT, Int32.reduceLE, Int32.reduceToNatClampNeg, ↓reduceIte, and_self, si_1, si_2, sl_1, sl_2, false_and, and_false, dL_law_429, dL_law_430, dL_law_433, dL_law_434, dL_law_437, dL_law_440, dL_law_441, ca_L_68, ca_L_71, e_aload_n1, e_aload_n2, e_callv, e_ireturn, j_ic_0, j_icmp_eq_437_500, a1, a2, a3, t1, t2, t3, lg_self, eq_self]
  refine w_comes hk hR _ (fun v M1 hm => ?_)
  simp (decide := true) only [ew_s, ew_0, Option.toList_some, Option.toList_none, List.cons_append, List.nil_append, true_and, and_true, List.length_cons, List.length_nil, Nat.reduceAdd, Nat.reduceLeDiff, Int32.reduceAdd, Int32.reduceSub, Int32.reduceMul, Int32.reduceLT, Int32.reduceLE, Int32.reduceToNatClampNeg, ↓reduceIte, and_self, si_1, si_2, sl_1, sl_2, false_and, and_false, dL_law_429, dL_law_430, dL_law_433, dL_law_434, dL_law_437, dL_law_440, dL_law_441, ca_L_68, ca_L_71, e_aload_n1, e_aload_n2, e_callv, e_ireturn, j_ic_0, j_icmp_eq_437_500, a1, a2, a3, t1, t2, t3, lg_self, eq_self]
  refine hm _ (fun M2 hR2 => ?_)
  simp (decide := true) only [ew_s, ew_0, Option.toList_some, Option.toList_none, List.cons_append, List.nil_append, true_and, and_true, List.length_cons, List.length_nil, Nat.reduceAdd, Nat.reduceLeDiff, Int32.reduceAdd, Int32.reduceSub, Int32.reduceMul, Int32.reduceLT, Int32.reduceLE, Int32.reduceToNatClampNeg, ↓reduceIte, and_self, si_1, si_2, sl_1, sl_2, false_and, and_false, dL_law_429, dL_law_430, dL_law_433, dL_law_434, dL_law_437, dL_law_440, dL_law_441, ca_L_68, ca_L_71, e_aload_n1, e_aload_n2, e_callv, e_ireturn, j_ic_0, j_icmp_eq_437_500, a1, a2, a3, t1, t2, t3, lg_self, eq_self]
  exact hh M2 hR2

set_option maxRecDepth 20000 in
set_option maxHeartbeats 4000000 in
theorem lc_leads {G : ab_K} {Po : ab_P} {L : Nat} {xs : Nat → Int32} (hG : ab_Clo cL_law (x_L L xs) Po G) {i k : Nat} {M : ab_M} (hi : i + 4 ≤ L) (hL : L ≤ 2048) (hk : k + 1 ≤ 1000) (hR : RLK k M) (hh : ∀ M2, RLK (k + 1) M2 → G 937 [some (.ref 200), some (.ref 0), some (.ref 30), some (.int (nI i))] [] M2) : G 442 [some (.ref 200), some (.ref 0), some (.ref 30), some (.int (nI i))] [] M := by
  have a0 := rd_L (xs := xs) hL (j := i) (by omega)
  have a1 := rd_L (xs := xs) hL (j := i + 1) (by omega)
  have a2 := rd_L (xs := xs) hL (j := i + 2) (by omega)
  have a3 := rd_L (xs := xs) hL (j := i + 3) (by omega)
  have t1 : nI i + 1 = nI (i + 1) := nI_1 i
  have t2 : nI i + 2 = nI (i + 2) := nI_add i 2
  have t3 : nI i + 3 = nI (i + 3) := nI_add i 3
  refine ab_go hG [937] 60 _ _ _ _ ?_
  simp (decide := true) only [ew_s, ew_0, Option.toList_some, Option.toList_none, List.cons_append, List.nil_append, true_and, and_true, List.length_cons, List.length_nil, Nat.reduceAdd, Nat.reduceLeDiff, Int32.reduceAdd, Int32.reduceSub, Int32.reduceMul, Int32.reduceLT, Int32.reduceLE, Int32.reduceToNatClampNeg, ↓reduceIte, and_self, si_1, si_2, sl_1, sl_2, false_and, and_false, dL_law_442, dL_law_443, dL_law_444, dL_law_445, dL_law_446, dL_law_447, dL_law_448, dL_law_451, dL_law_452, dL_law_453, dL_law_454, dL_law_455, dL_law_456, dL_law_457, dL_law_460, dL_law_463, dL_law_464, ca_L_72, ca_L_75, e_aload_n0, e_aload_n1, e_aload_n2, e_callv, e_iadd, e_iaload, e_iload_n3, e_ireturn, j_ic_0, j_ic_1, j_icmp_eq_460_477, a1, a2, a3, t1, t2, t3, lg_self, eq_self]
  refine w_leads hk hR _ (fun v M1 hm => ?_)
  simp (decide := true) only [ew_s, ew_0, Option.toList_some, Option.toList_none, List.cons_append, List.nil_append, true_and, and_true, List.length_cons, List.length_nil, Nat.reduceAdd, Nat.reduceLeDiff, Int32.reduceAdd, Int32.reduceSub, Int32.reduceMul, Int32.reduceLT, Int32.reduceLE, Int32.reduceToNatClampNeg, ↓reduceIte, and_self, si_1, si_2, sl_1, sl_2, false_and, and_false, dL_law_442, dL_law_443, dL_law_444, dL_law_445, dL_law_446, dL_law_447, dL_law_448, dL_law_451, dL_law_452, dL_law_453, dL_law_454, dL_law_455, dL_law_456, dL_law_457, dL_law_460, dL_law_463, dL_law_464, ca_L_72, ca_L_75, e_aload_n0, e_aload_n1, e_aload_n2, e_callv, e_iadd, e_iaload, e_iload_n3, e_ireturn, j_ic_0, j_ic_1, j_icmp_eq_460_477, a1, a2, a3, t1, t2, t3, lg_self, eq_self]
  refine hm _ (fun M2 hR2 => ?_)
  simp (decide := true) only [ew_s, ew_0, Option.toList_some, Option.toList_none, List.cons_append, List.nil_append, true_and, and_true, List.length_cons, List.length_nil, Nat.reduceAdd, Nat.reduceLeDiff, Int32.reduceAdd, Int32.reduceSub, Int32.reduceMul, Int32.reduceLT, Int32.reduceLE, Int32.reduceToNatClampNeg, ↓reduceIte, and_self, si_1, si_2, sl_1, sl_2, false_and, and_false, dL_law_442, dL_law_443, dL_law_444, dL_law_445, dL_law_446, dL_law_447, dL_law_448, dL_law_451, dL_law_452, dL_law_453, dL_law_454, dL_law_455, dL_law_456, dL_law_457, dL_law_460, dL_law_463, dL_law_464, ca_L_72, ca_L_75, e_aload_n0, e_aload_n1, e_aload_n2, e_callv, e_iadd, e_iaload, e_iload_n3, e_ireturn, j_ic_0, j_ic_1, j_icmp_eq_460_477, a1, a2, a3, t1, t2, t3, lg_self, eq_self]
  exact hh M2 hR2

set_option maxRecDepth 20000 in
set_option maxHeartbeats 4000000 in
theorem lc_cure {G : ab_K} {Po : ab_P} {L : Nat} {xs : Nat → Int32} (hG : ab_Clo cL_law (x_L L xs) Po G) {i k : Nat} {M : ab_M} (hi : i + 4 ≤ L) (hL : L ≤ 2048) (hk : k + 1 ≤ 1000) (hR : RLK k M) (hh : ∀ M2, RLK (k + 1) M2 → G 937 [some (.ref 200), some (.ref 0), some (.ref 30), some (.int (nI i))] [] M2) : G 465 [some (.ref 200), some (.ref 0), some (.ref 30), some (.int (nI i))] [] M := by
  have a0 := rd_L (xs := xs) hL (j := i) (by omega)
  have a1 := rd_L (xs := xs) hL (j := i + 1) (by omega)
  have a2 := rd_L (xs := xs) hL (j := i + 2) (by omega)
  have a3 := rd_L (xs := xs) hL (j := i + 3) (by omega)
  have t1 : nI i + 1 = nI (i + 1) := nI_1 i
  have t2 : nI i + 2 = nI (i + 2) := nI_add i 2
  have t3 : nI i + 3 = nI (i + 3) := nI_add i 3
  refine ab_go hG [937] 60 _ _ _ _ ?_
  simp (decide := true) only [ew_s, ew_0, Option.toList_some, Option.toList_none, List.cons_append, List.nil_append, true_and, and_true, List.length_cons, List.length_nil, Nat.reduceAdd, Nat.reduceLeDiff, Int32.reduceAdd, Int32.reduceSub, Int32.reduceMul, Int32.reduceLT, Int32.reduceLE, Int32.reduceToNatClampNeg, ↓reduceIte, and_self, si_1, si_2, sl_1, sl_2, false_and, and_false, dL_law_465, dL_law_466, dL_law_467, dL_law_468, dL_law_469, dL_law_470, dL_law_471, dL_law_474, dL_law_475, dL_law_476, dL_law_477, dL_law_478, dL_law_479, dL_law_480, dL_law_483, dL_law_486, dL_law_487, ca_L_76, ca_L_79, e_aload_n0, e_aload_n1, e_aload_n2, e_callv, e_iadd, e_iaload, e_iload_n3, e_ireturn, j_ic_0, j_ic_1, j_icmp_eq_483_454, a1, a2, a3, t1, t2, t3, lg_self, eq_self]
  refine w_cure hk hR _ (fun v M1 hm => ?_)
  simp (decide := true) only [ew_s, ew_0, Option.toList_some, Option.toList_none, List.cons_append, List.nil_append, true_and, and_true, List.length_cons, List.length_nil, Nat.reduceAdd, Nat.reduceLeDiff, Int32.reduceAdd, Int32.reduceSub, Int32.reduceMul, Int32.reduceLT, Int32.reduceLE, Int32.reduceToNatClampNeg, ↓reduceIte, and_self, si_1, si_2, sl_1, sl_2, false_and, and_false, dL_law_465, dL_law_466, dL_law_467, dL_law_468, dL_law_469, dL_law_470, dL_law_471, dL_law_474, dL_law_475, dL_law_476, dL_law_477, dL_law_478, dL_law_479, dL_law_480, dL_law_483, dL_law_486, dL_law_487, ca_L_76, ca_L_79, e_aload_n0, e_aload_n1, e_aload_n2, e_callv, e_iadd, e_iaload, e_iload_n3, e_ireturn, j_ic_0, j_ic_1, j_icmp_eq_483_454, a1, a2, a3, t1, t2, t3, lg_self, eq_self]
  refine hm _ (fun M2 hR2 => ?_)
  simp (decide := true) only [ew_s, ew_0, Option.toList_some, Option.toList_none, List.cons_append, List.nil_append, true_and, and_true, List.length_cons, List.length_nil, Nat.reduceAdd, Nat.reduceLeDiff, Int32.reduceAdd, Int32.reduceSub, Int32.reduceMul, Int32.reduceLT, Int32.reduceLE, Int32.reduceToNatClampNeg, ↓reduceIte, and_self, si_1, si_2, sl_1, sl_2, false_and, and_false, dL_law_465, dL_law_466, dL_law_467, dL_law_468, dL_law_469, dL_law_470, dL_law_471, dL_law_474, dL_law_475, dL_law_476, dL_law_477, dL_law_478, dL_law_479, dL_law_480, dL_law_483, dL_law_486, dL_law_487, ca_L_76, ca_L_79, e_aload_n0, e_aload_n1, e_aload_n2, e_callv, e_iadd, e_iaload, e_iload_n3, e_ireturn, j_ic_0, j_ic_1, j_icmp_eq_483_454, a1, a2, a3, t1, t2, t3, lg_self, eq_self]
  exact hh M2 hR2

set_option maxRecDepth 20000 in
set_option maxHeartbeats 4000000 in
theorem lc_plan {G : ab_K} {Po : ab_P} {L : Nat} {xs : Nat → Int32} (hG : ab_Clo cL_law (x_L L xs) Po G) {i k : Nat} {M : ab_M} (hi : i + 4 ≤ L) (hL : L ≤ 2048) (hk : k + 1 ≤ 1000) (hR : RLK k M) (hh : ∀ M2, RLK (k + 1) M2 → G 937 [some (.ref 200), some (.ref 0), some (.ref 30), some (.int (nI i))] [] M2) : G 488 [some (.ref 200), some (.ref 0), some (.ref 30), some (.int (nI i))] [] M := by
  have a0 := rd_L (xs := xs) hL (j := i) (by omega)
  have a1 := rd_L (xs := xs) hL (j := i + 1) (by omega)
  have a2 := rd_L (xs := xs) hL (j := i + 2) (by omega)
  have a3 := rd_L (xs := xs) hL (j := i + 3) (by omega)
  have t1 : nI i + 1 = nI (i + 1) := nI_1 i
  have t2 : nI i + 2 = nI (i + 2) := nI_add i 2
  have t3 : nI i + 3 = nI (i + 3) := nI_add i 3
  refine ab_go hG [937] 60 _ _ _ _ ?_
  simp (decide := true) only [ew_s, ew_0, Option.toList_some, Option.toList_none, List.cons_append, List.nil_append, true_and, and_true, List.length_cons, List.length_nil, Nat.reduceAdd, Nat.reduceLeDiff, Int32.reduceAdd, Int32.reduceSub, Int32.reduceMul, Int32.reduceLT, Int32.reduceLE, Int32.reduceToNatClampNeg, ↓reduceIte, and_self, si_1, si_2, sl_1, sl_2, false_and, and_false, dL_law_488, dL_law_489, dL_law_490, dL_law_491, dL_law_492, dL_law_493, dL_law_494, dL_law_495, dL_law_496, dL_law_497, dL_law_498, dL_law_499, dL_law_502, dL_law_503, dL_law_504, dL_law_505, dL_law_506, dL_law_507, dL_law_508, dL_law_509, dL_law_510, dL_law_511, dL_law_512, dL_law_513, dL_law_516, dL_law_519, dL_law_520, ca_L_80, ca_L_83, e_aload_n0, e_aload_n1, e_aload_n2, e_callv, e_iadd, e_iaload, e_iload_n3, e_ireturn, j_ic_0, j_ic_1, j_ic_2, j_icmp_eq_516_421, a1, a2, a3, t1, t2, t3, lg_self, eq_self]
  refine w_plan hk hR _ (fun v M1 hm => ?_)
  simp (decide := true) only [ew_s, ew_0, Option.toList_some, Option.toList_none, List.cons_append, List.nil_append, true_and, and_true, List.length_cons, List.length_nil, Nat.reduceAdd, Nat.reduceLeDiff, Int32.reduceAdd, Int32.reduceSub, Int32.reduceMul, Int32.reduceLT, Int32.reduceLE, Int32.reduceToNatClampNeg, ↓reduceIte, and_self, si_1, si_2, sl_1, sl_2, false_and, and_false, dL_law_488, dL_law_489, dL_law_490, dL_law_491, dL_law_492, dL_law_493, dL_law_494, dL_law_495, dL_law_496, dL_law_497, dL_law_498, dL_law_499, dL_law_502, dL_law_503, dL_law_504, dL_law_505, dL_law_506, dL_law_507, dL_law_508, dL_law_509, dL_law_510, dL_law_511, dL_law_512, dL_law_513, dL_law_516, dL_law_519, dL_law_520, ca_L_80, ca_L_83, e_aload_n0, e_aload_n1, e_aload_n2, e_callv, e_iadd, e_iaload, e_iload_n3, e_ireturn, j_ic_0, j_ic_1, j_ic_2, j_icmp_eq_516_421, a1, a2, a3, t1, t2, t3, lg_self, eq_self]
  refine hm _ (fun M2 hR2 => ?_)
  simp (decide := true) only [ew_s, ew_0, Option.toList_some, Option.toList_none, List.cons_append, List.nil_append, true_and, and_true, List.length_cons, List.length_nil, Nat.reduceAdd, Nat.reduceLeDiff, Int32.reduceAdd, Int32.reduceSub, Int32.reduceMul, Int32.reduceLT, Int32.reduceLE, Int32.reduceToNatClampNeg, ↓reduceIte, and_self, si_1, si_2, sl_1, sl_2, false_and, and_false, dL_law_488, dL_law_489, dL_law_490, dL_law_491, dL_law_492, dL_law_493, dL_law_494, dL_law_495, dL_law_496, dL_law_497, dL_law_498, dL_law_499, dL_law_502, dL_law_503, dL_law_504, dL_law_505, dL_law_506, dL_law_507, dL_law_508, dL_law_509, dL_law_510, dL_law_511, dL_law_512, dL_law_513, dL_law_516, dL_law_519, dL_law_520, ca_L_80, ca_L_83, e_aload_n0, e_aload_n1, e_aload_n2, e_callv, e_iadd, e_iaload, e_iload_n3, e_ireturn, j_ic_0, j_ic_1, j_ic_2, j_icmp_eq_516_421, a1, a2, a3, t1, t2, t3, lg_self, eq_self]
  exact hh M2 hR2

set_option maxRecDepth 20000 in
set_option maxHeartbeats 4000000 in
theorem lc_judge {G : ab_K} {Po : ab_P} {L : Nat} {xs : Nat → Int32} (hG : ab_Clo cL_law (x_L L xs) Po G) {i k : Nat} {M : ab_M} (hi : i + 4 ≤ L) (hL : L ≤ 2048) (hk : k + 1 ≤ 1000) (hR : RLK k M) (hh : ∀ M2, RLK (k + 1) M2 → G 937 [some (.ref 200), some (.ref 0), some (.ref 30), some (.int (nI i))] [] M2) : G 521 [some (.ref 200), some (.ref 0), some (.ref 30), some (.int (nI i))] [] M := by
  have a0 := rd_L (xs := xs) hL (j := i) (by omega)
  have a1 := rd_L (xs := xs) hL (j := i + 1) (by omega)
  have a2 := rd_L (xs := xs) hL (j := i + 2) (by omega)
  have a3 := rd_L (xs := xs) hL (j := i + 3) (by omega)
  have t1 : nI i + 1 = nI (i + 1) := nI_1 i
  have t2 : nI i + 2 = nI (i + 2) := nI_add i 2
  have t3 : nI i + 3 = nI (i + 3) := nI_add i 3
  refine ab_go hG [937] 60 _ _ _ _ ?_
  simp (decide := true) only [ew_s, ew_0, Option.toList_some, Option.toList_none, List.cons_append, List.nil_append, true_and, and_true, List.length_cons, List.length_nil, Nat.reduceAdd, Nat.reduceLeDiff, Int32.reduceAdd, Int32.reduceSub, Int32.reduceMul, Int32.reduceLT, Int32.reduceLE, Int32.reduceToNatClampNeg, ↓reduceIte, and_self, si_1, si_2, sl_1, sl_2, false_and, and_false, dL_law_521, dL_law_522, dL_law_523, dL_law_524, dL_law_525, dL_law_526, dL_law_527, dL_law_528, dL_law_529, dL_law_530, dL_law_531, dL_law_532, dL_law_533, dL_law_535, dL_law_536, dL_law_537, dL_law_538, dL_law_539, dL_law_540, dL_law_541, dL_law_542, dL_law_545, dL_law_546, dL_law_547, dL_law_550, dL_law_551, dL_law_552, dL_law_553, dL_law_554, dL_law_555, dL_law_556, dL_law_557, dL_law_558, dL_law_559, dL_law_560, dL_law_561, dL_law_562, dL_law_564, dL_law_565, dL_law_566, dL_law_567, dL_law_568, dL_law_569, dL_law_570, dL_law_571, dL_law_574, dL_law_575, dL_law_576, dL_law_579, dL_law_582, dL_law_583, ca_L_86, ca_L_90, e_aload_n0, e_aload_n1, e_aload_n2, e_callv, e_i2l, e_iadd, e_iaload, e_iload_n3, e_ireturn, e_kl_L_84, e_land, e_lor, e_lshl, j_bp_32, j_ic_0, j_ic_1, j_ic_2, j_ic_3, j_icmp_eq_579_358, a1, a2, a3, t1, t2, t3, lg_self, eq_self]
  refine w_judge hk hR _ (fun v M1 hm => ?_)
  simp (decide := true) only [ew_s, ew_0, Option.toList_some, Option.toList_none, List.cons_append, List.nil_append, true_and, and_true, List.length_cons, List.length_nil, Nat.reduceAdd, Nat.reduceLeDiff, Int32.reduceAdd, Int32.reduceSub, Int32.reduceMul, Int32.reduceLT, Int32.reduceLE, Int32.reduceToNatClampNeg, ↓reduceIte, and_self, si_1, si_2, sl_1, sl_2, false_and, and_false, dL_law_521, dL_law_522, dL_law_523, dL_law_524, dL_law_525, dL_law_526, dL_law_527, dL_law_528, dL_law_529, dL_law_530, dL_law_531, dL_law_532, dL_law_533, dL_law_535, dL_law_536, dL_law_537, dL_law_538, dL_law_539, dL_law_540, dL_law_541, dL_law_542, dL_law_545, dL_law_546, dL_law_547, dL_law_550, dL_law_551, dL_law_552, dL_law_553, dL_law_554, dL_law_555, dL_law_556, dL_law_557, dL_law_558, dL_law_559, dL_law_560, dL_law_561, dL_law_562, dL_law_564, dL_law_565, dL_law_566, dL_law_567, dL_law_568, dL_law_569, dL_law_570, dL_law_571, dL_law_574, dL_law_575, dL_law_576, dL_law_579, dL_law_582, dL_law_583, ca_L_86, ca_L_90, e_aload_n0, e_aload_n1, e_aload_n2, e_callv, e_i2l, e_iadd, e_iaload, e_iload_n3, e_ireturn, e_kl_L_84, e_land, e_lor, e_lshl, j_bp_32, j_ic_0, j_ic_1, j_ic_2, j_ic_3, j_icmp_eq_579_358, a1, a2, a3, t1, t2, t3, lg_self, eq_self]
  refine hm _ (fun M2 hR2 => ?_)
  simp (decide := true) only [ew_s, ew_0, Option.toList_some, Option.toList_none, List.cons_append, List.nil_append, true_and, and_true, List.length_cons, List.length_nil, Nat.reduceAdd, Nat.reduceLeDiff, Int32.reduceAdd, Int32.reduceSub, Int32.reduceMul, Int32.reduceLT, Int32.reduceLE, Int32.reduceToNatClampNeg, ↓reduceIte, and_self, si_1, si_2, sl_1, sl_2, false_and, and_false, dL_law_521, dL_law_522, dL_law_523, dL_law_524, dL_law_525, dL_law_526, dL_law_527, dL_law_528, dL_law_529, dL_law_530, dL_law_531, dL_law_532, dL_law_533, dL_law_535, dL_law_536, dL_law_537, dL_law_538, dL_law_539, dL_law_540, dL_law_541, dL_law_542, dL_law_545, dL_law_546, dL_law_547, dL_law_550, dL_law_551, dL_law_552, dL_law_553, dL_law_554, dL_law_555, dL_law_556, dL_law_557, dL_law_558, dL_law_559, dL_law_560, dL_law_561, dL_law_562, dL_law_564, dL_law_565, dL_law_566, dL_law_567, dL_law_568, dL_law_569, dL_law_570, dL_law_571, dL_law_574, dL_law_575, dL_law_576, dL_law_579, dL_law_582, dL_law_583, ca_L_86, ca_L_90, e_aload_n0, e_aload_n1, e_aload_n2, e_callv, e_i2l, e_iadd, e_iaload, e_iload_n3, e_ireturn, e_kl_L_84, e_land, e_lor, e_lshl, j_bp_32, j_ic_0, j_ic_1, j_ic_2, j_ic_3, j_icmp_eq_579_358, a1, a2, a3, t1, t2, t3, lg_self, eq_self]
  exact hh M2 hR2

set_option maxRecDepth 20000 in
set_option maxHeartbeats 4000000 in
theorem lc_share {G : ab_K} {Po : ab_P} {L : Nat} {xs : Nat → Int32} (hG : ab_Clo cL_law (x_L L xs) Po G) {i k : Nat} {M : ab_M} (hi : i + 4 ≤ L) (hL : L ≤ 2048) (hk : k + 1 ≤ 1000) (hR : RLK k M) (hh : ∀ M2, RLK (k + 1) M2 → G 937 [some (.ref 200), some (.ref 0), some (.ref 30), some (.int (nI i))] [] M2) : G 584 [some (.ref 200), some (.ref 0), some (.ref 30), some (.int (nI i))] [] M := by
  have a0 := rd_L (xs := xs) hL (j := i) (by omega)
  have a1 := rd_L (xs := xs) hL (j := i + 1) (by omega)
  have a2 := rd_L (xs := xs) hL (j := i + 2) (by omega)
  have a3 := rd_L (xs := xs) hL (j := i + 3) (by omega)
  have t1 : nI i + 1 = nI (i + 1) := nI_1 i
  have t2 : nI i + 2 = nI (i + 2) := nI_add i 2
  have t3 : nI i + 3 = nI (i + 3) := nI_add i 3
  by_cases c0 : xs (i + 2) = 0
  · refine ab_go hG [937] 60 _ _ _ _ ?_
    simp (decide := true) only [ew_s, ew_0, Option.toList_some, Option.toList_none, List.cons_append, List.nil_append, true_and, and_true, List.length_cons, List.length_nil, Nat.reduceAdd, Nat.reduceLeDiff, Int32.reduceAdd, Int32.reduceSub, Int32.reduceMul, Int32.reduceLT, Int32.reduceLE, Int32.reduceToNatClampNeg, ↓reduceIte, and_self, si_1, si_2, sl_1, sl_2, false_and, and_false, dL_law_584, dL_law_585, dL_law_586, dL_law_587, dL_law_588, dL_law_589, dL_law_590, dL_law_591, dL_law_592, dL_law_593, dL_law_594, dL_law_595, dL_law_598, dL_law_599, dL_law_602, dL_law_603, dL_law_606, dL_law_607, dL_law_608, dL_law_609, dL_law_610, dL_law_611, dL_law_612, dL_law_613, dL_law_614, dL_law_615, dL_law_616, dL_law_617, dL_law_620, dL_law_621, dL_law_624, dL_law_625, dL_law_628, dL_law_631, dL_law_632, ca_L_91, ca_L_95, e_aload_n0, e_aload_n1, e_aload_n2, e_callv, e_iadd, e_iaload, e_iload_n3, e_ireturn, j_goto_599_4, j_goto_621_4, j_ic_0, j_ic_1, j_ic_2, j_icmp_eq_628_309, j_if_eq_595_7, j_if_eq_617_7, a1, a2, a3, t1, t2, t3, lg_self, eq_self, c0]
    refine w_share hk hR _ (fun v M1 hm => ?_)
    simp (decide := true) only [ew_s, ew_0, Option.toList_some, Option.toList_none, List.cons_append, List.nil_append, true_and, and_true, List.length_cons, List.length_nil, Nat.reduceAdd, Nat.reduceLeDiff, Int32.reduceAdd, Int32.reduceSub, Int32.reduceMul, Int32.reduceLT, Int32.reduceLE, Int32.reduceToNatClampNeg, ↓reduceIte, and_self, si_1, si_2, sl_1, sl_2, false_and, and_false, dL_law_584, dL_law_585, dL_law_586, dL_law_587, dL_law_588, dL_law_589, dL_law_590, dL_law_591, dL_law_592, dL_law_593, dL_law_594, dL_law_595, dL_law_598, dL_law_599, dL_law_602, dL_law_603, dL_law_606, dL_law_607, dL_law_608, dL_law_609, dL_law_610, dL_law_611, dL_law_612, dL_law_613, dL_law_614, dL_law_615, dL_law_616, dL_law_617, dL_law_620, dL_law_621, dL_law_624, dL_law_625, dL_law_628, dL_law_631, dL_law_632, ca_L_91, ca_L_95, e_aload_n0, e_aload_n1, e_aload_n2, e_callv, e_iadd, e_iaload, e_iload_n3, e_ireturn, j_goto_599_4, j_goto_621_4, j_ic_0, j_ic_1, j_ic_2, j_icmp_eq_628_309, j_if_eq_595_7, j_if_eq_617_7, a1, a2, a3, t1, t2, t3, lg_self, eq_self, c0]
    refine hm _ (fun M2 hR2 => ?_)
    simp (decide := true) only [ew_s, ew_0, Option.toList_some, Option.toList_none, List.cons_append, List.nil_append, true_and, and_true, List.length_cons, List.length_nil, Nat.reduceAdd, Nat.reduceLeDiff, Int32.reduceAdd, Int32.reduceSub, Int32.reduceMul, Int32.reduceLT, Int32.reduceLE, Int32.reduceToNatClampNeg, ↓reduceIte, and_self, si_1, si_2, sl_1, sl_2, false_and, and_false, dL_law_584, dL_law_585, dL_law_586, dL_law_587, dL_law_588, dL_law_589, dL_law_590, dL_law_591, dL_law_592, dL_law_593, dL_law_594, dL_law_595, dL_law_598, dL_law_599, dL_law_602, dL_law_603, dL_law_606, dL_law_607, dL_law_608, dL_law_609, dL_law_610, dL_law_611, dL_law_612, dL_law_613, dL_law_614, dL_law_615, dL_law_616, dL_law_617, dL_law_620, dL_law_621, dL_law_624, dL_law_625, dL_law_628, dL_law_631, dL_law_632, ca_L_91, ca_L_95, e_aload_n0, e_aload_n1, e_aload_n2, e_callv, e_iadd, e_iaload, e_iload_n3, e_ireturn, j_goto_599_4, j_goto_621_4, j_ic_0, j_ic_1, j_ic_2, j_icmp_eq_628_309, j_if_eq_595_7, j_if_eq_617_7, a1, a2, a3, t1, t2, t3, lg_self, eq_self, c0]
    exact hh M2 hR2
  · refine ab_go hG [937] 60 _ _ _ _ ?_
    simp (decide := true) only [ew_s, ew_0, Option.toList_some, Option.toList_none, List.cons_append, List.nil_append, true_and, and_true, List.length_cons, List.length_nil, Nat.reduceAdd, Nat.reduceLeDiff, Int32.reduceAdd, Int32.reduceSub, Int32.reduceMul, Int32.reduceLT, Int32.reduceLE, Int32.reduceToNatClampNeg, ↓reduceIte, and_self, si_1, si_2, sl_1, sl_2, false_and, and_false, dL_law_584, dL_law_585, dL_law_586, dL_law_587, dL_law_588, dL_law_589, dL_law_590, dL_law_591, dL_law_592, dL_law_593, dL_law_594, dL_law_595, dL_law_598, dL_law_599, dL_law_602, dL_law_603, dL_law_606, dL_law_607, dL_law_608, dL_law_609, dL_law_610, dL_law_611, dL_law_612, dL_law_613, dL_law_614, dL_law_615, dL_law_616, dL_law_617, dL_law_620, dL_law_621, dL_law_624, dL_law_625, dL_law_628, dL_law_631, dL_law_632, ca_L_91, ca_L_95, e_aload_n0, e_aload_n1, e_aload_n2, e_callv, e_iadd, e_iaload, e_iload_n3, e_ireturn, j_goto_599_4, j_goto_621_4, j_ic_0, j_ic_1, j_ic_2, j_icmp_eq_628_309, j_if_eq_595_7, j_if_eq_617_7, a1, a2, a3, t1, t2, t3, lg_self, eq_self, c0]
    refine w_share hk hR _ (fun v M1 hm => ?_)
    simp (decide := true) only [ew_s, ew_0, Option.toList_some, Option.toList_none, List.cons_append, List.nil_append, true_and, and_true, List.length_cons, List.length_nil, Nat.reduceAdd, Nat.reduceLeDiff, Int32.reduceAdd, Int32.reduceSub, Int32.reduceMul, Int32.reduceLT, Int32.reduceLE, Int32.reduceToNatClampNeg, ↓reduceIte, and_self, si_1, si_2, sl_1, sl_2, false_and, and_false, dL_law_584, dL_law_585, dL_law_586, dL_law_587, dL_law_588, dL_law_589, dL_law_590, dL_law_591, dL_law_592, dL_law_593, dL_law_594, dL_law_595, dL_law_598, dL_law_599, dL_law_602, dL_law_603, dL_law_606, dL_law_607, dL_law_608, dL_law_609, dL_law_610, dL_law_611, dL_law_612, dL_law_613, dL_law_614, dL_law_615, dL_law_616, dL_law_617, dL_law_620, dL_law_621, dL_law_624, dL_law_625, dL_law_628, dL_law_631, dL_law_632, ca_L_91, ca_L_95, e_aload_n0, e_aload_n1, e_aload_n2, e_callv, e_iadd, e_iaload, e_iload_n3, e_ireturn, j_goto_599_4, j_goto_621_4, j_ic_0, j_ic_1, j_ic_2, j_icmp_eq_628_309, j_if_eq_595_7, j_if_eq_617_7, a1, a2, a3, t1, t2, t3, lg_self, eq_self, c0]
    refine hm _ (fun M2 hR2 => ?_)
    simp (decide := true) only [ew_s, ew_0, Option.toList_some, Option.toList_none, List.cons_append, List.nil_append, true_and, and_true, List.length_cons, List.length_nil, Nat.reduceAdd, Nat.reduceLeDiff, Int32.reduceAdd, Int32.reduceSub, Int32.reduceMul, Int32.reduceLT, Int32.reduceLE, Int32.reduceToNatClampNeg, ↓reduceIte, and_self, si_1, si_2, sl_1, sl_2, false_and, and_false, dL_law_584, dL_law_585, dL_law_586, dL_law_587, dL_law_588, dL_law_589, dL_law_590, dL_law_591, dL_law_592, dL_law_593, dL_law_594, dL_law_595, dL_law_598, dL_law_599, dL_law_602, dL_law_603, dL_law_606, dL_law_607, dL_law_608, dL_law_609, dL_law_610, dL_law_611, dL_law_612, dL_law_613, dL_law_614, dL_law_615, dL_law_616, dL_law_617, dL_law_620, dL_law_621, dL_law_624, dL_law_625, dL_law_628, dL_law_631, dL_law_632, ca_L_91, ca_L_95, e_aload_n0, e_aload_n1, e_aload_n2, e_callv, e_iadd, e_iaload, e_iload_n3, e_ireturn, j_goto_599_4, j_goto_621_4, j_ic_0, j_ic_1, j_ic_2, j_icmp_eq_628_309, j_if_eq_595_7, j_if_eq_617_7, a1, a2, a3, t1, t2, t3, lg_self, eq_self, c0]
    exact hh M2 hR2

set_option maxRecDepth 20000 in
set_option maxHeartbeats 4000000 in
theorem lc_attempt {G : ab_K} {Po : ab_P} {L : Nat} {xs : Nat → Int32} (hG : ab_Clo cL_law (x_L L xs) Po G) {i k : Nat} {M : ab_M} (hi : i + 4 ≤ L) (hL : L ≤ 2048) (hk : k + 1 ≤ 1000) (hR : RLK k M) (hh : ∀ M2, RLK (k + 1) M2 → G 937 [some (.ref 200), some (.ref 0), some (.ref 30), some (.int (nI i))] [] M2) : G 633 [some (.ref 200), some (.ref 0), some (.ref 30), some (.int (nI i))] [] M := by
  have a0 := rd_L (xs := xs) hL (j := i) (by omega)
  have a1 := rd_L (xs := xs) hL (j := i + 1) (by omega)
  have a2 := rd_L (xs := xs) hL (j := i + 2) (by omega)
  have a3 := rd_L (xs := xs) hL (j := i + 3) (by omega)
  have t1 : nI i + 1 = nI (i + 1) := nI_1 i
  have t2 : nI i + 2 = nI (i + 2) := nI_add i 2
  have t3 : nI i + 3 = nI (i + 3) := nI_add i 3
  refine ab_go hG [937] 60 _ _ _ _ ?_
  simp (decide := true) only [ew_s, ew_0, Option.toList_some, Option.toList_none, List.cons_append, List.nil_append, true_and, and_true, List.length_cons, List.length_nil, Nat.reduceAdd, Nat.reduceLeDiff, Int32.reduceAdd, Int32.reduceSub, Int32.reduceMul, Int32.reduceLT, Int32.reduceLE, Int32.reduceToNatClampNeg, ↓reduceIte, and_self, si_1, si_2, sl_1, sl_2, false_and, and_false, dL_law_633, dL_law_634, dL_law_635, dL_law_636, dL_law_637, dL_law_638, dL_law_639, dL_law_640, dL_law_641, dL_law_642, dL_law_643, dL_law_644, dL_law_645, dL_law_646, dL_law_647, dL_law_648, dL_law_649, dL_law_652, dL_law_653, dL_law_654, dL_law_655, dL_law_656, dL_law_657, dL_law_658, dL_law_659, dL_law_660, dL_law_661, dL_law_662, dL_law_663, dL_law_664, dL_law_665, dL_law_666, dL_law_667, dL_law_668, dL_law_671, dL_law_674, dL_law_675, ca_L_100, ca_L_96, e_aload_n0, e_aload_n1, e_aload_n2, e_callv, e_iadd, e_iaload, e_iload_n3, e_ireturn, j_ic_0, j_ic_1, j_ic_2, j_ic_3, j_icmp_eq_671_266, a1, a2, a3, t1, t2, t3, lg_self, eq_self]
  refine w_attempt hk hR _ (fun v M1 hm => ?_)
  simp (decide := true) only [ew_s, ew_0, Option.toList_some, Option.toList_none, List.cons_append, List.nil_append, true_and, and_true, List.length_cons, List.length_nil, Nat.reduceAdd, Nat.reduceLeDiff, Int32.reduceAdd, Int32.reduceSub, Int32.reduceMul, Int32.reduceLT, Int32.reduceLE, Int32.reduceToNatClampNeg, ↓reduceIte, and_self, si_1, si_2, sl_1, sl_2, false_and, and_false, dL_law_633, dL_law_634, dL_law_635, dL_law_636, dL_law_637, dL_law_638, dL_law_639, dL_law_640, dL_law_641, dL_law_642, dL_law_643, dL_law_644, dL_law_645, dL_law_646, dL_law_647, dL_law_648, dL_law_649, dL_law_652, dL_law_653, dL_law_654, dL_law_655, dL_law_656, dL_law_657, dL_law_658, dL_law_659, dL_law_660, dL_law_661, dL_law_662, dL_law_663, dL_law_664, dL_law_665, dL_law_666, dL_law_667, dL_law_668, dL_law_671, dL_law_674, dL_law_675, ca_L_100, ca_L_96, e_aload_n0, e_aload_n1, e_aload_n2, e_callv, e_iadd, e_iaload, e_iload_n3, e_ireturn, j_ic_0, j_ic_1, j_ic_2, j_ic_3, j_icmp_eq_671_266, a1, a2, a3, t1, t2, t3, lg_self, eq_self]
  refine hm _ (fun M2 hR2 => ?_)
  simp (decide := true) only [ew_s, ew_0, Option.toList_some, Option.toList_none, List.cons_append, List.nil_append, true_and, and_true, List.length_cons, List.length_nil, Nat.reduceAdd, Nat.reduceLeDiff, Int32.reduceAdd, Int32.reduceSub, Int32.reduceMul, Int32.reduceLT, Int32.reduceLE, Int32.reduceToNatClampNeg, ↓reduceIte, and_self, si_1, si_2, sl_1, sl_2, false_and, and_false, dL_law_633, dL_law_634, dL_law_635, dL_law_636, dL_law_637, dL_law_638, dL_law_639, dL_law_640, dL_law_641, dL_law_642, dL_law_643, dL_law_644, dL_law_645, dL_law_646, dL_law_647, dL_law_648, dL_law_649, dL_law_652, dL_law_653, dL_law_654, dL_law_655, dL_law_656, dL_law_657, dL_law_658, dL_law_659, dL_law_660, dL_law_661, dL_law_662, dL_law_663, dL_law_664, dL_law_665, dL_law_666, dL_law_667, dL_law_668, dL_law_671, dL_law_674, dL_law_675, ca_L_100, ca_L_96, e_aload_n0, e_aload_n1, e_aload_n2, e_callv, e_iadd, e_iaload, e_iload_n3, e_ireturn, j_ic_0, j_ic_1, j_ic_2, j_ic_3, j_icmp_eq_671_266, a1, a2, a3, t1, t2, t3, lg_self, eq_self]
  exact hh M2 hR2

set_option maxRecDepth 20000 in
set_option maxHeartbeats 4000000 in
theorem lc_unattempt {G : ab_K} {Po : ab_P} {L : Nat} {xs : Nat → Int32} (hG : ab_Clo cL_law (x_L L xs) Po G) {i k : Nat} {M : ab_M} (hi : i + 4 ≤ L) (hL : L ≤ 2048) (hk : k + 1 ≤ 1000) (hR : RLK k M) (hh : ∀ M2, RLK (k + 1) M2 → G 937 [some (.ref 200), some (.ref 0), some (.ref 30), some (.int (nI i))] [] M2) : G 676 [some (.ref 200), some (.ref 0), some (.ref 30), some (.int (nI i))] [] M := by
  have a0 := rd_L (xs := xs) hL (j := i) (by omega)
  have a1 := rd_L (xs := xs) hL (j := i + 1) (by omega)
  have a2 := rd_L (xs := xs) hL (j := i + 2) (by omega)
  have a3 := rd_L (xs := xs) hL (j := i + 3) (by omega)
  have t1 : nI i + 1 = nI (i + 1) := nI_1 i
  have t2 : nI i + 2 = nI (i + 2) := nI_add i 2
  have t3 : nI i + 3 = nI (i + 3) := nI_add i 3
  refine ab_go hG [937] 60 _ _ _ _ ?_
  simp (decide := true) only [ew_s, ew_0, Option.toList_some, Option.toList_none, List.cons_append, List.nil_append, true_and, and_true, List.length_cons, List.length_nil, Nat.reduceAdd, Nat.reduceLeDiff, Int32.reduceAdd, Int32.reduceSub, Int32.reduceMul, Int32.reduceLT, Int32.reduceLE, Int32.reduceToNatClampNeg, ↓reduceIte, and_self, si_1, si_2, sl_1, sl_2, false_and, and_false, dL_law_676, dL_law_677, dL_law_680, dL_law_681, dL_law_684, dL_law_687, dL_law_688, ca_L_101, ca_L_104, e_aload_n1, e_aload_n2, e_callv, e_ireturn, j_ic_0, j_icmp_eq_684_253, a1, a2, a3, t1, t2, t3, lg_self, eq_self]
  refine w_unattempt hk hR _ (fun v M1 hm => ?_)
  simp (decide := true) only [ew_s, ew_0, Option.toList_some, Option.toList_none, List.cons_append, List.nil_append, true_and, and_true, List.length_cons, List.length_nil, Nat.reduceAdd, Nat.reduceLeDiff, Int32.reduceAdd, Int32.reduceSub, Int32.reduceMul, Int32.reduceLT, Int32.reduceLE, Int32.reduceToNatClampNeg, ↓reduceIte, and_self, si_1, si_2, sl_1, sl_2, false_and, and_false, dL_law_676, dL_law_677, dL_law_680, dL_law_681, dL_law_684, dL_law_687, dL_law_688, ca_L_101, ca_L_104, e_aload_n1, e_aload_n2, e_callv, e_ireturn, j_ic_0, j_icmp_eq_684_253, a1, a2, a3, t1, t2, t3, lg_self, eq_self]
  refine hm _ (fun M2 hR2 => ?_)
  simp (decide := true) only [ew_s, ew_0, Option.toList_some, Option.toList_none, List.cons_append, List.nil_append, true_and, and_true, List.length_cons, List.length_nil, Nat.reduceAdd, Nat.reduceLeDiff, Int32.reduceAdd, Int32.reduceSub, Int32.reduceMul, Int32.reduceLT, Int32.reduceLE, Int32.reduceToNatClampNeg, ↓reduceIte, and_self, si_1, si_2, sl_1, sl_2, false_and, and_false, dL_law_676, dL_law_677, dL_law_680, dL_law_681, dL_law_684, dL_law_687, dL_law_688, ca_L_101, ca_L_104, e_aload_n1, e_aload_n2, e_callv, e_ireturn, j_ic_0, j_icmp_eq_684_253, a1, a2, a3, t1, t2, t3, lg_self, eq_self]
  exact hh M2 hR2

set_option maxRecDepth 20000 in
set_option maxHeartbeats 4000000 in
theorem lc_paces {G : ab_K} {Po : ab_P} {L : Nat} {xs : Nat → Int32} (hG : ab_Clo cL_law (x_L L xs) Po G) {i k : Nat} {M : ab_M} (hi : i + 4 ≤ L) (hL : L ≤ 2048) (hk : k + 1 ≤ 1000) (hR : RLK k M) (hh : ∀ M2, RLK (k + 1) M2 → G 937 [some (.ref 200), some (.ref 0), some (.ref 30), some (.int (nI i))] [] M2) : G 689 [some (.ref 200), some (.ref 0), some (.ref 30), some (.int (nI i))] [] M := by
  have a0 := rd_L (xs := xs) hL (j := i) (by omega)
  have a1 := rd_L (xs := xs) hL (j := i + 1) (by omega)
  have a2 := rd_L (xs := xs) hL (j := i + 2) (by omega)
  have a3 := rd_L (xs := xs) hL (j := i + 3) (by omega)
  have t1 : nI i + 1 = nI (i + 1) := nI_1 i
  have t2 : nI i + 2 = nI (i + 2) := nI_add i 2
  have t3 : nI i + 3 = nI (i + 3) := nI_add i 3
  refine ab_go hG [937] 60 _ _ _ _ ?_
  simp (decide := true) only [ew_s, ew_0, Option.toList_some, Option.toList_none, List.cons_append, List.nil_append, true_and, and_true, List.length_cons, List.length_nil, Nat.reduceAdd, Nat.reduceLeDiff, Int32.reduceAdd, Int32.reduceSub, Int32.reduceMul, Int32.reduceLT, Int32.reduceLE, Int32.reduceToNatClampNeg, ↓reduceIte, and_self, si_1, si_2, sl_1, sl_2, false_and, and_false, dL_law_689, dL_law_690, dL_law_691, dL_law_692, dL_law_693, dL_law_694, dL_law_695, dL_law_698, dL_law_699, dL_law_700, dL_law_701, dL_law_702, dL_law_703, dL_law_704, dL_law_707, dL_law_710, dL_law_711, ca_L_105, ca_L_108, e_aload_n0, e_aload_n1, e_aload_n2, e_callv, e_iadd, e_iaload, e_iload_n3, e_ireturn, j_ic_0, j_ic_1, j_icmp_eq_707_230, a1, a2, a3, t1, t2, t3, lg_self, eq_self]
  refine w_paces hk hR _ (fun v M1 hm => ?_)
  simp (decide := true) only [ew_s, ew_0, Option.toList_some, Option.toList_none, List.cons_append, List.nil_append, true_and, and_true, List.length_cons, List.length_nil, Nat.reduceAdd, Nat.reduceLeDiff, Int32.reduceAdd, Int32.reduceSub, Int32.reduceMul, Int32.reduceLT, Int32.reduceLE, Int32.reduceToNatClampNeg, ↓reduceIte, and_self, si_1, si_2, sl_1, sl_2, false_and, and_false, dL_law_689, dL_law_690, dL_law_691, dL_law_692, dL_law_693, dL_law_694, dL_law_695, dL_law_698, dL_law_699, dL_law_700, dL_law_701, dL_law_702, dL_law_703, dL_law_704, dL_law_707, dL_law_710, dL_law_711, ca_L_105, ca_L_108, e_aload_n0, e_aload_n1, e_aload_n2, e_callv, e_iadd, e_iaload, e_iload_n3, e_ireturn, j_ic_0, j_ic_1, j_icmp_eq_707_230, a1, a2, a3, t1, t2, t3, lg_self, eq_self]
  refine hm _ (fun M2 hR2 => ?_)
  simp (decide := true) only [ew_s, ew_0, Option.toList_some, Option.toList_none, List.cons_append, List.nil_append, true_and, and_true, List.length_cons, List.length_nil, Nat.reduceAdd, Nat.reduceLeDiff, Int32.reduceAdd, Int32.reduceSub, Int32.reduceMul, Int32.reduceLT, Int32.reduceLE, Int32.reduceToNatClampNeg, ↓reduceIte, and_self, si_1, si_2, sl_1, sl_2, false_and, and_false, dL_law_689, dL_law_690, dL_law_691, dL_law_692, dL_law_693, dL_law_694, dL_law_695, dL_law_698, dL_law_699, dL_law_700, dL_law_701, dL_law_702, dL_law_703, dL_law_704, dL_law_707, dL_law_710, dL_law_711, ca_L_105, ca_L_108, e_aload_n0, e_aload_n1, e_aload_n2, e_callv, e_iadd, e_iaload, e_iload_n3, e_ireturn, j_ic_0, j_ic_1, j_icmp_eq_707_230, a1, a2, a3, t1, t2, t3, lg_self, eq_self]
  exact hh M2 hR2

set_option maxRecDepth 20000 in
set_option maxHeartbeats 4000000 in
theorem lc_rests {G : ab_K} {Po : ab_P} {L : Nat} {xs : Nat → Int32} (hG : ab_Clo cL_law (x_L L xs) Po G) {i k : Nat} {M : ab_M} (hi : i + 4 ≤ L) (hL : L ≤ 2048) (hk : k + 1 ≤ 1000) (hR : RLK k M) (hh : ∀ M2, RLK (k + 1) M2 → G 937 [some (.ref 200), some (.ref 0), some (.ref 30), some (.int (nI i))] [] M2) : G 712 [some (.ref 200), some (.ref 0), some (.ref 30), some (.int (nI i))] [] M := by
  have a0 := rd_L (xs := xs) hL (j := i) (by omega)
  have a1 := rd_L (xs := xs) hL (j := i + 1) (by omega)
  have a2 := rd_L (xs := xs) hL (j := i + 2) (by omega)
  have a3 := rd_L (xs := xs) hL (j := i + 3) (by omega)
  have t1 : nI i + 1 = nI (i + 1) := nI_1 i
  have t2 : nI i + 2 = nI (i + 2) := nI_add i 2
  have t3 : nI i + 3 = nI (i + 3) := nI_add i 3
  refine ab_go hG [937] 60 _ _ _ _ ?_
  simp (decide := true) only [ew_s, ew_0, Option.toList_some, Option.toList_none, List.cons_append, List.nil_append, true_and, and_true, List.length_cons, List.length_nil, Nat.reduceAdd, Nat.reduceLeDiff, Int32.reduceAdd, Int32.reduceSub, Int32.reduceMul, Int32.reduceLT, Int32.reduceLE, Int32.reduceToNatClampNeg, ↓reduceIte, and_self, si_1, si_2, sl_1, sl_2, false_and, and_false, dL_law_712, dL_law_713, dL_law_714, dL_law_715, dL_law_716, dL_law_717, dL_law_718, dL_law_719, dL_law_720, dL_law_721, dL_law_722, dL_law_723, dL_law_724, dL_law_725, dL_law_726, dL_law_727, dL_law_728, dL_law_731, dL_law_732, dL_law_733, dL_law_734, dL_law_735, dL_law_736, dL_law_737, dL_law_738, dL_law_739, dL_law_740, dL_law_741, dL_law_742, dL_law_743, dL_law_744, dL_law_745, dL_law_746, dL_law_747, dL_law_750, dL_law_753, dL_law_754, ca_L_109, ca_L_112, e_aload_n0, e_aload_n1, e_aload_n2, e_callv, e_iadd, e_iaload, e_iload_n3, e_ireturn, j_ic_0, j_ic_1, j_ic_2, j_ic_3, j_icmp_eq_750_187, a1, a2, a3, t1, t2, t3, lg_self, eq_self]
  refine w_rests hk hR _ (fun v M1 hm => ?_)
  simp (decide := true) only [ew_s, ew_0, Option.toList_some, Option.toList_none, List.cons_append, List.nil_append, true_and, and_true, List.length_cons, List.length_nil, Nat.reduceAdd, Nat.reduceLeDiff, Int32.reduceAdd, Int32.reduceSub, Int32.reduceMul, Int32.reduceLT, Int32.reduceLE, Int32.reduceToNatClampNeg, ↓reduceIte, and_self, si_1, si_2, sl_1, sl_2, false_and, and_false, dL_law_712, dL_law_713, dL_law_714, dL_law_715, dL_law_716, dL_law_717, dL_law_718, dL_law_719, dL_law_720, dL_law_721, dL_law_722, dL_law_723, dL_law_724, dL_law_725, dL_law_726, dL_law_727, dL_law_728, dL_law_731, dL_law_732, dL_law_733, dL_law_734, dL_law_735, dL_law_736, dL_law_737, dL_law_738, dL_law_739, dL_law_740, dL_law_741, dL_law_742, dL_law_743, dL_law_744, dL_law_745, dL_law_746, dL_law_747, dL_law_750, dL_law_753, dL_law_754, ca_L_109, ca_L_112, e_aload_n0, e_aload_n1, e_aload_n2, e_callv, e_iadd, e_iaload, e_iload_n3, e_ireturn, j_ic_0, j_ic_1, j_ic_2, j_ic_3, j_icmp_eq_750_187, a1, a2, a3, t1, t2, t3, lg_self, eq_self]
  refine hm _ (fun M2 hR2 => ?_)
  simp (decide := true) only [ew_s, ew_0, Option.toList_some, Option.toList_none, List.cons_append, List.nil_append, true_and, and_true, List.length_cons, List.length_nil, Nat.reduceAdd, Nat.reduceLeDiff, Int32.reduceAdd, Int32.reduceSub, Int32.reduceMul, Int32.reduceLT, Int32.reduceLE, Int32.reduceToNatClampNeg, ↓reduceIte, and_self, si_1, si_2, sl_1, sl_2, false_and, and_false, dL_law_712, dL_law_713, dL_law_714, dL_law_715, dL_law_716, dL_law_717, dL_law_718, dL_law_719, dL_law_720, dL_law_721, dL_law_722, dL_law_723, dL_law_724, dL_law_725, dL_law_726, dL_law_727, dL_law_728, dL_law_731, dL_law_732, dL_law_733, dL_law_734, dL_law_735, dL_law_736, dL_law_737, dL_law_738, dL_law_739, dL_law_740, dL_law_741, dL_law_742, dL_law_743, dL_law_744, dL_law_745, dL_law_746, dL_law_747, dL_law_750, dL_law_753, dL_law_754, ca_L_109, ca_L_112, e_aload_n0, e_aload_n1, e_aload_n2, e_callv, e_iadd, e_iaload, e_iload_n3, e_ireturn, j_ic_0, j_ic_1, j_ic_2, j_ic_3, j_icmp_eq_750_187, a1, a2, a3, t1, t2, t3, lg_self, eq_self]
  exact hh M2 hR2

set_option maxRecDepth 20000 in
set_option maxHeartbeats 4000000 in
theorem lc_thorny {G : ab_K} {Po : ab_P} {L : Nat} {xs : Nat → Int32} (hG : ab_Clo cL_law (x_L L xs) Po G) {i k : Nat} {M : ab_M} (hi : i + 4 ≤ L) (hL : L ≤ 2048) (hk : k + 1 ≤ 1000) (hR : RLK k M) (hh : ∀ M2, RLK (k + 1) M2 → G 937 [some (.ref 200), some (.ref 0), some (.ref 30), some (.int (nI i))] [] M2) : G 755 [some (.ref 200), some (.ref 0), some (.ref 30), some (.int (nI i))] [] M := by
  have a0 := rd_L (xs := xs) hL (j := i) (by omega)
  have a1 := rd_L (xs := xs) hL (j := i + 1) (by omega)
  have a2 := rd_L (xs := xs) hL (j := i + 2) (by omega)
  have a3 := rd_L (xs := xs) hL (j := i + 3) (by omega)
  have t1 : nI i + 1 = nI (i + 1) := nI_1 i
  have t2 : nI i + 2 = nI (i + 2) := nI_add i 2
  have t3 : nI i + 3 = nI (i + 3) := nI_add i 3
  by_cases c0 : xs (i + 3) = 0
  · refine ab_go hG [937] 60 _ _ _ _ ?_
    simp (decide := true) only [ew_s, ew_0, Option.toList_some, Option.toList_none, List.cons_append, List.nil_append, true_and, and_true, List.length_cons, List.length_nil, Nat.reduceAdd, Nat.reduceLeDiff, Int32.reduceAdd, Int32.reduceSub, Int32.reduceMul, Int32.reduceLT, Int32.reduceLE, Int32.reduceToNatClampNeg, ↓reduceIte, and_self, si_1, si_2, sl_1, sl_2, false_and, and_false, dL_law_755, dL_law_756, dL_law_757, dL_law_758, dL_law_759, dL_law_760, dL_law_761, dL_law_762, dL_law_763, dL_law_764, dL_law_765, dL_law_766, dL_law_767, dL_law_768, dL_law_769, dL_law_770, dL_law_771, dL_law_774, dL_law_775, dL_law_778, dL_law_779, dL_law_782, dL_law_783, dL_law_784, dL_law_785, dL_law_786, dL_law_787, dL_law_788, dL_law_789, dL_law_790, dL_law_791, dL_law_792, dL_law_793, dL_law_794, dL_law_795, dL_law_796, dL_law_797, dL_law_798, dL_law_801, dL_law_802, dL_law_805, dL_law_806, dL_law_809, dL_law_812, dL_law_813, ca_L_113, ca_L_117, e_aload_n0, e_aload_n1, e_aload_n2, e_callv, e_iadd, e_iaload, e_iload_n3, e_ireturn, j_goto_775_4, j_goto_802_4, j_ic_0, j_ic_1, j_ic_2, j_ic_3, j_icmp_eq_809_128, j_if_eq_771_7, j_if_eq_798_7, a1, a2, a3, t1, t2, t3, lg_self, eq_self, c0]
    refine w_thorny hk hR _ (fun v M1 hm => ?_)
    simp (decide := true) only [ew_s, ew_0, Option.toList_some, Option.toList_none, List.cons_append, List.nil_append, true_and, and_true, List.length_cons, List.length_nil, Nat.reduceAdd, Nat.reduceLeDiff, Int32.reduceAdd, Int32.reduceSub, Int32.reduceMul, Int32.reduceLT, Int32.reduceLE, Int32.reduceToNatClampNeg, ↓reduceIte, and_self, si_1, si_2, sl_1, sl_2, false_and, and_false, dL_law_755, dL_law_756, dL_law_757, dL_law_758, dL_law_759, dL_law_760, dL_law_761, dL_law_762, dL_law_763, dL_law_764, dL_law_765, dL_law_766, dL_law_767, dL_law_768, dL_law_769, dL_law_770, dL_law_771, dL_law_774, dL_law_775, dL_law_778, dL_law_779, dL_law_782, dL_law_783, dL_law_784, dL_law_785, dL_law_786, dL_law_787, dL_law_788, dL_law_789, dL_law_790, dL_law_791, dL_law_792, dL_law_793, dL_law_794, dL_law_795, dL_law_796, dL_law_797, dL_law_798, dL_law_801, dL_law_802, dL_law_805, dL_law_806, dL_law_809, dL_law_812, dL_law_813, ca_L_113, ca_L_117, e_aload_n0, e_aload_n1, e_aload_n2, e_callv, e_iadd, e_iaload, e_iload_n3, e_ireturn, j_goto_775_4, j_goto_802_4, j_ic_0, j_ic_1, j_ic_2, j_ic_3, j_icmp_eq_809_128, j_if_eq_771_7, j_if_eq_798_7, a1, a2, a3, t1, t2, t3, lg_self, eq_self, c0]
    refine hm _ (fun M2 hR2 => ?_)
    simp (decide := true) only [ew_s, ew_0, Option.toList_some, Option.toList_none, List.cons_append, List.nil_append, true_and, and_true, List.length_cons, List.length_nil, Nat.reduceAdd, Nat.reduceLeDiff, Int32.reduceAdd, Int32.reduceSub, Int32.reduceMul, Int32.reduceLT, Int32.reduceLE, Int32.reduceToNatClampNeg, ↓reduceIte, and_self, si_1, si_2, sl_1, sl_2, false_and, and_false, dL_law_755, dL_law_756, dL_law_757, dL_law_758, dL_law_759, dL_law_760, dL_law_761, dL_law_762, dL_law_763, dL_law_764, dL_law_765, dL_law_766, dL_law_767, dL_law_768, dL_law_769, dL_law_770, dL_law_771, dL_law_774, dL_law_775, dL_law_778, dL_law_779, dL_law_782, dL_law_783, dL_law_784, dL_law_785, dL_law_786, dL_law_787, dL_law_788, dL_law_789, dL_law_790, dL_law_791, dL_law_792, dL_law_793, dL_law_794, dL_law_795, dL_law_796, dL_law_797, dL_law_798, dL_law_801, dL_law_802, dL_law_805, dL_law_806, dL_law_809, dL_law_812, dL_law_813, ca_L_113, ca_L_117, e_aload_n0, e_aload_n1, e_aload_n2, e_callv, e_iadd, e_iaload, e_iload_n3, e_ireturn, j_goto_775_4, j_goto_802_4, j_ic_0, j_ic_1, j_ic_2, j_ic_3, j_icmp_eq_809_128, j_if_eq_771_7, j_if_eq_798_7, a1, a2, a3, t1, t2, t3, lg_self, eq_self, c0]
    exact hh M2 hR2
  · refine ab_go hG [937] 60 _ _ _ _ ?_
    simp (decide := true) only [ew_s, ew_0, Option.toList_some, Option.toList_none, List.cons_append, List.nil_append, true_and, and_true, List.length_cons, List.length_nil, Nat.reduceAdd, Nat.reduceLeDiff, Int32.reduceAdd, Int32.reduceSub, Int32.reduceMul, Int32.reduceLT, Int32.reduceLE, Int32.reduceToNatClampNeg, ↓reduceIte, and_self, si_1, si_2, sl_1, sl_2, false_and, and_false, dL_law_755, dL_law_756, dL_law_757, dL_law_758, dL_law_759, dL_law_760, dL_law_761, dL_law_762, dL_law_763, dL_law_764, dL_law_765, dL_law_766, dL_law_767, dL_law_768, dL_law_769, dL_law_770, dL_law_771, dL_law_774, dL_law_775, dL_law_778, dL_law_779, dL_law_782, dL_law_783, dL_law_784, dL_law_785, dL_law_786, dL_law_787, dL_law_788, dL_law_789, dL_law_790, dL_law_791, dL_law_792, dL_law_793, dL_law_794, dL_law_795, dL_law_796, dL_law_797, dL_law_798, dL_law_801, dL_law_802, dL_law_805, dL_law_806, dL_law_809, dL_law_812, dL_law_813, ca_L_113, ca_L_117, e_aload_n0, e_aload_n1, e_aload_n2, e_callv, e_iadd, e_iaload, e_iload_n3, e_ireturn, j_goto_775_4, j_goto_802_4, j_ic_0, j_ic_1, j_ic_2, j_ic_3, j_icmp_eq_809_128, j_if_eq_771_7, j_if_eq_798_7, a1, a2, a3, t1, t2, t3, lg_self, eq_self, c0]
    refine w_thorny hk hR _ (fun v M1 hm => ?_)
    simp (decide := true) only [ew_s, ew_0, Option.toList_some, Option.toList_none, List.cons_append, List.nil_append, true_and, and_true, List.length_cons, List.length_nil, Nat.reduceAdd, Nat.reduceLeDiff, Int32.reduceAdd, Int32.reduceSub, Int32.reduceMul, Int32.reduceLT, Int32.reduceLE, Int32.reduceToNatClampNeg, ↓reduceIte, and_self, si_1, si_2, sl_1, sl_2, false_and, and_false, dL_law_755, dL_law_756, dL_law_757, dL_law_758, dL_law_759, dL_law_760, dL_law_761, dL_law_762, dL_law_763, dL_law_764, dL_law_765, dL_law_766, dL_law_767, dL_law_768, dL_law_769, dL_law_770, dL_law_771, dL_law_774, dL_law_775, dL_law_778, dL_law_779, dL_law_782, dL_law_783, dL_law_784, dL_law_785, dL_law_786, dL_law_787, dL_law_788, dL_law_789, dL_law_790, dL_law_791, dL_law_792, dL_law_793, dL_law_794, dL_law_795, dL_law_796, dL_law_797, dL_law_798, dL_law_801, dL_law_802, dL_law_805, dL_law_806, dL_law_809, dL_law_812, dL_law_813, ca_L_113, ca_L_117, e_aload_n0, e_aload_n1, e_aload_n2, e_callv, e_iadd, e_iaload, e_iload_n3, e_ireturn, j_goto_775_4, j_goto_802_4, j_ic_0, j_ic_1, j_ic_2, j_ic_3, j_icmp_eq_809_128, j_if_eq_771_7, j_if_eq_798_7, a1, a2, a3, t1, t2, t3, lg_self, eq_self, c0]
    refine hm _ (fun M2 hR2 => ?_)
    simp (decide := true) only [ew_s, ew_0, Option.toList_some, Option.toList_none, List.cons_append, List.nil_append, true_and, and_true, List.length_cons, List.length_nil, Nat.reduceAdd, Nat.reduceLeDiff, Int32.reduceAdd, Int32.reduceSub, Int32.reduceMul, Int32.reduceLT, Int32.reduceLE, Int32.reduceToNatClampNeg, ↓reduceIte, and_self, si_1, si_2, sl_1, sl_2, false_and, and_false, dL_law_755, dL_law_756, dL_law_757, dL_law_758, dL_law_759, dL_law_760, dL_law_761, dL_law_762, dL_law_763, dL_law_764, dL_law_765, dL_law_766, dL_law_767, dL_law_768, dL_law_769, dL_law_770, dL_law_771, dL_law_774, dL_law_775, dL_law_778, dL_law_779, dL_law_782, dL_law_783, dL_law_784, dL_law_785, dL_law_786, dL_law_787, dL_law_788, dL_law_789, dL_law_790, dL_law_791, dL_law_792, dL_law_793, dL_law_794, dL_law_795, dL_law_796, dL_law_797, dL_law_798, dL_law_801, dL_law_802, dL_law_805, dL_law_806, dL_law_809, dL_law_812, dL_law_813, ca_L_113, ca_L_117, e_aload_n0, e_aload_n1, e_aload_n2, e_callv, e_iadd, e_iaload, e_iload_n3, e_ireturn, j_goto_775_4, j_goto_802_4, j_ic_0, j_ic_1, j_ic_2, j_ic_3, j_icmp_eq_809_128, j_if_eq_771_7, j_if_eq_798_7, a1, a2, a3, t1, t2, t3, lg_self, eq_self, c0]
    exact hh M2 hR2

set_option maxRecDepth 20000 in
set_option maxHeartbeats 4000000 in
theorem lc_seed {G : ab_K} {Po : ab_P} {L : Nat} {xs : Nat → Int32} (hG : ab_Clo cL_law (x_L L xs) Po G) {i k : Nat} {M : ab_M} (hi : i + 4 ≤ L) (hL : L ≤ 2048) (hk : k + 1 ≤ 1000) (hR : RLK k M) (hh : ∀ M2, RLK (k + 1) M2 → G 937 [some (.ref 200), some (.ref 0), some (.ref 30), some (.int (nI i))] [] M2) : G 814 [some (.ref 200), some (.ref 0), some (.ref 30), some (.int (nI i))] [] M := by
  have a0 := rd_L (xs := xs) hL (j := i) (by omega)
  have a1 := rd_L (xs := xs) hL (j := i + 1) (by omega)
  have a2 := rd_L (xs := xs) hL (j := i + 2) (by omega)
  have a3 := rd_L (xs := xs) hL (j := i + 3) (by omega)
  have t1 : nI i + 1 = nI (i + 1) := nI_1 i
  have t2 : nI i + 2 = nI (i + 2) := nI_add i 2
  have t3 : nI i + 3 = nI (i + 3) := nI_add i 3
  refine ab_go hG [937] 60 _ _ _ _ ?_
  simp (decide := true) only [ew_s, ew_0, Option.toList_some, Option.toList_none, List.cons_append, List.nil_append, true_and, and_true, List.length_cons, List.length_nil, Nat.reduceAdd, Nat.reduceLeDiff, Int32.reduceAdd, Int32.reduceSub, Int32.reduceMul, Int32.reduceLT, Int32.reduceLE, Int32.reduceToNatClampNeg, ↓reduceIte, and_self, si_1, si_2, sl_1, sl_2, false_and, and_false, dL_law_814, dL_law_815, dL_law_816, dL_law_817, dL_law_818, dL_law_819, dL_law_820, dL_law_821, dL_law_823, dL_law_824, dL_law_825, dL_law_826, dL_law_827, dL_law_828, dL_law_829, dL_law_830, dL_law_833, dL_law_834, dL_law_835, dL_law_838, dL_law_839, dL_law_840, dL_law_841, dL_law_842, dL_law_843, dL_law_844, dL_law_845, dL_law_847, dL_law_848, dL_law_849, dL_law_850, dL_law_851, dL_law_852, dL_law_853, dL_law_854, dL_law_857, dL_law_858, dL_law_859, dL_law_862, dL_law_863, dL_law_866, dL_law_867, ca_L_118, ca_L_122, e_aload_n0, e_aload_n1, e_aload_n2, e_callv, e_i2l, e_iadd, e_iaload, e_iload_n3, e_ireturn, e_kl_L_84, e_land, e_lcmp, e_lor, e_lshl, j_bp_32, j_ic_0, j_ic_1, j_ic_2, j_if_eq_863_74, a1, a2, a3, t1, t2, t3, lg_self, eq_self]
  refine w_seed hk hR _ (fun v M1 hm => ?_)
  simp (decide := true) only [ew_s, ew_0, Option.toList_some, Option.toList_none, List.cons_append, List.nil_append, true_and, and_true, List.length_cons, List.length_nil, Nat.reduceAdd, Nat.reduceLeDiff, Int32.reduceAdd, Int32.reduceSub, Int32.reduceMul, Int32.reduceLT, Int32.reduceLE, Int32.reduceToNatClampNeg, ↓reduceIte, and_self, si_1, si_2, sl_1, sl_2, false_and, and_false, dL_law_814, dL_law_815, dL_law_816, dL_law_817, dL_law_818, dL_law_819, dL_law_820, dL_law_821, dL_law_823, dL_law_824, dL_law_825, dL_law_826, dL_law_827, dL_law_828, dL_law_829, dL_law_830, dL_law_833, dL_law_834, dL_law_835, dL_law_838, dL_law_839, dL_law_840, dL_law_841, dL_law_842, dL_law_843, dL_law_844, dL_law_845, dL_law_847, dL_law_848, dL_law_849, dL_law_850, dL_law_851, dL_law_852, dL_law_853, dL_law_854, dL_law_857, dL_law_858, dL_law_859, dL_law_862, dL_law_863, dL_law_866, dL_law_867, ca_L_118, ca_L_122, e_aload_n0, e_aload_n1, e_aload_n2, e_callv, e_i2l, e_iadd, e_iaload, e_iload_n3, e_ireturn, e_kl_L_84, e_land, e_lcmp, e_lor, e_lshl, j_bp_32, j_ic_0, j_ic_1, j_ic_2, j_if_eq_863_74, a1, a2, a3, t1, t2, t3, lg_self, eq_self]
  refine hm _ (fun M2 hR2 => ?_)
  simp (decide := true) only [ew_s, ew_0, Option.toList_some, Option.toList_none, List.cons_append, List.nil_append, true_and, and_true, List.length_cons, List.length_nil, Nat.reduceAdd, Nat.reduceLeDiff, Int32.reduceAdd, Int32.reduceSub, Int32.reduceMul, Int32.reduceLT, Int32.reduceLE, Int32.reduceToNatClampNeg, ↓reduceIte, and_self, si_1, si_2, sl_1, sl_2, false_and, and_false, dL_law_814, dL_law_815, dL_law_816, dL_law_817, dL_law_818, dL_law_819, dL_law_820, dL_law_821, dL_law_823, dL_law_824, dL_law_825, dL_law_826, dL_law_827, dL_law_828, dL_law_829, dL_law_830, dL_law_833, dL_law_834, dL_law_835, dL_law_838, dL_law_839, dL_law_840, dL_law_841, dL_law_842, dL_law_843, dL_law_844, dL_law_845, dL_law_847, dL_law_848, dL_law_849, dL_law_850, dL_law_851, dL_law_852, dL_law_853, dL_law_854, dL_law_857, dL_law_858, dL_law_859, dL_law_862, dL_law_863, dL_law_866, dL_law_867, ca_L_118, ca_L_122, e_aload_n0, e_aload_n1, e_aload_n2, e_callv, e_i2l, e_iadd, e_iaload, e_iload_n3, e_ireturn, e_kl_L_84, e_land, e_lcmp, e_lor, e_lshl, j_bp_32, j_ic_0, j_ic_1, j_ic_2, j_if_eq_863_74, a1, a2, a3, t1, t2, t3, lg_self, eq_self]
  exact hh M2 hR2

set_option maxRecDepth 20000 in
set_option maxHeartbeats 4000000 in
theorem lc_campaigns {G : ab_K} {Po : ab_P} {L : Nat} {xs : Nat → Int32} (hG : ab_Clo cL_law (x_L L xs) Po G) {i k : Nat} {M : ab_M} (hi : i + 4 ≤ L) (hL : L ≤ 2048) (hk : k + 1 ≤ 1000) (hR : RLK k M) (hh : ∀ M2, RLK (k + 1) M2 → G 937 [some (.ref 200), some (.ref 0), some (.ref 30), some (.int (nI i))] [] M2) : G 868 [some (.ref 200), some (.ref 0), some (.ref 30), some (.int (nI i))] [] M := by
  have a0 := rd_L (xs := xs) hL (j := i) (by omega)
  have a1 := rd_L (xs := xs) hL (j := i + 1) (by omega)
  have a2 := rd_L (xs := xs) hL (j := i + 2) (by omega)
  have a3 := rd_L (xs := xs) hL (j := i + 3) (by omega)
  have t1 : nI i + 1 = nI (i + 1) := nI_1 i
  have t2 : nI i + 2 = nI (i + 2) := nI_add i 2
  have t3 : nI i + 3 = nI (i + 3) := nI_add i 3
  refine ab_go hG [937] 60 _ _ _ _ ?_
  simp (decide := true) only [ew_s, ew_0, Option.toList_some, Option.toList_none, List.cons_append, List.nil_append, true_and, and_true, List.length_cons, List.length_nil, Nat.reduceAdd, Nat.reduceLeDiff, Int32.reduceAdd, Int32.reduceSub, Int32.reduceMul, Int32.reduceLT, Int32.reduceLE, Int32.reduceToNatClampNeg, ↓reduceIte, and_self, si_1, si_2, sl_1, sl_2, false_and, and_false, dL_law_868, dL_law_869, dL_law_870, dL_law_871, dL_law_872, dL_law_873, dL_law_874, dL_law_877, dL_law_878, dL_law_879, dL_law_880, dL_law_881, dL_law_882, dL_law_883, dL_law_886, dL_law_889, dL_law_890, ca_L_123, ca_L_126, e_aload_n0, e_aload_n1, e_aload_n2, e_callv, e_iadd, e_iaload, e_iload_n3, e_ireturn, j_ic_0, j_ic_1, j_icmp_eq_886_51, a1, a2, a3, t1, t2, t3, lg_self, eq_self]
  refine w_campaigns hk hR _ (fun v M1 hm => ?_)
  simp (decide := true) only [ew_s, ew_0, Option.toList_some, Option.toList_none, List.cons_append, List.nil_append, true_and, and_true, List.length_cons, List.length_nil, Nat.reduceAdd, Nat.reduceLeDiff, Int32.reduceAdd, Int32.reduceSub, Int32.reduceMul, Int32.reduceLT, Int32.reduceLE, Int32.reduceToNatClampNeg, ↓reduceIte, and_self, si_1, si_2, sl_1, sl_2, false_and, and_false, dL_law_868, dL_law_869, dL_law_870, dL_law_871, dL_law_872, dL_law_873, dL_law_874, dL_law_877, dL_law_878, dL_law_879, dL_law_880, dL_law_881, dL_law_882, dL_law_883, dL_law_886, dL_law_889, dL_law_890, ca_L_123, ca_L_126, e_aload_n0, e_aload_n1, e_aload_n2, e_callv, e_iadd, e_iaload, e_iload_n3, e_ireturn, j_ic_0, j_ic_1, j_icmp_eq_886_51, a1, a2, a3, t1, t2, t3, lg_self, eq_self]
  refine hm _ (fun M2 hR2 => ?_)
  simp (decide := true) only [ew_s, ew_0, Option.toList_some, Option.toList_none, List.cons_append, List.nil_append, true_and, and_true, List.length_cons, List.length_nil, Nat.reduceAdd, Nat.reduceLeDiff, Int32.reduceAdd, Int32.reduceSub, Int32.reduceMul, Int32.reduceLT, Int32.reduceLE, Int32.reduceToNatClampNeg, ↓reduceIte, and_self, si_1, si_2, sl_1, sl_2, false_and, and_false, dL_law_868, dL_law_869, dL_law_870, dL_law_871, dL_law_872, dL_law_873, dL_law_874, dL_law_877, dL_law_878, dL_law_879, dL_law_880, dL_law_881, dL_law_882, dL_law_883, dL_law_886, dL_law_889, dL_law_890, ca_L_123, ca_L_126, e_aload_n0, e_aload_n1, e_aload_n2, e_callv, e_iadd, e_iaload, e_iload_n3, e_ireturn, j_ic_0, j_ic_1, j_icmp_eq_886_51, a1, a2, a3, t1, t2, t3, lg_self, eq_self]
  exact hh M2 hR2

set_option maxRecDepth 20000 in
set_option maxHeartbeats 4000000 in
theorem lc_keep {G : ab_K} {Po : ab_P} {L : Nat} {xs : Nat → Int32} (hG : ab_Clo cL_law (x_L L xs) Po G) {i k : Nat} {M : ab_M} (hi : i + 4 ≤ L) (hL : L ≤ 2048) (hk : k + 1 ≤ 1000) (hR : RLK k M) (hh : ∀ M2, RLK (k + 1) M2 → G 937 [some (.ref 200), some (.ref 0), some (.ref 30), some (.int (nI i))] [] M2) : G 891 [some (.ref 200), some (.ref 0), some (.ref 30), some (.int (nI i))] [] M := by
  have a0 := rd_L (xs := xs) hL (j := i) (by omega)
  have a1 := rd_L (xs := xs) hL (j := i + 1) (by omega)
  have a2 := rd_L (xs := xs) hL (j := i + 2) (by omega)
  have a3 := rd_L (xs := xs) hL (j := i + 3) (by omega)
  have t1 : nI i + 1 = nI (i + 1) := nI_1 i
  have t2 : nI i + 2 = nI (i + 2) := nI_add i 2
  have t3 : nI i + 3 = nI (i + 3) := nI_add i 3
  refine ab_go hG [937] 60 _ _ _ _ ?_
  simp (decide := true) only [ew_s, ew_0, Option.toList_some, Option.toList_none, List.cons_append, List.nil_append, true_and, and_true, List.length_cons, List.length_nil, Nat.reduceAdd, Nat.reduceLeDiff, Int32.reduceAdd, Int32.reduceSub, Int32.reduceMul, Int32.reduceLT, Int32.reduceLE, Int32.reduceToNatClampNeg, ↓reduceIte, and_self, si_1, si_2, sl_1, sl_2, false_and, and_false, dL_law_891, dL_law_892, dL_law_893, dL_law_894, dL_law_895, dL_law_896, dL_law_897, dL_law_900, dL_law_901, dL_law_902, dL_law_903, dL_law_904, dL_law_905, dL_law_906, dL_law_909, dL_law_912, dL_law_913, ca_L_127, ca_L_130, e_aload_n0, e_aload_n1, e_aload_n2, e_callv, e_iadd, e_iaload, e_iload_n3, e_ireturn, j_ic_0, j_ic_1, j_icmp_eq_909_28, a1, a2, a3, t1, t2, t3, lg_self, eq_self]
  refine w_keep hk hR _ (fun v M1 hm => ?_)
  simp (decide := true) only [ew_s, ew_0, Option.toList_some, Option.toList_none, List.cons_append, List.nil_append, true_and, and_true, List.length_cons, List.length_nil, Nat.reduceAdd, Nat.reduceLeDiff, Int32.reduceAdd, Int32.reduceSub, Int32.reduceMul, Int32.reduceLT, Int32.reduceLE, Int32.reduceToNatClampNeg, ↓reduceIte, and_self, si_1, si_2, sl_1, sl_2, false_and, and_false, dL_law_891, dL_law_892, dL_law_893, dL_law_894, dL_law_895, dL_law_896, dL_law_897, dL_law_900, dL_law_901, dL_law_902, dL_law_903, dL_law_904, dL_law_905, dL_law_906, dL_law_909, dL_law_912, dL_law_913, ca_L_127, ca_L_130, e_aload_n0, e_aload_n1, e_aload_n2, e_callv, e_iadd, e_iaload, e_iload_n3, e_ireturn, j_ic_0, j_ic_1, j_icmp_eq_909_28, a1, a2, a3, t1, t2, t3, lg_self, eq_self]
  refine hm _ (fun M2 hR2 => ?_)
  simp (decide := true) only [ew_s, ew_0, Option.toList_some, Option.toList_none, List.cons_append, List.nil_append, true_and, and_true, List.length_cons, List.length_nil, Nat.reduceAdd, Nat.reduceLeDiff, Int32.reduceAdd, Int32.reduceSub, Int32.reduceMul, Int32.reduceLT, Int32.reduceLE, Int32.reduceToNatClampNeg, ↓reduceIte, and_self, si_1, si_2, sl_1, sl_2, false_and, and_false, dL_law_891, dL_law_892, dL_law_893, dL_law_894, dL_law_895, dL_law_896, dL_law_897, dL_law_900, dL_law_901, dL_law_902, dL_law_903, dL_law_904, dL_law_905, dL_law_906, dL_law_909, dL_law_912, dL_law_913, ca_L_127, ca_L_130, e_aload_n0, e_aload_n1, e_aload_n2, e_callv, e_iadd, e_iaload, e_iload_n3, e_ireturn, j_ic_0, j_ic_1, j_icmp_eq_909_28, a1, a2, a3, t1, t2, t3, lg_self, eq_self]
  exact hh M2 hR2

set_option maxRecDepth 20000 in
set_option maxHeartbeats 4000000 in
theorem lc_again {G : ab_K} {Po : ab_P} {L : Nat} {xs : Nat → Int32} (hG : ab_Clo cL_law (x_L L xs) Po G) {i k : Nat} {M : ab_M} (hi : i + 4 ≤ L) (hL : L ≤ 2048) (hk : k + 1 ≤ 1000) (hR : RLK k M) (hh : ∀ M2, RLK (k + 1) M2 → G 937 [some (.ref 200), some (.ref 0), some (.ref 30), some (.int (nI i))] [] M2) : G 914 [some (.ref 200), some (.ref 0), some (.ref 30), some (.int (nI i))] [] M := by
  have a0 := rd_L (xs := xs) hL (j := i) (by omega)
  have a1 := rd_L (xs := xs) hL (j := i + 1) (by omega)
  have a2 := rd_L (xs := xs) hL (j := i + 2) (by omega)
  have a3 := rd_L (xs := xs) hL (j := i + 3) (by omega)
  have t1 : nI i + 1 = nI (i + 1) := nI_1 i
  have t2 : nI i + 2 = nI (i + 2) := nI_add i 2
  have t3 : nI i + 3 = nI (i + 3) := nI_add i 3
  refine ab_go hG [937] 60 _ _ _ _ ?_
  simp (decide := true) only [ew_s, ew_0, Option.toList_some, Option.toList_none, List.cons_append, List.nil_append, true_and, and_true, List.length_cons, List.length_nil, Nat.reduceAdd, Nat.reduceLeDiff, Int32.reduceAdd, Int32.reduceSub, Int32.reduceMul, Int32.reduceLT, Int32.reduceLE, Int32.reduceToNatClampNeg, ↓reduceIte, and_self, si_1, si_2, sl_1, sl_2, false_and, and_false, dL_law_914, dL_law_915, dL_law_916, dL_law_917, dL_law_918, dL_law_919, dL_law_920, dL_law_923, dL_law_924, dL_law_925, dL_law_926, dL_law_927, dL_law_928, dL_law_929, dL_law_932, dL_law_935, dL_law_936, ca_L_131, ca_L_134, e_aload_n0, e_aload_n1, e_aload_n2, e_callv, e_iadd, e_iaload, e_iload_n3, e_ireturn, j_ic_0, j_ic_1, j_icmp_eq_932_5, a1, a2, a3, t1, t2, t3, lg_self, eq_self]
  refine w_again hk hR _ (fun v M1 hm => ?_)
  simp (decide := true) only [ew_s, ew_0, Option.toList_some, Option.toList_none, List.cons_append, List.nil_append, true_and, and_true, List.length_cons, List.length_nil, Nat.reduceAdd, Nat.reduceLeDiff, Int32.reduceAdd, Int32.reduceSub, Int32.reduceMul, Int32.reduceLT, Int32.reduceLE, Int32.reduceToNatClampNeg, ↓reduceIte, and_self, si_1, si_2, sl_1, sl_2, false_and, and_false, dL_law_914, dL_law_915, dL_law_916, dL_law_917, dL_law_918, dL_law_919, dL_law_920, dL_law_923, dL_law_924, dL_law_925, dL_law_926, dL_law_927, dL_law_928, dL_law_929, dL_law_932, dL_law_935, dL_law_936, ca_L_131, ca_L_134, e_aload_n0, e_aload_n1, e_aload_n2, e_callv, e_iadd, e_iaload, e_iload_n3, e_ireturn, j_ic_0, j_ic_1, j_icmp_eq_932_5, a1, a2, a3, t1, t2, t3, lg_self, eq_self]
  refine hm _ (fun M2 hR2 => ?_)
  simp (decide := true) only [ew_s, ew_0, Option.toList_some, Option.toList_none, List.cons_append, List.nil_append, true_and, and_true, List.length_cons, List.length_nil, Nat.reduceAdd, Nat.reduceLeDiff, Int32.reduceAdd, Int32.reduceSub, Int32.reduceMul, Int32.reduceLT, Int32.reduceLE, Int32.reduceToNatClampNeg, ↓reduceIte, and_self, si_1, si_2, sl_1, sl_2, false_and, and_false, dL_law_914, dL_law_915, dL_law_916, dL_law_917, dL_law_918, dL_law_919, dL_law_920, dL_law_923, dL_law_924, dL_law_925, dL_law_926, dL_law_927, dL_law_928, dL_law_929, dL_law_932, dL_law_935, dL_law_936, ca_L_131, ca_L_134, e_aload_n0, e_aload_n1, e_aload_n2, e_callv, e_iadd, e_iaload, e_iload_n3, e_ireturn, j_ic_0, j_ic_1, j_icmp_eq_932_5, a1, a2, a3, t1, t2, t3, lg_self, eq_self]
  exact hh M2 hR2

set_option maxRecDepth 20000 in
set_option maxHeartbeats 4000000 in
theorem law_sw {G : ab_K} {Po : ab_P} {L : Nat} {xs : Nat → Int32} (hG : ab_Clo cL_law (x_L L xs) Po G) {i k : Nat} {M : ab_M} (hi : i + 4 ≤ L) (hL : L ≤ 2048) (hk : k + 1 ≤ 1000) (hR : RLK k M) (hh : ∀ M2, RLK (k + 1) M2 → G 937 [some (.ref 200), some (.ref 0), some (.ref 30), some (.int (nI i))] [] M2) : G 26 [some (.ref 200), some (.ref 0), some (.ref 30), some (.int (nI i))] [] M := by
  have a0 := rd_L (xs := xs) hL (j := i) (by omega)
  refine ab_go hG [18, 160, 183, 196, 209, 222, 245, 278, 311, 324, 337, 360, 383, 396, 429, 442, 465, 488, 521, 584, 633, 676, 689, 712, 755, 814, 868, 891, 914, 937, 943] 20 _ _ _ _ ?_
  simp (decide := true) only [ew_s, ew_0, Option.toList_some, Option.toList_none, List.cons_append, List.nil_append, true_and, and_true, List.length_cons, List.length_nil, Nat.reduceAdd, Nat.reduceLeDiff, Int32.reduceAdd, Int32.reduceSub, Int32.reduceMul, Int32.reduceLT, Int32.reduceLE, Int32.reduceToNatClampNeg, ↓reduceIte, and_self, si_1, si_2, sl_1, sl_2, false_and, and_false, dL_law_26, dL_law_27, dL_law_28, dL_law_29, dL_law_31, dL_law_32, e_aload_n0, e_iaload, e_iand, e_iload_n3, j_bp_31, j_sw_L_law_32, a0]
  exact ite_i (fun _ => lc_write hG hi hL hk hR hh) (fun _ => ite_i (fun _ => lc_wipe hG hi hL hk hR hh) (fun _ => ite_i (fun _ => lc_fault hG hi hL hk hR hh) (fun _ => ite_i (fun _ => lc_army hG hi hL hk hR hh) (fun _ => ite_i (fun _ => lc_about hG hi hL hk hR hh) (fun _ => ite_i (fun _ => lc_man hG hi hL hk hR hh) (fun _ => ite_i (fun _ => lc_stretch hG hi hL hk hR hh) (fun _ => ite_i (fun _ => lc_day hG hi hL hk hR hh) (fun _ => ite_i (fun _ => lc_halt hG hi hL hk hR hh) (fun _ => ite_i (fun _ => lc_gravel hG hi hL hk hR hh) (fun _ => ite_i (fun _ => lc_pull hG hi hL hk hR hh) (fun _ => ite_i (fun _ => lc_undo hG hi hL hk hR hh) (fun _ => ite_i (fun _ => lc_later hG hi hL hk hR hh) (fun _ => ite_i (fun _ => lc_comes hG hi hL hk hR hh) (fun _ => ite_i (fun _ => lc_leads hG hi hL hk hR hh) (fun _ => ite_i (fun _ => lc_cure hG hi hL hk hR hh) (fun _ => ite_i (fun _ => lc_plan hG hi hL hk hR hh) (fun _ => ite_i (fun _ => lc_judge hG hi hL hk hR hh) (fun _ => ite_i (fun _ => lc_share hG hi hL hk hR hh) (fun _ => ite_i (fun _ => lc_attempt hG hi hL hk hR hh) (fun _ => ite_i (fun _ => lc_unattempt hG hi hL hk hR hh) (fun _ => ite_i (fun _ => lc_paces hG hi hL hk hR hh) (fun _ => ite_i (fun _ => lc_rests hG hi hL hk hR hh) (fun _ => ite_i (fun _ => lc_thorny hG hi hL hk hR hh) (fun _ => ite_i (fun _ => lc_seed hG hi hL hk hR hh) (fun _ => ite_i (fun _ => lc_campaigns hG hi hL hk hR hh) (fun _ => ite_i (fun _ => lc_keep hG hi hL hk hR hh) (fun _ => ite_i (fun _ => lc_again hG hi hL hk hR hh) (fun _ => hh M (RLK_mo hk hR)))))))))))))))))))))))))))))
set_option maxRecDepth 20000 in
set_option maxHeartbeats 4000000 in
theorem law_loop {G : ab_K} {Po : ab_P} {L : Nat} {xs : Nat → Int32} (hG : ab_Clo cL_law (x_L L xs) Po G) (hL : L ≤ 2048) (hP : ∀ M, Po (some (.int 1)) M) : ∀ (j k : Nat) (M : ab_M), L < 4 * (k + j) + 4 → k ≤ 512 → RLK k M → G 18 [some (.ref 200), some (.ref 0), some (.ref 30), some (.int (nI (4 * k)))] [] M := by
  have l4 : ∀ q : Nat, q ≤ 2048 → ((nI L - 4 < nI q) ↔ L < q + 4) := fun q hq => by
    rw [Int32.lt_iff_toInt_lt, show (4 : Int32) = nI 4 from rfl, pk_sub_toInt (by omega) (by omega), nI_toInt (by omega)]
    omega
  have fin : ∀ (q : Nat) (M : ab_M), G 943 [some (.ref 200), some (.ref 0), some (.ref 30), some (.int (nI q))] [] M := fun q M => by
    refine ab_go hG [] 5 _ _ _ _ ?_
    simp (decide := true) only [ew_n, ew_0, Option.toList_some, Option.toList_none, List.cons_append, List.nil_append, true_and, and_true, List.length_cons, List.length_nil, Nat.reduceAdd, Nat.reduceLeDiff, Int32.reduceAdd, Int32.reduceSub, Int32.reduceMul, Int32.reduceLT, Int32.reduceLE, Int32.reduceToNatClampNeg, ↓reduceIte, and_self, si_1, si_2, sl_1, sl_2, false_and, and_false, dL_law_943, dL_law_944, e_ireturn, j_ic_1, ab_rn]
    exact hP M
  intro j
  induction j with
  | zero =>
    intro k M hj hk hR
    refine ab_go1 hG [18, 26, 943] 20 _ _ _ _ ?_
    simp (decide := true) only [ew_s, ew_0, Option.toList_some, Option.toList_none, List.cons_append, List.nil_append, true_and, and_true, List.length_cons, List.length_nil, Nat.reduceAdd, Nat.reduceLeDiff, Int32.reduceAdd, Int32.reduceSub, Int32.reduceMul, Int32.reduceLT, Int32.reduceLE, Int32.reduceToNatClampNeg, ↓reduceIte, and_self, si_1, si_2, sl_1, sl_2, false_and, and_false, dL_law_18, dL_law_19, dL_law_20, dL_law_21, dL_law_22, dL_law_23, e_alen, e_aload_n0, e_iload_n3, e_isub, j_ic_4, j_icmp_gt_23_920, ln_L]
    rw [if_pos ((l4 (4 * k) (by omega)).mpr (by omega))]
    exact fin (4 * k) M
  | succ j ih =>
    intro k M hj hk hR
    refine ab_go1 hG [18, 26, 943] 20 _ _ _ _ ?_
    simp (decide := true) only [ew_s, ew_0, Option.toList_some, Option.toList_none, List.cons_append, List.nil_append, true_and, and_true, List.length_cons, List.length_nil, Nat.reduceAdd, Nat.reduceLeDiff, Int32.reduceAdd, Int32.reduceSub, Int32.reduceMul, Int32.reduceLT, Int32.reduceLE, Int32.reduceToNatClampNeg, ↓reduceIte, and_self, si_1, si_2, sl_1, sl_2, false_and, and_false, dL_law_18, dL_law_19, dL_law_20, dL_law_21, dL_law_22, dL_law_23, e_alen, e_aload_n0, e_iload_n3, e_isub, j_ic_4, j_icmp_gt_23_920, ln_L]
    by_cases c : L < 4 * k + 4
    · rw [if_pos ((l4 (4 * k) (by omega)).mpr c)]
      exact fin (4 * k) M
    · rw [if_neg (fun h => c ((l4 (4 * k) (by omega)).mp h))]
      refine law_sw hG (i := 4 * k) (k := k) (by omega) hL (by omega) hR (fun M2 hR2 => ?_)
      refine ab_go hG [18] 5 _ _ _ _ ?_
      have t4 : nI (4 * k) + 4 = nI (4 * (k + 1)) := nI_add (4 * k) 4
      simp (decide := true) only [ew_s, ew_0, Option.toList_some, Option.toList_none, List.cons_append, List.nil_append, true_and, and_true, List.length_cons, List.length_nil, Nat.reduceAdd, Nat.reduceLeDiff, Int32.reduceAdd, Int32.reduceSub, Int32.reduceMul, Int32.reduceLT, Int32.reduceLE, Int32.reduceToNatClampNeg, ↓reduceIte, and_self, si_1, si_2, sl_1, sl_2, false_and, and_false, dL_law_937, dL_law_940, j_goto_940_m922, j_ii_3_4, t4]
      exact ih (k + 1) M2 (by omega) (by omega) hR2
