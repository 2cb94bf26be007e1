/-! METHODS: the model, what is tried out -/
/-- the memory with other scratch of the model: seven numbers, the trial, the other trial, gains, values -/
def jw (M : ab_M) (z g h p q : Nat → Int32) : ab_M := (fun a b => if a = 30 then (if b = 27 ∨ b = 28 ∨ b = 29 ∨ b = 30 ∨ b = 31 ∨ b = 32 ∨ b = 35 then z b else M.1 30 b) else if a = 39 then g b else if a = 40 then h b else if a = 47 then p b else if a = 48 then q b else M.1 a b, M.2)
theorem jw_id (M : ab_M) : jw M (M.1 30) (M.1 39) (M.1 40) (M.1 47) (M.1 48) = M := by
  refine Prod.ext (funext fun a => funext fun b => ?_) rfl
  simp only [jw]
  by_cases h1 : a = 30
  · subst h1; simp
  · by_cases h2 : a = 39
    · subst h2; rfl
    · by_cases h3 : a = 40
      · subst h3; rfl
      · by_cases h4 : a = 47
        · subst h4; rfl
        · by_cases h5 : a = 48
          · subst h5; rfl
          · simp [h1, h2, h3, h4, h5]
theorem jw_30_0 {M : ab_M} {z g h p q : Nat → Int32} : (jw M z g h p q).1 30 0 = M.1 30 0 := rfl
theorem jw_30_2 {M : ab_M} {z g h p q : Nat → Int32} : (jw M z g h p q).1 30 2 = M.1 30 2 := rfl
theorem jw_30_4 {M : ab_M} {z g h p q : Nat → Int32} : (jw M z g h p q).1 30 4 = M.1 30 4 := rfl
theorem jw_30_7 {M : ab_M} {z g h p q : Nat → Int32} : (jw M z g h p q).1 30 7 = M.1 30 7 := rfl
theorem jw_30_10 {M : ab_M} {z g h p q : Nat → Int32} : (jw M z g h p q).1 30 10 = M.1 30 10 := rfl
theorem jw_30_19 {M : ab_M} {z g h p q : Nat → Int32} : (jw M z g h p q).1 30 19 = M.1 30 19 := rfl
theorem jw_30_22 {M : ab_M} {z g h p q : Nat → Int32} : (jw M z g h p q).1 30 22 = M.1 30 22 := rfl
theorem jw_30_27 {M : ab_M} {z g h p q : Nat → Int32} : (jw M z g h p q).1 30 27 = z 27 := rfl
theorem jw_30_28 {M : ab_M} {z g h p q : Nat → Int32} : (jw M z g h p q).1 30 28 = z 28 := rfl
theorem jw_30_29 {M : ab_M} {z g h p q : Nat → Int32} : (jw M z g h p q).1 30 29 = z 29 := rfl
theorem jw_30_30 {M : ab_M} {z g h p q : Nat → Int32} : (jw M z g h p q).1 30 30 = z 30 := rfl
theorem jw_30_31 {M : ab_M} {z g h p q : Nat → Int32} : (jw M z g h p q).1 30 31 = z 31 := rfl
theorem jw_30_32 {M : ab_M} {z g h p q : Nat → Int32} : (jw M z g h p q).1 30 32 = z 32 := rfl
theorem jw_30_35 {M : ab_M} {z g h p q : Nat → Int32} : (jw M z g h p q).1 30 35 = z 35 := rfl
theorem jw_32 {M : ab_M} {z g h p q : Nat → Int32} {b : Nat} : (jw M z g h p q).1 32 b = M.1 32 b := rfl
theorem jw_32f {M : ab_M} {z g h p q : Nat → Int32} : (jw M z g h p q).1 32 = M.1 32 := rfl
theorem jw_33 {M : ab_M} {z g h p q : Nat → Int32} {b : Nat} : (jw M z g h p q).1 33 b = M.1 33 b := rfl
theorem jw_33f {M : ab_M} {z g h p q : Nat → Int32} : (jw M z g h p q).1 33 = M.1 33 := rfl
theorem jw_34 {M : ab_M} {z g h p q : Nat → Int32} {b : Nat} : (jw M z g h p q).1 34 b = M.1 34 b := rfl
theorem jw_34f {M : ab_M} {z g h p q : Nat → Int32} : (jw M z g h p q).1 34 = M.1 34 := rfl
theorem jw_35 {M : ab_M} {z g h p q : Nat → Int32} {b : Nat} : (jw M z g h p q).1 35 b = M.1 35 b := rfl
theorem jw_35f {M : ab_M} {z g h p q : Nat → Int32} : (jw M z g h p q).1 35 = M.1 35 := rfl
theorem jw_38 {M : ab_M} {z g h p q : Nat → Int32} {b : Nat} : (jw M z g h p q).1 38 b = M.1 38 b := rfl
theorem jw_38f {M : ab_M} {z g h p q : Nat → Int32} : (jw M z g h p q).1 38 = M.1 38 := rfl
theorem jw_41 {M : ab_M} {z g h p q : Nat → Int32} {b : Nat} : (jw M z g h p q).1 41 b = M.1 41 b := rfl
theorem jw_41f {M : ab_M} {z g h p q : Nat → Int32} : (jw M z g h p q).1 41 = M.1 41 := rfl
theorem jw_42 {M : ab_M} {z g h p q : Nat → Int32} {b : Nat} : (jw M z g h p q).1 42 b = M.1 42 b := rfl
theorem jw_42f {M : ab_M} {z g h p q : Nat → Int32} : (jw M z g h p q).1 42 = M.1 42 := rfl
theorem jw_43 {M : ab_M} {z g h p q : Nat → Int32} {b : Nat} : (jw M z g h p q).1 43 b = M.1 43 b := rfl
theorem jw_43f {M : ab_M} {z g h p q : Nat → Int32} : (jw M z g h p q).1 43 = M.1 43 := rfl
theorem jw_44 {M : ab_M} {z g h p q : Nat → Int32} {b : Nat} : (jw M z g h p q).1 44 b = M.1 44 b := rfl
theorem jw_44f {M : ab_M} {z g h p q : Nat → Int32} : (jw M z g h p q).1 44 = M.1 44 := rfl
theorem jw_45 {M : ab_M} {z g h p q : Nat → Int32} {b : Nat} : (jw M z g h p q).1 45 b = M.1 45 b := rfl
theorem jw_45f {M : ab_M} {z g h p q : Nat → Int32} : (jw M z g h p q).1 45 = M.1 45 := rfl
theorem jw_46 {M : ab_M} {z g h p q : Nat → Int32} {b : Nat} : (jw M z g h p q).1 46 b = M.1 46 b := rfl
theorem jw_46f {M : ab_M} {z g h p q : Nat → Int32} : (jw M z g h p q).1 46 = M.1 46 := rfl
theorem jw_39 {M : ab_M} {z g h p q : Nat → Int32} {b : Nat} : (jw M z g h p q).1 39 b = g b := rfl
theorem jw_39f {M : ab_M} {z g h p q : Nat → Int32} : (jw M z g h p q).1 39 = g := rfl
theorem jw_s39 {M : ab_M} {z g h p q : Nat → Int32} {k : Nat} {x : Int32} : ab_si (jw M z g h p q) 39 k x = jw M z (up_f g k x) h p q := by
  refine Prod.ext (funext fun a => funext fun b => ?_) rfl
  simp only [ab_si, jw, up_f]
  by_cases h1 : a = 39 <;> by_cases h2 : b = k <;> simp [h1, h2]
theorem jw_w39 {M : ab_M} {z g h p q : Nat → Int32} {f : Nat → Int32} : wt (jw M z g h p q) 39 f = jw M z f h p q := by
  refine Prod.ext (funext fun a => funext fun b => ?_) rfl
  simp only [wt, jw]
  by_cases h1 : a = 39 <;> simp [h1]
theorem jw_40 {M : ab_M} {z g h p q : Nat → Int32} {b : Nat} : (jw M z g h p q).1 40 b = h b := rfl
theorem jw_40f {M : ab_M} {z g h p q : Nat → Int32} : (jw M z g h p q).1 40 = h := rfl
theorem jw_s40 {M : ab_M} {z g h p q : Nat → Int32} {k : Nat} {x : Int32} : ab_si (jw M z g h p q) 40 k x = jw M z g (up_f h k x) p q := by
  refine Prod.ext (funext fun a => funext fun b => ?_) rfl
  simp only [ab_si, jw, up_f]
  by_cases h1 : a = 40 <;> by_cases h2 : b = k <;> simp [h1, h2]
theorem jw_w40 {M : ab_M} {z g h p q : Nat → Int32} {f : Nat → Int32} : wt (jw M z g h p q) 40 f = jw M z g f p q := by
  refine Prod.ext (funext fun a => funext fun b => ?_) rfl
  simp only [wt, jw]
  by_cases h1 : a = 40 <;> simp [h1]
theorem jw_47 {M : ab_M} {z g h p q : Nat → Int32} {b : Nat} : (jw M z g h p q).1 47 b = p b := rfl
theorem jw_47f {M : ab_M} {z g h p q : Nat → Int32} : (jw M z g h p q).1 47 = p := rfl
theorem jw_s47 {M : ab_M} {z g h p q : Nat → Int32} {k : Nat} {x : Int32} : ab_si (jw M z g h p q) 47 k x = jw M z g h (up_f p k x) q := by
  refine Prod.ext (funext fun a => funext fun b => ?_) rfl
  simp only [ab_si, jw, up_f]
  by_cases h1 : a = 47 <;> by_cases h2 : b = k <;> simp [h1, h2]
theorem jw_w47 {M : ab_M} {z g h p q : Nat → Int32} {f : Nat → Int32} : wt (jw M z g h p q) 47 f = jw M z g h f q := by
  refine Prod.ext (funext fun a => funext fun b => ?_) rfl
  simp only [wt, jw]
  by_cases h1 : a = 47 <;> simp [h1]
theorem jw_48 {M : ab_M} {z g h p q : Nat → Int32} {b : Nat} : (jw M z g h p q).1 48 b = q b := rfl
theorem jw_48f {M : ab_M} {z g h p q : Nat → Int32} : (jw M z g h p q).1 48 = q := rfl
theorem jw_s48 {M : ab_M} {z g h p q : Nat → Int32} {k : Nat} {x : Int32} : ab_si (jw M z g h p q) 48 k x = jw M z g h p (up_f q k x) := by
  refine Prod.ext (funext fun a => funext fun b => ?_) rfl
  simp only [ab_si, jw, up_f]
  by_cases h1 : a = 48 <;> by_cases h2 : b = k <;> simp [h1, h2]
theorem jw_w48 {M : ab_M} {z g h p q : Nat → Int32} {f : Nat → Int32} : wt (jw M z g h p q) 48 f = jw M z g h p f := by
  refine Prod.ext (funext fun a => funext fun b => ?_) rfl
  simp only [wt, jw]
  by_cases h1 : a = 48 <;> simp [h1]
theorem jw_z27 {M : ab_M} {z g h p q : Nat → Int32} {x : Int32} : ab_si (jw M z g h p q) 30 27 x = jw M (up_f z 27 x) g h p q := by
  refine Prod.ext (funext fun a => funext fun b => ?_) rfl
  simp only [ab_si, jw, up_f]
  by_cases h1 : a = 30
  · subst h1
    by_cases h2 : b = 27
    · subst h2; simp
    · simp [h2]
  · simp [h1]
theorem jw_z28 {M : ab_M} {z g h p q : Nat → Int32} {x : Int32} : ab_si (jw M z g h p q) 30 28 x = jw M (up_f z 28 x) g h p q := by
  refine Prod.ext (funext fun a => funext fun b => ?_) rfl
  simp only [ab_si, jw, up_f]
  by_cases h1 : a = 30
  · subst h1
    by_cases h2 : b = 28
    · subst h2; simp
    · simp [h2]
  · simp [h1]
theorem jw_z29 {M : ab_M} {z g h p q : Nat → Int32} {x : Int32} : ab_si (jw M z g h p q) 30 29 x = jw M (up_f z 29 x) g h p q := by
  refine Prod.ext (funext fun a => funext fun b => ?_) rfl
  simp only [ab_si, jw, up_f]
  by_cases h1 : a = 30
  · subst h1
    by_cases h2 : b = 29
    · subst h2; simp
    · simp [h2]
  · simp [h1]
theorem jw_z30 {M : ab_M} {z g h p q : Nat → Int32} {x : Int32} : ab_si (jw M z g h p q) 30 30 x = jw M (up_f z 30 x) g h p q := by
  refine Prod.ext (funext fun a => funext fun b => ?_) rfl
  simp only [ab_si, jw, up_f]
  by_cases h1 : a = 30
  · subst h1
    by_cases h2 : b = 30
    · subst h2; simp
    · simp [h2]
  · simp [h1]
theorem jw_z31 {M : ab_M} {z g h p q : Nat → Int32} {x : Int32} : ab_si (jw M z g h p q) 30 31 x = jw M (up_f z 31 x) g h p q := by
  refine Prod.ext (funext fun a => funext fun b => ?_) rfl
  simp only [ab_si, jw, up_f]
  by_cases h1 : a = 30
  · subst h1
    by_cases h2 : b = 31
    · subst h2; simp
    · simp [h2]
  · simp [h1]
theorem jw_z32 {M : ab_M} {z g h p q : Nat → Int32} {x : Int32} : ab_si (jw M z g h p q) 30 32 x = jw M (up_f z 32 x) g h p q := by
  refine Prod.ext (funext fun a => funext fun b => ?_) rfl
  simp only [ab_si, jw, up_f]
  by_cases h1 : a = 30
  · subst h1
    by_cases h2 : b = 32
    · subst h2; simp
    · simp [h2]
  · simp [h1]
theorem jw_z35 {M : ab_M} {z g h p q : Nat → Int32} {x : Int32} : ab_si (jw M z g h p q) 30 35 x = jw M (up_f z 35 x) g h p q := by
  refine Prod.ext (funext fun a => funext fun b => ?_) rfl
  simp only [ab_si, jw, up_f]
  by_cases h1 : a = 30
  · subst h1
    by_cases h2 : b = 35
    · subst h2; simp
    · simp [h2]
  · simp [h1]
theorem jw_l {M : ab_M} {z g h p q : Nat → Int32} : (jw M z g h p q).2 = M.2 := rfl
theorem uz_27_27 {z : Nat → Int32} {x : Int32} : up_f z 27 x 27 = x := rfl
theorem uz_27_28 {z : Nat → Int32} {x : Int32} : up_f z 27 x 28 = z 28 := rfl
theorem uz_27_29 {z : Nat → Int32} {x : Int32} : up_f z 27 x 29 = z 29 := rfl
theorem uz_27_30 {z : Nat → Int32} {x : Int32} : up_f z 27 x 30 = z 30 := rfl
theorem uz_27_31 {z : Nat → Int32} {x : Int32} : up_f z 27 x 31 = z 31 := rfl
theorem uz_27_32 {z : Nat → Int32} {x : Int32} : up_f z 27 x 32 = z 32 := rfl
theorem uz_27_35 {z : Nat → Int32} {x : Int32} : up_f z 27 x 35 = z 35 := rfl
theorem uz_28_27 {z : Nat → Int32} {x : Int32} : up_f z 28 x 27 = z 27 := rfl
theorem uz_28_28 {z : Nat → Int32} {x : Int32} : up_f z 28 x 28 = x := rfl
theorem uz_28_29 {z : Nat → Int32} {x : Int32} : up_f z 28 x 29 = z 29 := rfl
theorem uz_28_30 {z : Nat → Int32} {x : Int32} : up_f z 28 x 30 = z 30 := rfl
theorem uz_28_31 {z : Nat → Int32} {x : Int32} : up_f z 28 x 31 = z 31 := rfl
theorem uz_28_32 {z : Nat → Int32} {x : Int32} : up_f z 28 x 32 = z 32 := rfl
theorem uz_28_35 {z : Nat → Int32} {x : Int32} : up_f z 28 x 35 = z 35 := rfl
theorem uz_29_27 {z : Nat → Int32} {x : Int32} : up_f z 29 x 27 = z 27 := rfl
theorem uz_29_28 {z : Nat → Int32} {x : Int32} : up_f z 29 x 28 = z 28 := rfl
theorem uz_29_29 {z : Nat → Int32} {x : Int32} : up_f z 29 x 29 = x := rfl
theorem uz_29_30 {z : Nat → Int32} {x : Int32} : up_f z 29 x 30 = z 30 := rfl
theorem uz_29_31 {z : Nat → Int32} {x : Int32} : up_f z 29 x 31 = z 31 := rfl
theorem uz_29_32 {z : Nat → Int32} {x : Int32} : up_f z 29 x 32 = z 32 := rfl
theorem uz_29_35 {z : Nat → Int32} {x : Int32} : up_f z 29 x 35 = z 35 := rfl
theorem uz_30_27 {z : Nat → Int32} {x : Int32} : up_f z 30 x 27 = z 27 := rfl
theorem uz_30_28 {z : Nat → Int32} {x : Int32} : up_f z 30 x 28 = z 28 := rfl
theorem uz_30_29 {z : Nat → Int32} {x : Int32} : up_f z 30 x 29 = z 29 := rfl
theorem uz_30_30 {z : Nat → Int32} {x : Int32} : up_f z 30 x 30 = x := rfl
theorem uz_30_31 {z : Nat → Int32} {x : Int32} : up_f z 30 x 31 = z 31 := rfl
theorem uz_30_32 {z : Nat → Int32} {x : Int32} : up_f z 30 x 32 = z 32 := rfl
theorem uz_30_35 {z : Nat → Int32} {x : Int32} : up_f z 30 x 35 = z 35 := rfl
theorem uz_31_27 {z : Nat → Int32} {x : Int32} : up_f z 31 x 27 = z 27 := rfl
theorem uz_31_28 {z : Nat → Int32} {x : Int32} : up_f z 31 x 28 = z 28 := rfl
theorem uz_31_29 {z : Nat → Int32} {x : Int32} : up_f z 31 x 29 = z 29 := rfl
theorem uz_31_30 {z : Nat → Int32} {x : Int32} : up_f z 31 x 30 = z 30 := rfl
theorem uz_31_31 {z : Nat → Int32} {x : Int32} : up_f z 31 x 31 = x := rfl
theorem uz_31_32 {z : Nat → Int32} {x : Int32} : up_f z 31 x 32 = z 32 := rfl
theorem uz_31_35 {z : Nat → Int32} {x : Int32} : up_f z 31 x 35 = z 35 := rfl
theorem uz_32_27 {z : Nat → Int32} {x : Int32} : up_f z 32 x 27 = z 27 := rfl
theorem uz_32_28 {z : Nat → Int32} {x : Int32} : up_f z 32 x 28 = z 28 := rfl
theorem uz_32_29 {z : Nat → Int32} {x : Int32} : up_f z 32 x 29 = z 29 := rfl
theorem uz_32_30 {z : Nat → Int32} {x : Int32} : up_f z 32 x 30 = z 30 := rfl
theorem uz_32_31 {z : Nat → Int32} {x : Int32} : up_f z 32 x 31 = z 31 := rfl
theorem uz_32_32 {z : Nat → Int32} {x : Int32} : up_f z 32 x 32 = x := rfl
theorem uz_32_35 {z : Nat → Int32} {x : Int32} : up_f z 32 x 35 = z 35 := rfl
theorem uz_35_27 {z : Nat → Int32} {x : Int32} : up_f z 35 x 27 = z 27 := rfl
theorem uz_35_28 {z : Nat → Int32} {x : Int32} : up_f z 35 x 28 = z 28 := rfl
theorem uz_35_29 {z : Nat → Int32} {x : Int32} : up_f z 35 x 29 = z 29 := rfl
theorem uz_35_30 {z : Nat → Int32} {x : Int32} : up_f z 35 x 30 = z 30 := rfl
theorem uz_35_31 {z : Nat → Int32} {x : Int32} : up_f z 35 x 31 = z 31 := rfl
theorem uz_35_32 {z : Nat → Int32} {x : Int32} : up_f z 35 x 32 = z 32 := rfl
theorem uz_35_35 {z : Nat → Int32} {x : Int32} : up_f z 35 x 35 = x := rfl
theorem dd_env {M N : ab_M} (h10 : N.1 30 10 = M.1 30 10) (h32 : N.1 32 = M.1 32) (h33 : N.1 33 = M.1 33) (h34 : N.1 34 = M.1 34) (h35 : N.1 35 = M.1 35) {n s : Nat} : dd_M N n s = dd_M M n s := by
  have hs : sm_M N = sm_M M := by
    funext P i
    simp only [sm_M, h34, h35]
  have hl : lm_l N = lm_l M := by
    funext P w i f
    exact lm_env hs P w i f
  have ha : sa_l N = sa_l M := by
    funext x n i f
    exact sa_env h32 x n i f
  have hk : hk_M N = hk_M M := by
    funext P k
    exact hk_env h35 P k
  funext P w
  unfold dd_M q2_M q1_M b1_M
  simp only [hl, ha, hk, hs, h33, h10]
theorem jw_sm {M : ab_M} {z g h p q : Nat → Int32} : sm_M (jw M z g h p q) = sm_M M := rfl
theorem jw_lm {M : ab_M} {z g h p q : Nat → Int32} : lm_l (jw M z g h p q) = lm_l M := by
  funext P w i f
  exact lm_env (M := M) (N := jw M z g h p q) rfl P w i f
theorem jw_hk {M : ab_M} {z g h p q : Nat → Int32} : hk_M (jw M z g h p q) = hk_M M := by
  funext P k
  exact hk_env (M := M) (N := jw M z g h p q) rfl P k
theorem jw_dd {M : ab_M} {z g h p q : Nat → Int32} {n s : Nat} : dd_M (jw M z g h p q) n s = dd_M M n s := dd_env (M := M) (N := jw M z g h p q) rfl rfl rfl rfl rfl
theorem it_env {M N : ab_M} {n s : Nat} (h : dd_M N n s = dd_M M n s) (w : Int32) : ∀ (k : Nat) (P : Nat → Int32), it_M N n s w k P = it_M M n s w k P
  | 0, _ => rfl
  | k + 1, P => by simp only [it_M, h, it_env h w k]
theorem co_env {M N : ab_M} {n s : Nat} (h : dd_M N n s = dd_M M n s) (he : N.1 30 10 = M.1 30 10) : ∀ (j i : Nat) (P : Nat → Int32), co_l N n s j i P = co_l M n s j i P
  | 0, _, _ => rfl
  | j + 1, i, P => by simp only [co_l, h, he, co_env h he j]
/-- two pages that are the same -/
def e7 (f g : Nat → Int32) : Prop := ∀ i, i < 7 → f i = g i
theorem e7_rf {f : Nat → Int32} : e7 f f := fun _ _ => rfl
theorem e7_tr {f g h : Nat → Int32} (a : e7 f g) (b : e7 g h) : e7 f h := fun i hi => (a i hi).trans (b i hi)
theorem e7_sy {f g : Nat → Int32} (a : e7 f g) : e7 g f := fun i hi => (a i hi).symm
theorem e7_cp {f g : Nat → Int32} : e7 (cp7 g f) g := fun i hi => by simp only [cp7, if_pos hi]
theorem e7_up {f g : Nat → Int32} (a : e7 f g) (k : Nat) {x y : Int32} (hx : x = y) : e7 (up_f f k x) (up_f g k y) := fun i hi => by
  simp only [up_f, hx, a i hi]
theorem e7_up2 {f g : Nat → Int32} (a : e7 f g) {i : Nat} (hi : i < 5) (v : Int32) : e7 (up_f f (2 + i) (f (2 + i) - v)) (up_f g (2 + i) (g (2 + i) - v)) := e7_up a _ (by rw [a (2 + i) (by omega)])
theorem e7_uM {f g : Nat → Int32} (a : e7 f g) {i : Nat} (hi : i < 5) : e7 (up_M f i) (up_M g i) := by
  unfold up_M
  refine e7_up a _ ?_
  rw [a (2 + i) (by omega)]
theorem lm_e7 {M : ab_M} {P Q : Nat → Int32} (h : e7 P Q) (w : Int32) : ∀ (i : Nat) (f : Option Nat), i ≤ 5 → (∀ j, f = some j → j < 5) → lm_l M P w i f = lm_l M Q w i f
  | 0, _, _, _ => rfl
  | i + 1, f, hi, hf => by
    have hs : ∀ j, j < 5 → sm_M M P j = sm_M M Q j := fun j hj => by simp only [sm_M, h (2 + j) (by omega)]
    have h1 : lm_1 M P w i f = lm_1 M Q w i f := by
      unfold lm_1
      cases f with
      | none => rfl
      | some j =>
        have hj := hf j rfl
        simp only [hs j hj, hs i (by omega)]
    unfold lm_l
    rw [h1]
    refine lm_e7 h w i _ (by omega) (fun j hj => ?_)
    unfold lm_1 at hj
    split at hj
    · cases f with
      | none => cases hj; omega
      | some k =>
        dsimp only at hj
        split at hj
        · cases hj; exact hf _ rfl
        · cases hj; omega
    · exact hf j hj
theorem hk_e7 {M : ab_M} {P Q : Nat → Int32} (h : e7 P Q) : ∀ k, k ≤ 5 → e7 (hk_M M P k) (hk_M M Q k)
  | 0, _ => h
  | k + 1, hk => by
    unfold hk_M
    refine e7_up (hk_e7 h k (by omega)) _ ?_
    rw [h (2 + k) (by omega)]
theorem q2_e7 {M : ab_M} {n : Nat} {P Q : Nat → Int32} (hn : n ≤ 5) (h : e7 P Q) : e7 (q2_M M n P) (q2_M M n Q) := by
  unfold q2_M
  rw [h 1 (by omega)]
  split
  · have hh := hk_e7 (M := M) h n hn
    exact e7_up hh 1 (by rw [hh 1 (by omega)])
  · exact e7_up h 1 (by rw [h 1 (by omega)])
theorem q1_e7 {P Q : Nat → Int32} {b g : Int32} {j : Nat} (hj : j < 5) (h : e7 P Q) : e7 (q1_M P b g j) (q1_M Q b g j) := by
  have h0 : e7 (up_f P 0 (P 0 + b)) (up_f Q 0 (Q 0 + b)) := e7_up h 0 (by rw [h 0 (by omega)])
  unfold q1_M
  split
  · exact e7_uM h0 hj
  · exact h0
theorem dd_e7 {M : ab_M} {n s : Nat} {P Q : Nat → Int32} (hn : n ≤ 5) (h : e7 P Q) (w : Int32) : (dd_M M n s P w).1 = (dd_M M n s Q w).1 ∧ e7 (dd_M M n s P w).2 (dd_M M n s Q w).2 := by
  have hr := lm_range (M := M) (P := Q) (w := w) n none hn (fun j e => by cases e)
  unfold dd_M
  rw [lm_e7 h w n none hn (fun j e => by cases e), h 0 (by omega)]
  generalize lm_l M Q w n none = L at hr ⊢
  cases L with
  | none => exact ⟨rfl, q2_e7 hn h⟩
  | some j =>
    have hj := hr j rfl
    have hs : sm_M M P j = sm_M M Q j := by simp only [sm_M, h (2 + j) (by omega)]
    have hb : ∀ b, b1_M M P b = b1_M M Q b := fun b => by simp only [b1_M, h 0 (by omega)]
    dsimp only
    rw [hs]
    split
    · exact ⟨rfl, q2_e7 hn h⟩
    · rw [hb]
      exact ⟨rfl, q2_e7 hn (q1_e7 hj h)⟩
theorem it_e7 {M : ab_M} {n s : Nat} {P Q : Nat → Int32} (hn : n ≤ 5) (h : e7 P Q) (w : Int32) : ∀ k, e7 (it_M M n s w k P) (it_M M n s w k Q)
  | 0 => h
  | k + 1 => (dd_e7 hn (it_e7 hn h w k) w).2
theorem co_e7 {M : ab_M} {n s : Nat} (hn : n ≤ 5) : ∀ (j i : Nat) {P Q : Nat → Int32}, e7 P Q → co_l M n s j i P = co_l M n s j i Q
  | 0, _, _, _, _ => rfl
  | j + 1, i, P, Q, h => by
    simp only [co_l, h 0 (by omega), co_e7 hn j (i + 1) (dd_e7 hn h 31).2]
theorem ct_u {M : ab_M} {n s n' s' : Nat} (h : ct_M M n s) (h' : ct_M M n' s') : n' = n ∧ s' = s := by
  obtain ⟨a1, a2, a3, a4⟩ := h
  obtain ⟨b1, b2, b3, b4⟩ := h'
  rw [a2] at b2
  rw [a4] at b4
  exact ⟨((nI_eq (by omega) (by omega)).mp b2).symm, ((nI_eq (by omega) (by omega)).mp b4).symm⟩
/-! the rows of the methods called, over such a memory -/
theorem bgE {M : ab_M} {z g h p q : Nat → Int32} {Po : ab_P} : s_X9_begin [.ref 30] (jw M z g h p q) Po = Po none (jw M z (cp7 (M.1 38) g) h p q) := by
  rw [q_X9_begin, jw_w39]
  rfl
theorem cmE {M : ab_M} {n s : Nat} (hc : ct_M M n s) (z g h p q : Nat → Int32) (Po : ab_P) : s_X9_comesOf [.ref 30] (jw M z g h p q) Po = ∀ f : Nat → Int32, Po (some (.int (co_l M n s 61 0 g))) (jw M z g f p q) := by
  have e : ∀ (n s : Nat) (f : Nat → Int32), n ≤ 5 → co_l (jw M z g h p q) n s 61 0 (cp7 g f) = co_l M n s 61 0 g := fun n s f hn => by
    rw [co_env jw_dd rfl]
    exact co_e7 hn 61 0 e7_cp
  refine propext ⟨fun h1 => ?_, fun h1 => ?_⟩
  · obtain ⟨n', s', hc', h2⟩ := h1
    obtain ⟨rfl, rfl⟩ := ct_u hc hc'
    intro f
    have h3 := h2 f
    rw [show (jw M z g h p q).1 39 = g from rfl, show (jw M z g h p q).1 40 = h from rfl, e _ _ _ hc.1, jw_w40] at h3
    exact h3
  · refine ⟨n, s, hc, fun f => ?_⟩
    rw [show (jw M z g h p q).1 39 = g from rfl, show (jw M z g h p q).1 40 = h from rfl, e _ _ _ hc.1, jw_w40]
    exact h1 f
theorem ldE {M : ab_M} {n s : Nat} (hc : ct_M M n s) (z g h p q : Nat → Int32) (w : Int32) (Po : ab_P) : s_X9_leader [.ref 30, .ref 39, .int w] (jw M z g h p q) Po = Po (some (.int (fv_M (lm_l M g w n none)))) (jw M z g h p q) := by
  refine propext ⟨fun h1 => ?_, fun h1 => ?_⟩
  · obtain ⟨_, n', hn', hm', h2⟩ := h1
    obtain ⟨rfl, _⟩ := ct_u hc (n' := n') (s' := s) ⟨hn', hm', hc.2.2⟩
    rw [jw_lm] at h2
    exact h2
  · refine ⟨by decide, n, hc.1, hc.2.1, ?_⟩
    rw [jw_lm]
    exact h1
theorem gdE {M : ab_M} {n s : Nat} (hc : ct_M M n s) (z g h p q : Nat → Int32) (w : Int32) (Po : ab_P) : s_X9_goDay [.ref 30, .ref 39, .int w] (jw M z g h p q) Po = Po (some (.int (dd_M M n s g w).1)) (jw M z (dd_M M n s g w).2 h p q) := by
  refine propext ⟨fun h1 => ?_, fun h1 => ?_⟩
  · obtain ⟨_, n', s', hn', hm', hs', ht', h2⟩ := h1
    obtain ⟨rfl, rfl⟩ := ct_u hc (n' := n') (s' := s') ⟨hn', hm', hs', ht'⟩
    rw [jw_dd, jw_w39] at h2
    exact h2
  · refine ⟨by decide, n, s, hc.1, hc.2.1, hc.2.2.1, hc.2.2.2, ?_⟩
    rw [jw_dd, jw_w39]
    exact h1
theorem ghE {M : ab_M} {n s : Nat} (hc : ct_M M n s) (z g h p q : Nat → Int32) (Po : ab_P) : s_X9_goHalt [.ref 30, .ref 39] (jw M z g h p q) Po = Po (some (.int (al_M (hh_M M n g)))) (jw M z (hh_M M n g) h p q) := by
  have e : ∀ n, hh_M (jw M z g h p q) n = hh_M M n := fun n => by
    funext P
    simp only [hh_M, jw_hk]
  refine propext ⟨fun h1 => ?_, fun h1 => ?_⟩
  · obtain ⟨_, n', hn', hm', h2⟩ := h1
    obtain ⟨rfl, _⟩ := ct_u hc (n' := n') (s' := s) ⟨hn', hm', hc.2.2⟩
    rw [e, jw_w39] at h2
    exact h2
  · refine ⟨by decide, n, hc.1, hc.2.1, ?_⟩
    rw [e, jw_w39]
    exact h1
theorem gsE {M : ab_M} {n s : Nat} (hc : ct_M M n s) (d : Nat) (hd : d < 2 ^ 31) (z g h p q : Nat → Int32) (w : Int32) (Po : ab_P) : s_X9_goDays [.ref 30, .int (nI d), .int w] (jw M z g h p q) Po = Po none (jw M z (it_M M n s w d g) h p q) := by
  refine propext ⟨fun h1 => ?_, fun h1 => ?_⟩
  · obtain ⟨_, n', s', hc', h2⟩ := h1
    obtain ⟨rfl, rfl⟩ := ct_u hc hc'
    rw [nI_clamp hd, it_env jw_dd, jw_w39] at h2
    exact h2
  · refine ⟨nI_pos hd, n, s, hc, ?_⟩
    rw [nI_clamp hd, it_env jw_dd, jw_w39]
    exact h1
theorem prE {M : ab_M} {i : Nat} (hi : i < 5) (z g h p q : Nat → Int32) (Po : ab_P) : s_X9_prick [.ref 39, .int (nI i)] (jw M z g h p q) Po = Po none (jw M z (up_M g i) h p q) := by
  refine propext ⟨fun h1 => ?_, fun h1 => ?_⟩
  · obtain ⟨_, j, hj, he, h2⟩ := h1
    have : i = j := (nI_eq (by omega) (by omega)).mp he
    subst this
    rw [jw_w39] at h2
    exact h2
  · refine ⟨by decide, i, hi, rfl, ?_⟩
    rw [jw_w39]
    exact h1
/-- the scratch is whatever it is -/
def jj (M N : ab_M) : Prop := ∃ z g h p q : Nat → Int32, N = jw M z g h p q
theorem jj_i {M : ab_M} {z g h p q : Nat → Int32} : jj M (jw M z g h p q) := ⟨z, g, h, p, q, rfl⟩
theorem jj_s {M : ab_M} : jj M M := ⟨_, _, _, _, _, (jw_id M).symm⟩
