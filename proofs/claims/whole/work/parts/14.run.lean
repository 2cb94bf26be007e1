/-! ROWS BY WHICH THE SMALL MACHINE RUNS -/
theorem ab_go {cc : ByteArray} {X : ab_X} {Po : ab_P} {G : ab_K} (h : ab_Clo cc X Po G) (cut : List Nat) : ∀ (n pc : Nat) (lv : ab_L) (st : List Value) (M : ab_M), ab_wp cc X Po G cut n pc lv st M → G pc lv st M
  | 0, _, _, _, _, hw => hw
  | n + 1, pc, lv, st, M, hw => by
    unfold ab_wp at hw
    split at hw
    · exact hw
    · exact h pc lv st M _ (fun a b c d => ab_go h cut n a b c d) hw
/-- a first step from a place that is a cut -/
theorem ab_go1 {cc : ByteArray} {X : ab_X} {Po : ab_P} {G : ab_K} (h : ab_Clo cc X Po G) (cut : List Nat) (n pc : Nat) (lv : ab_L) (st : List Value) (M : ab_M) (hw : ab_ds X Po (decode cc pc) pc lv st M (ab_wp cc X Po G cut n)) : G pc lv st M := h pc lv st M _ (fun a b c d => ab_go h cut n a b c d) hw
section ABE
variable {cc : ByteArray} {X : ab_X} {P : ab_P} {G : ab_K} {cut : List Nat} {n pc : Nat} {st : List Value} {M : ab_M} {k : ab_K} {x y : Int32} {u v : Int64} {q r : Nat} {off : Int} {lv t : ab_L} {c0 c1 c2 c3 c4 c5 c6 c7 : Option Value}
theorem ew_s : ab_wp cc X P G cut (n + 1) pc lv st M = if pc ∈ cut then G pc lv st M else ab_ds X P (decode cc pc) pc lv st M (ab_wp cc X P G cut n) := rfl
theorem ew_0 : ab_wp cc X P G cut 0 pc lv st M = G pc lv st M := rfl
theorem ew_n : ab_wp cc X P G [] (n + 1) pc lv st M = ab_ds X P (decode cc pc) pc lv st M (ab_wp cc X P G [] n) := by
  rw [ew_s, if_neg List.not_mem_nil]
theorem ew_c : ab_wp cc X P G (r :: cut) (n + 1) pc lv st M = if pc = r then G pc lv st M else ab_wp cc X P G (r :: cut) (n + 1) pc lv st M := by
  split
  · rename_i h
    rw [ew_s, if_pos (by rw [h]; exact List.mem_cons_self)]
  · rfl
theorem e_iload_n0 : ab_ds X P (.ok (.iload_n 0, 1)) pc (some (.int x) :: t) st M k = k (pc + 1) (some (.int x) :: t) (.int x :: st) M := by simp [ab_ds, ab_lo, ab_st, show ((3 : Fin 4) : Nat) = 3 from rfl]
theorem e_lload_n0 : ab_ds X P (.ok (.lload_n 0, 1)) pc (some (.long u) :: t) st M k = k (pc + 1) (some (.long u) :: t) (.long u :: st) M := by simp [ab_ds, ab_lo, ab_st, show ((3 : Fin 4) : Nat) = 3 from rfl]
theorem e_aload_n0 : ab_ds X P (.ok (.aload_n 0, 1)) pc (some (.ref q) :: t) st M k = k (pc + 1) (some (.ref q) :: t) (.ref q :: st) M := by simp [ab_ds, ab_lo, ab_st, show ((3 : Fin 4) : Nat) = 3 from rfl]
theorem e_iinc0 : ab_ds X P (.ok (.iinc 0 off, 3)) pc (some (.int x) :: t) st M k = k (pc + 3) (some (.int (x + Int32.ofInt off)) :: t) st M := by simp [ab_ds, ab_lo, ab_st, show ((3 : Fin 4) : Nat) = 3 from rfl]
theorem e_istore_n0 : ab_ds X P (.ok (.istore_n 0, 1)) pc (c0 :: t) (.int x :: st) M k = k (pc + 1) (some (.int x) :: t) st M := by simp [ab_ds, ab_lo, ab_st, ab_nl, show ((3 : Fin 4) : Nat) = 3 from rfl]
theorem e_astore_n0 : ab_ds X P (.ok (.astore_n 0, 1)) pc (c0 :: t) (.ref q :: st) M k = k (pc + 1) (some (.ref q) :: t) st M := by simp [ab_ds, ab_lo, ab_st, ab_nl, show ((3 : Fin 4) : Nat) = 3 from rfl]
theorem e_lstore0i : ab_ds X P (.ok (.lstore_n 0, 1)) pc (some (.int y) :: c1 :: t) (.long u :: st) M k = k (pc + 1) (some (.long u) :: none :: t) st M := by simp [ab_ds, ab_lo, ab_st, ab_nl, show ((3 : Fin 4) : Nat) = 3 from rfl]
theorem e_lstore0r : ab_ds X P (.ok (.lstore_n 0, 1)) pc (some (.ref r) :: c1 :: t) (.long u :: st) M k = k (pc + 1) (some (.long u) :: none :: t) st M := by simp [ab_ds, ab_lo, ab_st, ab_nl, show ((3 : Fin 4) : Nat) = 3 from rfl]
theorem e_lstore0n : ab_ds X P (.ok (.lstore_n 0, 1)) pc (none :: c1 :: t) (.long u :: st) M k = k (pc + 1) (some (.long u) :: none :: t) st M := by simp [ab_ds, ab_lo, ab_st, ab_nl, show ((3 : Fin 4) : Nat) = 3 from rfl]
theorem e_lstore0l : ab_ds X P (.ok (.lstore_n 0, 1)) pc (some (.long v) :: none :: t) (.long u :: st) M k = k (pc + 1) (some (.long u) :: none :: t) st M := by simp [ab_ds, ab_lo, ab_st, ab_nl, show ((3 : Fin 4) : Nat) = 3 from rfl]
theorem e_iload_n1 : ab_ds X P (.ok (.iload_n 1, 1)) pc (c0 :: some (.int x) :: t) st M k = k (pc + 1) (c0 :: some (.int x) :: t) (.int x :: st) M := by simp [ab_ds, ab_lo, ab_st, show ((3 : Fin 4) : Nat) = 3 from rfl]
theorem e_lload_n1 : ab_ds X P (.ok (.lload_n 1, 1)) pc (c0 :: some (.long u) :: t) st M k = k (pc + 1) (c0 :: some (.long u) :: t) (.long u :: st) M := by simp [ab_ds, ab_lo, ab_st, show ((3 : Fin 4) : Nat) = 3 from rfl]
theorem e_aload_n1 : ab_ds X P (.ok (.aload_n 1, 1)) pc (c0 :: some (.ref q) :: t) st M k = k (pc + 1) (c0 :: some (.ref q) :: t) (.ref q :: st) M := by simp [ab_ds, ab_lo, ab_st, show ((3 : Fin 4) : Nat) = 3 from rfl]
theorem e_iinc1 : ab_ds X P (.ok (.iinc 1 off, 3)) pc (c0 :: some (.int x) :: t) st M k = k (pc + 3) (c0 :: some (.int (x + Int32.ofInt off)) :: t) st M := by simp [ab_ds, ab_lo, ab_st, show ((3 : Fin 4) : Nat) = 3 from rfl]
theorem e_istore_n1i : ab_ds X P (.ok (.istore_n 1, 1)) pc (some (.int y) :: c1 :: t) (.int x :: st) M k = k (pc + 1) (some (.int y) :: some (.int x) :: t) st M := by simp [ab_ds, ab_lo, ab_st, ab_nl, show ((3 : Fin 4) : Nat) = 3 from rfl]
theorem e_astore_n1i : ab_ds X P (.ok (.astore_n 1, 1)) pc (some (.int y) :: c1 :: t) (.ref q :: st) M k = k (pc + 1) (some (.int y) :: some (.ref q) :: t) st M := by simp [ab_ds, ab_lo, ab_st, ab_nl, show ((3 : Fin 4) : Nat) = 3 from rfl]
theorem e_lstore1ii : ab_ds X P (.ok (.lstore_n 1, 1)) pc (some (.int y) :: some (.int y) :: c2 :: t) (.long u :: st) M k = k (pc + 1) (some (.int y) :: some (.long u) :: none :: t) st M := by simp [ab_ds, ab_lo, ab_st, ab_nl, show ((3 : Fin 4) : Nat) = 3 from rfl]
theorem e_lstore1ir : ab_ds X P (.ok (.lstore_n 1, 1)) pc (some (.int y) :: some (.ref r) :: c2 :: t) (.long u :: st) M k = k (pc + 1) (some (.int y) :: some (.long u) :: none :: t) st M := by simp [ab_ds, ab_lo, ab_st, ab_nl, show ((3 : Fin 4) : Nat) = 3 from rfl]
theorem e_lstore1in : ab_ds X P (.ok (.lstore_n 1, 1)) pc (some (.int y) :: none :: c2 :: t) (.long u :: st) M k = k (pc + 1) (some (.int y) :: some (.long u) :: none :: t) st M := by simp [ab_ds, ab_lo, ab_st, ab_nl, show ((3 : Fin 4) : Nat) = 3 from rfl]
theorem e_lstore1il : ab_ds X P (.ok (.lstore_n 1, 1)) pc (some (.int y) :: some (.long v) :: none :: t) (.long u :: st) M k = k (pc + 1) (some (.int y) :: some (.long u) :: none :: t) st M := by simp [ab_ds, ab_lo, ab_st, ab_nl, show ((3 : Fin 4) : Nat) = 3 from rfl]
theorem e_istore_n1r : ab_ds X P (.ok (.istore_n 1, 1)) pc (some (.ref r) :: c1 :: t) (.int x :: st) M k = k (pc + 1) (some (.ref r) :: some (.int x) :: t) st M := by simp [ab_ds, ab_lo, ab_st, ab_nl, show ((3 : Fin 4) : Nat) = 3 from rfl]
theorem e_astore_n1r : ab_ds X P (.ok (.astore_n 1, 1)) pc (some (.ref r) :: c1 :: t) (.ref q :: st) M k = k (pc + 1) (some (.ref r) :: some (.ref q) :: t) st M := by simp [ab_ds, ab_lo, ab_st, ab_nl, show ((3 : Fin 4) : Nat) = 3 from rfl]
theorem e_lstore1ri : ab_ds X P (.ok (.lstore_n 1, 1)) pc (some (.ref r) :: some (.int y) :: c2 :: t) (.long u :: st) M k = k (pc + 1) (some (.ref r) :: some (.long u) :: none :: t) st M := by simp [ab_ds, ab_lo, ab_st, ab_nl, show ((3 : Fin 4) : Nat) = 3 from rfl]
theorem e_lstore1rr : ab_ds X P (.ok (.lstore_n 1, 1)) pc (some (.ref r) :: some (.ref r) :: c2 :: t) (.long u :: st) M k = k (pc + 1) (some (.ref r) :: some (.long u) :: none :: t) st M := by simp [ab_ds, ab_lo, ab_st, ab_nl, show ((3 : Fin 4) : Nat) = 3 from rfl]
theorem e_lstore1rn : ab_ds X P (.ok (.lstore_n 1, 1)) pc (some (.ref r) :: none :: c2 :: t) (.long u :: st) M k = k (pc + 1) (some (.ref r) :: some (.long u) :: none :: t) st M := by simp [ab_ds, ab_lo, ab_st, ab_nl, show ((3 : Fin 4) : Nat) = 3 from rfl]
theorem e_lstore1rl : ab_ds X P (.ok (.lstore_n 1, 1)) pc (some (.ref r) :: some (.long v) :: none :: t) (.long u :: st) M k = k (pc + 1) (some (.ref r) :: some (.long u) :: none :: t) st M := by simp [ab_ds, ab_lo, ab_st, ab_nl, show ((3 : Fin 4) : Nat) = 3 from rfl]
theorem e_istore_n1n : ab_ds X P (.ok (.istore_n 1, 1)) pc (none :: c1 :: t) (.int x :: st) M k = k (pc + 1) (none :: some (.int x) :: t) st M := by simp [ab_ds, ab_lo, ab_st, ab_nl, show ((3 : Fin 4) : Nat) = 3 from rfl]
theorem e_astore_n1n : ab_ds X P (.ok (.astore_n 1, 1)) pc (none :: c1 :: t) (.ref q :: st) M k = k (pc + 1) (none :: some (.ref q) :: t) st M := by simp [ab_ds, ab_lo, ab_st, ab_nl, show ((3 : Fin 4) : Nat) = 3 from rfl]
theorem e_lstore1ni : ab_ds X P (.ok (.lstore_n 1, 1)) pc (none :: some (.int y) :: c2 :: t) (.long u :: st) M k = k (pc + 1) (none :: some (.long u) :: none :: t) st M := by simp [ab_ds, ab_lo, ab_st, ab_nl, show ((3 : Fin 4) : Nat) = 3 from rfl]
theorem e_lstore1nr : ab_ds X P (.ok (.lstore_n 1, 1)) pc (none :: some (.ref r) :: c2 :: t) (.long u :: st) M k = k (pc + 1) (none :: some (.long u) :: none :: t) st M := by simp [ab_ds, ab_lo, ab_st, ab_nl, show ((3 : Fin 4) : Nat) = 3 from rfl]
theorem e_lstore1nn : ab_ds X P (.ok (.lstore_n 1, 1)) pc (none :: none :: c2 :: t) (.long u :: st) M k = k (pc + 1) (none :: some (.long u) :: none :: t) st M := by simp [ab_ds, ab_lo, ab_st, ab_nl, show ((3 : Fin 4) : Nat) = 3 from rfl]
theorem e_lstore1nl : ab_ds X P (.ok (.lstore_n 1, 1)) pc (none :: some (.long v) :: none :: t) (.long u :: st) M k = k (pc + 1) (none :: some (.long u) :: none :: t) st M := by simp [ab_ds, ab_lo, ab_st, ab_nl, show ((3 : Fin 4) : Nat) = 3 from rfl]
theorem e_iload_n2 : ab_ds X P (.ok (.iload_n 2, 1)) pc (c0 :: c1 :: some (.int x) :: t) st M k = k (pc + 1) (c0 :: c1 :: some (.int x) :: t) (.int x :: st) M := by simp [ab_ds, ab_lo, ab_st, show ((3 : Fin 4) : Nat) = 3 from rfl]
theorem e_lload_n2 : ab_ds X P (.ok (.lload_n 2, 1)) pc (c0 :: c1 :: some (.long u) :: t) st M k = k (pc + 1) (c0 :: c1 :: some (.long u) :: t) (.long u :: st) M := by simp [ab_ds, ab_lo, ab_st, show ((3 : Fin 4) : Nat) = 3 from rfl]
theorem e_aload_n2 : ab_ds X P (.ok (.aload_n 2, 1)) pc (c0 :: c1 :: some (.ref q) :: t) st M k = k (pc + 1) (c0 :: c1 :: some (.ref q) :: t) (.ref q :: st) M := by simp [ab_ds, ab_lo, ab_st, show ((3 : Fin 4) : Nat) = 3 from rfl]
theorem e_iinc2 : ab_ds X P (.ok (.iinc 2 off, 3)) pc (c0 :: c1 :: some (.int x) :: t) st M k = k (pc + 3) (c0 :: c1 :: some (.int (x + Int32.ofInt off)) :: t) st M := by simp [ab_ds, ab_lo, ab_st, show ((3 : Fin 4) : Nat) = 3 from rfl]
theorem e_istore_n2i : ab_ds X P (.ok (.istore_n 2, 1)) pc (c0 :: some (.int y) :: c2 :: t) (.int x :: st) M k = k (pc + 1) (c0 :: some (.int y) :: some (.int x) :: t) st M := by simp [ab_ds, ab_lo, ab_st, ab_nl, show ((3 : Fin 4) : Nat) = 3 from rfl]
theorem e_astore_n2i : ab_ds X P (.ok (.astore_n 2, 1)) pc (c0 :: some (.int y) :: c2 :: t) (.ref q :: st) M k = k (pc + 1) (c0 :: some (.int y) :: some (.ref q) :: t) st M := by simp [ab_ds, ab_lo, ab_st, ab_nl, show ((3 : Fin 4) : Nat) = 3 from rfl]
theorem e_lstore2ii : ab_ds X P (.ok (.lstore_n 2, 1)) pc (c0 :: some (.int y) :: some (.int y) :: c3 :: t) (.long u :: st) M k = k (pc + 1) (c0 :: some (.int y) :: some (.long u) :: none :: t) st M := by simp [ab_ds, ab_lo, ab_st, ab_nl, show ((3 : Fin 4) : Nat) = 3 from rfl]
theorem e_lstore2ir : ab_ds X P (.ok (.lstore_n 2, 1)) pc (c0 :: some (.int y) :: some (.ref r) :: c3 :: t) (.long u :: st) M k = k (pc + 1) (c0 :: some (.int y) :: some (.long u) :: none :: t) st M := by simp [ab_ds, ab_lo, ab_st, ab_nl, show ((3 : Fin 4) : Nat) = 3 from rfl]
theorem e_lstore2in : ab_ds X P (.ok (.lstore_n 2, 1)) pc (c0 :: some (.int y) :: none :: c3 :: t) (.long u :: st) M k = k (pc + 1) (c0 :: some (.int y) :: some (.long u) :: none :: t) st M := by simp [ab_ds, ab_lo, ab_st, ab_nl, show ((3 : Fin 4) : Nat) = 3 from rfl]
theorem e_lstore2il : ab_ds X P (.ok (.lstore_n 2, 1)) pc (c0 :: some (.int y) :: some (.long v) :: none :: t) (.long u :: st) M k = k (pc + 1) (c0 :: some (.int y) :: some (.long u) :: none :: t) st M := by simp [ab_ds, ab_lo, ab_st, ab_nl, show ((3 : Fin 4) : Nat) = 3 from rfl]
theorem e_istore_n2r : ab_ds X P (.ok (.istore_n 2, 1)) pc (c0 :: some (.ref r) :: c2 :: t) (.int x :: st) M k = k (pc + 1) (c0 :: some (.ref r) :: some (.int x) :: t) st M := by simp [ab_ds, ab_lo, ab_st, ab_nl, show ((3 : Fin 4) : Nat) = 3 from rfl]
theorem e_astore_n2r : ab_ds X P (.ok (.astore_n 2, 1)) pc (c0 :: some (.ref r) :: c2 :: t) (.ref q :: st) M k = k (pc + 1) (c0 :: some (.ref r) :: some (.ref q) :: t) st M := by simp [ab_ds, ab_lo, ab_st, ab_nl, show ((3 : Fin 4) : Nat) = 3 from rfl]
theorem e_lstore2ri : ab_ds X P (.ok (.lstore_n 2, 1)) pc (c0 :: some (.ref r) :: some (.int y) :: c3 :: t) (.long u :: st) M k = k (pc + 1) (c0 :: some (.ref r) :: some (.long u) :: none :: t) st M := by simp [ab_ds, ab_lo, ab_st, ab_nl, show ((3 : Fin 4) : Nat) = 3 from rfl]
theorem e_lstore2rr : ab_ds X P (.ok (.lstore_n 2, 1)) pc (c0 :: some (.ref r) :: some (.ref r) :: c3 :: t) (.long u :: st) M k = k (pc + 1) (c0 :: some (.ref r) :: some (.long u) :: none :: t) st M := by simp [ab_ds, ab_lo, ab_st, ab_nl, show ((3 : Fin 4) : Nat) = 3 from rfl]
theorem e_lstore2rn : ab_ds X P (.ok (.lstore_n 2, 1)) pc (c0 :: some (.ref r) :: none :: c3 :: t) (.long u :: st) M k = k (pc + 1) (c0 :: some (.ref r) :: some (.long u) :: none :: t) st M := by simp [ab_ds, ab_lo, ab_st, ab_nl, show ((3 : Fin 4) : Nat) = 3 from rfl]
theorem e_lstore2rl : ab_ds X P (.ok (.lstore_n 2, 1)) pc (c0 :: some (.ref r) :: some (.long v) :: none :: t) (.long u :: st) M k = k (pc + 1) (c0 :: some (.ref r) :: some (.long u) :: none :: t) st M := by simp [ab_ds, ab_lo, ab_st, ab_nl, show ((3 : Fin 4) : Nat) = 3 from rfl]
theorem e_istore_n2n : ab_ds X P (.ok (.istore_n 2, 1)) pc (c0 :: none :: c2 :: t) (.int x :: st) M k = k (pc + 1) (c0 :: none :: some (.int x) :: t) st M := by simp [ab_ds, ab_lo, ab_st, ab_nl, show ((3 : Fin 4) : Nat) = 3 from rfl]
theorem e_astore_n2n : ab_ds X P (.ok (.astore_n 2, 1)) pc (c0 :: none :: c2 :: t) (.ref q :: st) M k = k (pc + 1) (c0 :: none :: some (.ref q) :: t) st M := by simp [ab_ds, ab_lo, ab_st, ab_nl, show ((3 : Fin 4) : Nat) = 3 from rfl]
theorem e_lstore2ni : ab_ds X P (.ok (.lstore_n 2, 1)) pc (c0 :: none :: some (.int y) :: c3 :: t) (.long u :: st) M k = k (pc + 1) (c0 :: none :: some (.long u) :: none :: t) st M := by simp [ab_ds, ab_lo, ab_st, ab_nl, show ((3 : Fin 4) : Nat) = 3 from rfl]
theorem e_lstore2nr : ab_ds X P (.ok (.lstore_n 2, 1)) pc (c0 :: none :: some (.ref r) :: c3 :: t) (.long u :: st) M k = k (pc + 1) (c0 :: none :: some (.long u) :: none :: t) st M := by simp [ab_ds, ab_lo, ab_st, ab_nl, show ((3 : Fin 4) : Nat) = 3 from rfl]
theorem e_lstore2nn : ab_ds X P (.ok (.lstore_n 2, 1)) pc (c0 :: none :: none :: c3 :: t) (.long u :: st) M k = k (pc + 1) (c0 :: none :: some (.long u) :: none :: t) st M := by simp [ab_ds, ab_lo, ab_st, ab_nl, show ((3 : Fin 4) : Nat) = 3 from rfl]
theorem e_lstore2nl : ab_ds X P (.ok (.lstore_n 2, 1)) pc (c0 :: none :: some (.long v) :: none :: t) (.long u :: st) M k = k (pc + 1) (c0 :: none :: some (.long u) :: none :: t) st M := by simp [ab_ds, ab_lo, ab_st, ab_nl, show ((3 : Fin 4) : Nat) = 3 from rfl]
theorem e_iload_n3 : ab_ds X P (.ok (.iload_n 3, 1)) pc (c0 :: c1 :: c2 :: some (.int x) :: t) st M k = k (pc + 1) (c0 :: c1 :: c2 :: some (.int x) :: t) (.int x :: st) M := by simp [ab_ds, ab_lo, ab_st, show ((3 : Fin 4) : Nat) = 3 from rfl]
theorem e_lload_n3 : ab_ds X P (.ok (.lload_n 3, 1)) pc (c0 :: c1 :: c2 :: some (.long u) :: t) st M k = k (pc + 1) (c0 :: c1 :: c2 :: some (.long u) :: t) (.long u :: st) M := by simp [ab_ds, ab_lo, ab_st, show ((3 : Fin 4) : Nat) = 3 from rfl]
theorem e_aload_n3 : ab_ds X P (.ok (.aload_n 3, 1)) pc (c0 :: c1 :: c2 :: some (.ref q) :: t) st M k = k (pc + 1) (c0 :: c1 :: c2 :: some (.ref q) :: t) (.ref q :: st) M := by simp [ab_ds, ab_lo, ab_st, show ((3 : Fin 4) : Nat) = 3 from rfl]
theorem e_iinc3 : ab_ds X P (.ok (.iinc 3 off, 3)) pc (c0 :: c1 :: c2 :: some (.int x) :: t) st M k = k (pc + 3) (c0 :: c1 :: c2 :: some (.int (x + Int32.ofInt off)) :: t) st M := by simp [ab_ds, ab_lo, ab_st, show ((3 : Fin 4) : Nat) = 3 from rfl]
theorem e_istore_n3i : ab_ds X P (.ok (.istore_n 3, 1)) pc (c0 :: c1 :: some (.int y) :: c3 :: t) (.int x :: st) M k = k (pc + 1) (c0 :: c1 :: some (.int y) :: some (.int x) :: t) st M := by simp [ab_ds, ab_lo, ab_st, ab_nl, show ((3 : Fin 4) : Nat) = 3 from rfl]
theorem e_astore_n3i : ab_ds X P (.ok (.astore_n 3, 1)) pc (c0 :: c1 :: some (.int y) :: c3 :: t) (.ref q :: st) M k = k (pc + 1) (c0 :: c1 :: some (.int y) :: some (.ref q) :: t) st M := by simp [ab_ds, ab_lo, ab_st, ab_nl, show ((3 : Fin 4) : Nat) = 3 from rfl]
theorem e_lstore3ii : ab_ds X P (.ok (.lstore_n 3, 1)) pc (c0 :: c1 :: some (.int y) :: some (.int y) :: c4 :: t) (.long u :: st) M k = k (pc + 1) (c0 :: c1 :: some (.int y) :: some (.long u) :: none :: t) st M := by simp [ab_ds, ab_lo, ab_st, ab_nl, show ((3 : Fin 4) : Nat) = 3 from rfl]
theorem e_lstore3ir : ab_ds X P (.ok (.lstore_n 3, 1)) pc (c0 :: c1 :: some (.int y) :: some (.ref r) :: c4 :: t) (.long u :: st) M k = k (pc + 1) (c0 :: c1 :: some (.int y) :: some (.long u) :: none :: t) st M := by simp [ab_ds, ab_lo, ab_st, ab_nl, show ((3 : Fin 4) : Nat) = 3 from rfl]
theorem e_lstore3in : ab_ds X P (.ok (.lstore_n 3, 1)) pc (c0 :: c1 :: some (.int y) :: none :: c4 :: t) (.long u :: st) M k = k (pc + 1) (c0 :: c1 :: some (.int y) :: some (.long u) :: none :: t) st M := by simp [ab_ds, ab_lo, ab_st, ab_nl, show ((3 : Fin 4) : Nat) = 3 from rfl]
theorem e_lstore3il : ab_ds X P (.ok (.lstore_n 3, 1)) pc (c0 :: c1 :: some (.int y) :: some (.long v) :: none :: t) (.long u :: st) M k = k (pc + 1) (c0 :: c1 :: some (.int y) :: some (.long u) :: none :: t) st M := by simp [ab_ds, ab_lo, ab_st, ab_nl, show ((3 : Fin 4) : Nat) = 3 from rfl]
theorem e_istore_n3r : ab_ds X P (.ok (.istore_n 3, 1)) pc (c0 :: c1 :: some (.ref r) :: c3 :: t) (.int x :: st) M k = k (pc + 1) (c0 :: c1 :: some (.ref r) :: some (.int x) :: t) st M := by simp [ab_ds, ab_lo, ab_st, ab_nl, show ((3 : Fin 4) : Nat) = 3 from rfl]
theorem e_astore_n3r : ab_ds X P (.ok (.astore_n 3, 1)) pc (c0 :: c1 :: some (.ref r) :: c3 :: t) (.ref q :: st) M k = k (pc + 1) (c0 :: c1 :: some (.ref r) :: some (.ref q) :: t) st M := by simp [ab_ds, ab_lo, ab_st, ab_nl, show ((3 : Fin 4) : Nat) = 3 from rfl]
theorem e_lstore3ri : ab_ds X P (.ok (.lstore_n 3, 1)) pc (c0 :: c1 :: some (.ref r) :: some (.int y) :: c4 :: t) (.long u :: st) M k = k (pc + 1) (c0 :: c1 :: some (.ref r) :: some (.long u) :: none :: t) st M := by simp [ab_ds, ab_lo, ab_st, ab_nl, show ((3 : Fin 4) : Nat) = 3 from rfl]
theorem e_lstore3rr : ab_ds X P (.ok (.lstore_n 3, 1)) pc (c0 :: c1 :: some (.ref r) :: some (.ref r) :: c4 :: t) (.long u :: st) M k = k (pc + 1) (c0 :: c1 :: some (.ref r) :: some (.long u) :: none :: t) st M := by simp [ab_ds, ab_lo, ab_st, ab_nl, show ((3 : Fin 4) : Nat) = 3 from rfl]
theorem e_lstore3rn : ab_ds X P (.ok (.lstore_n 3, 1)) pc (c0 :: c1 :: some (.ref r) :: none :: c4 :: t) (.long u :: st) M k = k (pc + 1) (c0 :: c1 :: some (.ref r) :: some (.long u) :: none :: t) st M := by simp [ab_ds, ab_lo, ab_st, ab_nl, show ((3 : Fin 4) : Nat) = 3 from rfl]
theorem e_lstore3rl : ab_ds X P (.ok (.lstore_n 3, 1)) pc (c0 :: c1 :: some (.ref r) :: some (.long v) :: none :: t) (.long u :: st) M k = k (pc + 1) (c0 :: c1 :: some (.ref r) :: some (.long u) :: none :: t) st M := by simp [ab_ds, ab_lo, ab_st, ab_nl, show ((3 : Fin 4) : Nat) = 3 from rfl]
theorem e_istore_n3n : ab_ds X P (.ok (.istore_n 3, 1)) pc (c0 :: c1 :: none :: c3 :: t) (.int x :: st) M k = k (pc + 1) (c0 :: c1 :: none :: some (.int x) :: t) st M := by simp [ab_ds, ab_lo, ab_st, ab_nl, show ((3 : Fin 4) : Nat) = 3 from rfl]
theorem e_astore_n3n : ab_ds X P (.ok (.astore_n 3, 1)) pc (c0 :: c1 :: none :: c3 :: t) (.ref q :: st) M k = k (pc + 1) (c0 :: c1 :: none :: some (.ref q) :: t) st M := by simp [ab_ds, ab_lo, ab_st, ab_nl, show ((3 : Fin 4) : Nat) = 3 from rfl]
theorem e_lstore3ni : ab_ds X P (.ok (.lstore_n 3, 1)) pc (c0 :: c1 :: none :: some (.int y) :: c4 :: t) (.long u :: st) M k = k (pc + 1) (c0 :: c1 :: none :: some (.long u) :: none :: t) st M := by simp [ab_ds, ab_lo, ab_st, ab_nl, show ((3 : Fin 4) : Nat) = 3 from rfl]
theorem e_lstore3nr : ab_ds X P (.ok (.lstore_n 3, 1)) pc (c0 :: c1 :: none :: some (.ref r) :: c4 :: t) (.long u :: st) M k = k (pc + 1) (c0 :: c1 :: none :: some (.long u) :: none :: t) st M := by simp [ab_ds, ab_lo, ab_st, ab_nl, show ((3 : Fin 4) : Nat) = 3 from rfl]
theorem e_lstore3nn : ab_ds X P (.ok (.lstore_n 3, 1)) pc (c0 :: c1 :: none :: none :: c4 :: t) (.long u :: st) M k = k (pc + 1) (c0 :: c1 :: none :: some (.long u) :: none :: t) st M := by simp [ab_ds, ab_lo, ab_st, ab_nl, show ((3 : Fin 4) : Nat) = 3 from rfl]
theorem e_lstore3nl : ab_ds X P (.ok (.lstore_n 3, 1)) pc (c0 :: c1 :: none :: some (.long v) :: none :: t) (.long u :: st) M k = k (pc + 1) (c0 :: c1 :: none :: some (.long u) :: none :: t) st M := by simp [ab_ds, ab_lo, ab_st, ab_nl, show ((3 : Fin 4) : Nat) = 3 from rfl]
theorem e_iload4 : ab_ds X P (.ok (.iload 4, 2)) pc (c0 :: c1 :: c2 :: c3 :: some (.int x) :: t) st M k = k (pc + 2) (c0 :: c1 :: c2 :: c3 :: some (.int x) :: t) (.int x :: st) M := by simp [ab_ds, ab_lo, ab_st, show ((3 : Fin 4) : Nat) = 3 from rfl]
theorem e_lload4 : ab_ds X P (.ok (.lload 4, 2)) pc (c0 :: c1 :: c2 :: c3 :: some (.long u) :: t) st M k = k (pc + 2) (c0 :: c1 :: c2 :: c3 :: some (.long u) :: t) (.long u :: st) M := by simp [ab_ds, ab_lo, ab_st, show ((3 : Fin 4) : Nat) = 3 from rfl]
theorem e_iinc4 : ab_ds X P (.ok (.iinc 4 off, 3)) pc (c0 :: c1 :: c2 :: c3 :: some (.int x) :: t) st M k = k (pc + 3) (c0 :: c1 :: c2 :: c3 :: some (.int (x + Int32.ofInt off)) :: t) st M := by simp [ab_ds, ab_lo, ab_st, show ((3 : Fin 4) : Nat) = 3 from rfl]
theorem e_istore4i : ab_ds X P (.ok (.istore 4, 2)) pc (c0 :: c1 :: c2 :: some (.int y) :: c4 :: t) (.int x :: st) M k = k (pc + 2) (c0 :: c1 :: c2 :: some (.int y) :: some (.int x) :: t) st M := by simp [ab_ds, ab_lo, ab_st, ab_nl, show ((3 : Fin 4) : Nat) = 3 from rfl]
theorem e_lstore4ii : ab_ds X P (.ok (.lstore 4, 2)) pc (c0 :: c1 :: c2 :: some (.int y) :: some (.int y) :: c5 :: t) (.long u :: st) M k = k (pc + 2) (c0 :: c1 :: c2 :: some (.int y) :: some (.long u) :: none :: t) st M := by simp [ab_ds, ab_lo, ab_st, ab_nl, show ((3 : Fin 4) : Nat) = 3 from rfl]
theorem e_lstore4ir : ab_ds X P (.ok (.lstore 4, 2)) pc (c0 :: c1 :: c2 :: some (.int y) :: some (.ref r) :: c5 :: t) (.long u :: st) M k = k (pc + 2) (c0 :: c1 :: c2 :: some (.int y) :: some (.long u) :: none :: t) st M := by simp [ab_ds, ab_lo, ab_st, ab_nl, show ((3 : Fin 4) : Nat) = 3 from rfl]
theorem e_lstore4in : ab_ds X P (.ok (.lstore 4, 2)) pc (c0 :: c1 :: c2 :: some (.int y) :: none :: c5 :: t) (.long u :: st) M k = k (pc + 2) (c0 :: c1 :: c2 :: some (.int y) :: some (.long u) :: none :: t) st M := by simp [ab_ds, ab_lo, ab_st, ab_nl, show ((3 : Fin 4) : Nat) = 3 from rfl]
theorem e_lstore4il : ab_ds X P (.ok (.lstore 4, 2)) pc (c0 :: c1 :: c2 :: some (.int y) :: some (.long v) :: none :: t) (.long u :: st) M k = k (pc + 2) (c0 :: c1 :: c2 :: some (.int y) :: some (.long u) :: none :: t) st M := by simp [ab_ds, ab_lo, ab_st, ab_nl, show ((3 : Fin 4) : Nat) = 3 from rfl]
theorem e_istore4r : ab_ds X P (.ok (.istore 4, 2)) pc (c0 :: c1 :: c2 :: some (.ref r) :: c4 :: t) (.int x :: st) M k = k (pc + 2) (c0 :: c1 :: c2 :: some (.ref r) :: some (.int x) :: t) st M := by simp [ab_ds, ab_lo, ab_st, ab_nl, show ((3 : Fin 4) : Nat) = 3 from rfl]
theorem e_lstore4ri : ab_ds X P (.ok (.lstore 4, 2)) pc (c0 :: c1 :: c2 :: some (.ref r) :: some (.int y) :: c5 :: t) (.long u :: st) M k = k (pc + 2) (c0 :: c1 :: c2 :: some (.ref r) :: some (.long u) :: none :: t) st M := by simp [ab_ds, ab_lo, ab_st, ab_nl, show ((3 : Fin 4) : Nat) = 3 from rfl]
theorem e_lstore4rr : ab_ds X P (.ok (.lstore 4, 2)) pc (c0 :: c1 :: c2 :: some (.ref r) :: some (.ref r) :: c5 :: t) (.long u :: st) M k = k (pc + 2) (c0 :: c1 :: c2 :: some (.ref r) :: some (.long u) :: none :: t) st M := by simp [ab_ds, ab_lo, ab_st, ab_nl, show ((3 : Fin 4) : Nat) = 3 from rfl]
theorem e_lstore4rn : ab_ds X P (.ok (.lstore 4, 2)) pc (c0 :: c1 :: c2 :: some (.ref r) :: none :: c5 :: t) (.long u :: st) M k = k (pc + 2) (c0 :: c1 :: c2 :: some (.ref r) :: some (.long u) :: none :: t) st M := by simp [ab_ds, ab_lo, ab_st, ab_nl, show ((3 : Fin 4) : Nat) = 3 from rfl]
theorem e_lstore4rl : ab_ds X P (.ok (.lstore 4, 2)) pc (c0 :: c1 :: c2 :: some (.ref r) :: some (.long v) :: none :: t) (.long u :: st) M k = k (pc + 2) (c0 :: c1 :: c2 :: some (.ref r) :: some (.long u) :: none :: t) st M := by simp [ab_ds, ab_lo, ab_st, ab_nl, show ((3 : Fin 4) : Nat) = 3 from rfl]
theorem e_istore4n : ab_ds X P (.ok (.istore 4, 2)) pc (c0 :: c1 :: c2 :: none :: c4 :: t) (.int x :: st) M k = k (pc + 2) (c0 :: c1 :: c2 :: none :: some (.int x) :: t) st M := by simp [ab_ds, ab_lo, ab_st, ab_nl, show ((3 : Fin 4) : Nat) = 3 from rfl]
theorem e_lstore4ni : ab_ds X P (.ok (.lstore 4, 2)) pc (c0 :: c1 :: c2 :: none :: some (.int y) :: c5 :: t) (.long u :: st) M k = k (pc + 2) (c0 :: c1 :: c2 :: none :: some (.long u) :: none :: t) st M := by simp [ab_ds, ab_lo, ab_st, ab_nl, show ((3 : Fin 4) : Nat) = 3 from rfl]
theorem e_lstore4nr : ab_ds X P (.ok (.lstore 4, 2)) pc (c0 :: c1 :: c2 :: none :: some (.ref r) :: c5 :: t) (.long u :: st) M k = k (pc + 2) (c0 :: c1 :: c2 :: none :: some (.long u) :: none :: t) st M := by simp [ab_ds, ab_lo, ab_st, ab_nl, show ((3 : Fin 4) : Nat) = 3 from rfl]
theorem e_lstore4nn : ab_ds X P (.ok (.lstore 4, 2)) pc (c0 :: c1 :: c2 :: none :: none :: c5 :: t) (.long u :: st) M k = k (pc + 2) (c0 :: c1 :: c2 :: none :: some (.long u) :: none :: t) st M := by simp [ab_ds, ab_lo, ab_st, ab_nl, show ((3 : Fin 4) : Nat) = 3 from rfl]
theorem e_lstore4nl : ab_ds X P (.ok (.lstore 4, 2)) pc (c0 :: c1 :: c2 :: none :: some (.long v) :: none :: t) (.long u :: st) M k = k (pc + 2) (c0 :: c1 :: c2 :: none :: some (.long u) :: none :: t) st M := by simp [ab_ds, ab_lo, ab_st, ab_nl, show ((3 : Fin 4) : Nat) = 3 from rfl]
theorem e_iload5 : ab_ds X P (.ok (.iload 5, 2)) pc (c0 :: c1 :: c2 :: c3 :: c4 :: some (.int x) :: t) st M k = k (pc + 2) (c0 :: c1 :: c2 :: c3 :: c4 :: some (.int x) :: t) (.int x :: st) M := by simp [ab_ds, ab_lo, ab_st, show ((3 : Fin 4) : Nat) = 3 from rfl]
theorem e_lload5 : ab_ds X P (.ok (.lload 5, 2)) pc (c0 :: c1 :: c2 :: c3 :: c4 :: some (.long u) :: t) st M k = k (pc + 2) (c0 :: c1 :: c2 :: c3 :: c4 :: some (.long u) :: t) (.long u :: st) M := by simp [ab_ds, ab_lo, ab_st, show ((3 : Fin 4) : Nat) = 3 from rfl]
theorem e_iinc5 : ab_ds X P (.ok (.iinc 5 off, 3)) pc (c0 :: c1 :: c2 :: c3 :: c4 :: some (.int x) :: t) st M k = k (pc + 3) (c0 :: c1 :: c2 :: c3 :: c4 :: some (.int (x + Int32.ofInt off)) :: t) st M := by simp [ab_ds, ab_lo, ab_st, show ((3 : Fin 4) : Nat) = 3 from rfl]
theorem e_istore5i : ab_ds X P (.ok (.istore 5, 2)) pc (c0 :: c1 :: c2 :: c3 :: some (.int y) :: c5 :: t) (.int x :: st) M k = k (pc + 2) (c0 :: c1 :: c2 :: c3 :: some (.int y) :: some (.int x) :: t) st M := by simp [ab_ds, ab_lo, ab_st, ab_nl, show ((3 : Fin 4) : Nat) = 3 from rfl]
theorem e_lstore5ii : ab_ds X P (.ok (.lstore 5, 2)) pc (c0 :: c1 :: c2 :: c3 :: some (.int y) :: some (.int y) :: c6 :: t) (.long u :: st) M k = k (pc + 2) (c0 :: c1 :: c2 :: c3 :: some (.int y) :: some (.long u) :: none :: t) st M := by simp [ab_ds, ab_lo, ab_st, ab_nl, show ((3 : Fin 4) : Nat) = 3 from rfl]
theorem e_lstore5ir : ab_ds X P (.ok (.lstore 5, 2)) pc (c0 :: c1 :: c2 :: c3 :: some (.int y) :: some (.ref r) :: c6 :: t) (.long u :: st) M k = k (pc + 2) (c0 :: c1 :: c2 :: c3 :: some (.int y) :: some (.long u) :: none :: t) st M := by simp [ab_ds, ab_lo, ab_st, ab_nl, show ((3 : Fin 4) : Nat) = 3 from rfl]
theorem e_lstore5in : ab_ds X P (.ok (.lstore 5, 2)) pc (c0 :: c1 :: c2 :: c3 :: some (.int y) :: none :: c6 :: t) (.long u :: st) M k = k (pc + 2) (c0 :: c1 :: c2 :: c3 :: some (.int y) :: some (.long u) :: none :: t) st M := by simp [ab_ds, ab_lo, ab_st, ab_nl, show ((3 : Fin 4) : Nat) = 3 from rfl]
theorem e_lstore5il : ab_ds X P (.ok (.lstore 5, 2)) pc (c0 :: c1 :: c2 :: c3 :: some (.int y) :: some (.long v) :: none :: t) (.long u :: st) M k = k (pc + 2) (c0 :: c1 :: c2 :: c3 :: some (.int y) :: some (.long u) :: none :: t) st M := by simp [ab_ds, ab_lo, ab_st, ab_nl, show ((3 : Fin 4) : Nat) = 3 from rfl]
theorem e_istore5r : ab_ds X P (.ok (.istore 5, 2)) pc (c0 :: c1 :: c2 :: c3 :: some (.ref r) :: c5 :: t) (.int x :: st) M k = k (pc + 2) (c0 :: c1 :: c2 :: c3 :: some (.ref r) :: some (.int x) :: t) st M := by simp [ab_ds, ab_lo, ab_st, ab_nl, show ((3 : Fin 4) : Nat) = 3 from rfl]
theorem e_lstore5ri : ab_ds X P (.ok (.lstore 5, 2)) pc (c0 :: c1 :: c2 :: c3 :: some (.ref r) :: some (.int y) :: c6 :: t) (.long u :: st) M k = k (pc + 2) (c0 :: c1 :: c2 :: c3 :: some (.ref r) :: some (.long u) :: none :: t) st M := by simp [ab_ds, ab_lo, ab_st, ab_nl, show ((3 : Fin 4) : Nat) = 3 from rfl]
theorem e_lstore5rr : ab_ds X P (.ok (.lstore 5, 2)) pc (c0 :: c1 :: c2 :: c3 :: some (.ref r) :: some (.ref r) :: c6 :: t) (.long u :: st) M k = k (pc + 2) (c0 :: c1 :: c2 :: c3 :: some (.ref r) :: some (.long u) :: none :: t) st M := by simp [ab_ds, ab_lo, ab_st, ab_nl, show ((3 : Fin 4) : Nat) = 3 from rfl]
theorem e_lstore5rn : ab_ds X P (.ok (.lstore 5, 2)) pc (c0 :: c1 :: c2 :: c3 :: some (.ref r) :: none :: c6 :: t) (.long u :: st) M k = k (pc + 2) (c0 :: c1 :: c2 :: c3 :: some (.ref r) :: some (.long u) :: none :: t) st M := by simp [ab_ds, ab_lo, ab_st, ab_nl, show ((3 : Fin 4) : Nat) = 3 from rfl]
theorem e_lstore5rl : ab_ds X P (.ok (.lstore 5, 2)) pc (c0 :: c1 :: c2 :: c3 :: some (.ref r) :: some (.long v) :: none :: t) (.long u :: st) M k = k (pc + 2) (c0 :: c1 :: c2 :: c3 :: some (.ref r) :: some (.long u) :: none :: t) st M := by simp [ab_ds, ab_lo, ab_st, ab_nl, show ((3 : Fin 4) : Nat) = 3 from rfl]
theorem e_istore5n : ab_ds X P (.ok (.istore 5, 2)) pc (c0 :: c1 :: c2 :: c3 :: none :: c5 :: t) (.int x :: st) M k = k (pc + 2) (c0 :: c1 :: c2 :: c3 :: none :: some (.int x) :: t) st M := by simp [ab_ds, ab_lo, ab_st, ab_nl, show ((3 : Fin 4) : Nat) = 3 from rfl]
theorem e_lstore5ni : ab_ds X P (.ok (.lstore 5, 2)) pc (c0 :: c1 :: c2 :: c3 :: none :: some (.int y) :: c6 :: t) (.long u :: st) M k = k (pc + 2) (c0 :: c1 :: c2 :: c3 :: none :: some (.long u) :: none :: t) st M := by simp [ab_ds, ab_lo, ab_st, ab_nl, show ((3 : Fin 4) : Nat) = 3 from rfl]
theorem e_lstore5nr : ab_ds X P (.ok (.lstore 5, 2)) pc (c0 :: c1 :: c2 :: c3 :: none :: some (.ref r) :: c6 :: t) (.long u :: st) M k = k (pc + 2) (c0 :: c1 :: c2 :: c3 :: none :: some (.long u) :: none :: t) st M := by simp [ab_ds, ab_lo, ab_st, ab_nl, show ((3 : Fin 4) : Nat) = 3 from rfl]
theorem e_lstore5nn : ab_ds X P (.ok (.lstore 5, 2)) pc (c0 :: c1 :: c2 :: c3 :: none :: none :: c6 :: t) (.long u :: st) M k = k (pc + 2) (c0 :: c1 :: c2 :: c3 :: none :: some (.long u) :: none :: t) st M := by simp [ab_ds, ab_lo, ab_st, ab_nl, show ((3 : Fin 4) : Nat) = 3 from rfl]
theorem e_lstore5nl : ab_ds X P (.ok (.lstore 5, 2)) pc (c0 :: c1 :: c2 :: c3 :: none :: some (.long v) :: none :: t) (.long u :: st) M k = k (pc + 2) (c0 :: c1 :: c2 :: c3 :: none :: some (.long u) :: none :: t) st M := by simp [ab_ds, ab_lo, ab_st, ab_nl, show ((3 : Fin 4) : Nat) = 3 from rfl]
theorem e_iload6 : ab_ds X P (.ok (.iload 6, 2)) pc (c0 :: c1 :: c2 :: c3 :: c4 :: c5 :: some (.int x) :: t) st M k = k (pc + 2) (c0 :: c1 :: c2 :: c3 :: c4 :: c5 :: some (.int x) :: t) (.int x :: st) M := by simp [ab_ds, ab_lo, ab_st, show ((3 : Fin 4) : Nat) = 3 from rfl]
theorem e_lload6 : ab_ds X P (.ok (.lload 6, 2)) pc (c0 :: c1 :: c2 :: c3 :: c4 :: c5 :: some (.long u) :: t) st M k = k (pc + 2) (c0 :: c1 :: c2 :: c3 :: c4 :: c5 :: some (.long u) :: t) (.long u :: st) M := by simp [ab_ds, ab_lo, ab_st, show ((3 : Fin 4) : Nat) = 3 from rfl]
theorem e_iinc6 : ab_ds X P (.ok (.iinc 6 off, 3)) pc (c0 :: c1 :: c2 :: c3 :: c4 :: c5 :: some (.int x) :: t) st M k = k (pc + 3) (c0 :: c1 :: c2 :: c3 :: c4 :: c5 :: some (.int (x + Int32.ofInt off)) :: t) st M := by simp [ab_ds, ab_lo, ab_st, show ((3 : Fin 4) : Nat) = 3 from rfl]
theorem e_istore6i : ab_ds X P (.ok (.istore 6, 2)) pc (c0 :: c1 :: c2 :: c3 :: c4 :: some (.int y) :: c6 :: t) (.int x :: st) M k = k (pc + 2) (c0 :: c1 :: c2 :: c3 :: c4 :: some (.int y) :: some (.int x) :: t) st M := by simp [ab_ds, ab_lo, ab_st, ab_nl, show ((3 : Fin 4) : Nat) = 3 from rfl]
theorem e_lstore6ii : ab_ds X P (.ok (.lstore 6, 2)) pc (c0 :: c1 :: c2 :: c3 :: c4 :: some (.int y) :: some (.int y) :: c7 :: t) (.long u :: st) M k = k (pc + 2) (c0 :: c1 :: c2 :: c3 :: c4 :: some (.int y) :: some (.long u) :: none :: t) st M := by simp [ab_ds, ab_lo, ab_st, ab_nl, show ((3 : Fin 4) : Nat) = 3 from rfl]
theorem e_lstore6ir : ab_ds X P (.ok (.lstore 6, 2)) pc (c0 :: c1 :: c2 :: c3 :: c4 :: some (.int y) :: some (.ref r) :: c7 :: t) (.long u :: st) M k = k (pc + 2) (c0 :: c1 :: c2 :: c3 :: c4 :: some (.int y) :: some (.long u) :: none :: t) st M := by simp [ab_ds, ab_lo, ab_st, ab_nl, show ((3 : Fin 4) : Nat) = 3 from rfl]
theorem e_lstore6in : ab_ds X P (.ok (.lstore 6, 2)) pc (c0 :: c1 :: c2 :: c3 :: c4 :: some (.int y) :: none :: c7 :: t) (.long u :: st) M k = k (pc + 2) (c0 :: c1 :: c2 :: c3 :: c4 :: some (.int y) :: some (.long u) :: none :: t) st M := by simp [ab_ds, ab_lo, ab_st, ab_nl, show ((3 : Fin 4) : Nat) = 3 from rfl]
theorem e_lstore6il : ab_ds X P (.ok (.lstore 6, 2)) pc (c0 :: c1 :: c2 :: c3 :: c4 :: some (.int y) :: some (.long v) :: none :: t) (.long u :: st) M k = k (pc + 2) (c0 :: c1 :: c2 :: c3 :: c4 :: some (.int y) :: some (.long u) :: none :: t) st M := by simp [ab_ds, ab_lo, ab_st, ab_nl, show ((3 : Fin 4) : Nat) = 3 from rfl]
theorem e_istore6r : ab_ds X P (.ok (.istore 6, 2)) pc (c0 :: c1 :: c2 :: c3 :: c4 :: some (.ref r) :: c6 :: t) (.int x :: st) M k = k (pc + 2) (c0 :: c1 :: c2 :: c3 :: c4 :: some (.ref r) :: some (.int x) :: t) st M := by simp [ab_ds, ab_lo, ab_st, ab_nl, show ((3 : Fin 4) : Nat) = 3 from rfl]
theorem e_lstore6ri : ab_ds X P (.ok (.lstore 6, 2)) pc (c0 :: c1 :: c2 :: c3 :: c4 :: some (.ref r) :: some (.int y) :: c7 :: t) (.long u :: st) M k = k (pc + 2) (c0 :: c1 :: c2 :: c3 :: c4 :: some (.ref r) :: some (.long u) :: none :: t) st M := by simp [ab_ds, ab_lo, ab_st, ab_nl, show ((3 : Fin 4) : Nat) = 3 from rfl]
theorem e_lstore6rr : ab_ds X P (.ok (.lstore 6, 2)) pc (c0 :: c1 :: c2 :: c3 :: c4 :: some (.ref r) :: some (.ref r) :: c7 :: t) (.long u :: st) M k = k (pc + 2) (c0 :: c1 :: c2 :: c3 :: c4 :: some (.ref r) :: some (.long u) :: none :: t) st M := by simp [ab_ds, ab_lo, ab_st, ab_nl, show ((3 : Fin 4) : Nat) = 3 from rfl]
theorem e_lstore6rn : ab_ds X P (.ok (.lstore 6, 2)) pc (c0 :: c1 :: c2 :: c3 :: c4 :: some (.ref r) :: none :: c7 :: t) (.long u :: st) M k = k (pc + 2) (c0 :: c1 :: c2 :: c3 :: c4 :: some (.ref r) :: some (.long u) :: none :: t) st M := by simp [ab_ds, ab_lo, ab_st, ab_nl, show ((3 : Fin 4) : Nat) = 3 from rfl]
theorem e_lstore6rl : ab_ds X P (.ok (.lstore 6, 2)) pc (c0 :: c1 :: c2 :: c3 :: c4 :: some (.ref r) :: some (.long v) :: none :: t) (.long u :: st) M k = k (pc + 2) (c0 :: c1 :: c2 :: c3 :: c4 :: some (.ref r) :: some (.long u) :: none :: t) st M := by simp [ab_ds, ab_lo, ab_st, ab_nl, show ((3 : Fin 4) : Nat) = 3 from rfl]
theorem e_istore6n : ab_ds X P (.ok (.istore 6, 2)) pc (c0 :: c1 :: c2 :: c3 :: c4 :: none :: c6 :: t) (.int x :: st) M k = k (pc + 2) (c0 :: c1 :: c2 :: c3 :: c4 :: none :: some (.int x) :: t) st M := by simp [ab_ds, ab_lo, ab_st, ab_nl, show ((3 : Fin 4) : Nat) = 3 from rfl]
theorem e_lstore6ni : ab_ds X P (.ok (.lstore 6, 2)) pc (c0 :: c1 :: c2 :: c3 :: c4 :: none :: some (.int y) :: c7 :: t) (.long u :: st) M k = k (pc + 2) (c0 :: c1 :: c2 :: c3 :: c4 :: none :: some (.long u) :: none :: t) st M := by simp [ab_ds, ab_lo, ab_st, ab_nl, show ((3 : Fin 4) : Nat) = 3 from rfl]
theorem e_lstore6nr : ab_ds X P (.ok (.lstore 6, 2)) pc (c0 :: c1 :: c2 :: c3 :: c4 :: none :: some (.ref r) :: c7 :: t) (.long u :: st) M k = k (pc + 2) (c0 :: c1 :: c2 :: c3 :: c4 :: none :: some (.long u) :: none :: t) st M := by simp [ab_ds, ab_lo, ab_st, ab_nl, show ((3 : Fin 4) : Nat) = 3 from rfl]
theorem e_lstore6nn : ab_ds X P (.ok (.lstore 6, 2)) pc (c0 :: c1 :: c2 :: c3 :: c4 :: none :: none :: c7 :: t) (.long u :: st) M k = k (pc + 2) (c0 :: c1 :: c2 :: c3 :: c4 :: none :: some (.long u) :: none :: t) st M := by simp [ab_ds, ab_lo, ab_st, ab_nl, show ((3 : Fin 4) : Nat) = 3 from rfl]
theorem e_lstore6nl : ab_ds X P (.ok (.lstore 6, 2)) pc (c0 :: c1 :: c2 :: c3 :: c4 :: none :: some (.long v) :: none :: t) (.long u :: st) M k = k (pc + 2) (c0 :: c1 :: c2 :: c3 :: c4 :: none :: some (.long u) :: none :: t) st M := by simp [ab_ds, ab_lo, ab_st, ab_nl, show ((3 : Fin 4) : Nat) = 3 from rfl]
theorem e_iload7 : ab_ds X P (.ok (.iload 7, 2)) pc (c0 :: c1 :: c2 :: c3 :: c4 :: c5 :: c6 :: some (.int x) :: t) st M k = k (pc + 2) (c0 :: c1 :: c2 :: c3 :: c4 :: c5 :: c6 :: some (.int x) :: t) (.int x :: st) M := by simp [ab_ds, ab_lo, ab_st, show ((3 : Fin 4) : Nat) = 3 from rfl]
theorem e_lload7 : ab_ds X P (.ok (.lload 7, 2)) pc (c0 :: c1 :: c2 :: c3 :: c4 :: c5 :: c6 :: some (.long u) :: t) st M k = k (pc + 2) (c0 :: c1 :: c2 :: c3 :: c4 :: c5 :: c6 :: some (.long u) :: t) (.long u :: st) M := by simp [ab_ds, ab_lo, ab_st, show ((3 : Fin 4) : Nat) = 3 from rfl]
theorem e_iinc7 : ab_ds X P (.ok (.iinc 7 off, 3)) pc (c0 :: c1 :: c2 :: c3 :: c4 :: c5 :: c6 :: some (.int x) :: t) st M k = k (pc + 3) (c0 :: c1 :: c2 :: c3 :: c4 :: c5 :: c6 :: some (.int (x + Int32.ofInt off)) :: t) st M := by simp [ab_ds, ab_lo, ab_st, show ((3 : Fin 4) : Nat) = 3 from rfl]
theorem e_istore7i : ab_ds X P (.ok (.istore 7, 2)) pc (c0 :: c1 :: c2 :: c3 :: c4 :: c5 :: some (.int y) :: c7 :: t) (.int x :: st) M k = k (pc + 2) (c0 :: c1 :: c2 :: c3 :: c4 :: c5 :: some (.int y) :: some (.int x) :: t) st M := by simp [ab_ds, ab_lo, ab_st, ab_nl, show ((3 : Fin 4) : Nat) = 3 from rfl]
theorem e_istore7r : ab_ds X P (.ok (.istore 7, 2)) pc (c0 :: c1 :: c2 :: c3 :: c4 :: c5 :: some (.ref r) :: c7 :: t) (.int x :: st) M k = k (pc + 2) (c0 :: c1 :: c2 :: c3 :: c4 :: c5 :: some (.ref r) :: some (.int x) :: t) st M := by simp [ab_ds, ab_lo, ab_st, ab_nl, show ((3 : Fin 4) : Nat) = 3 from rfl]
theorem e_istore7n : ab_ds X P (.ok (.istore 7, 2)) pc (c0 :: c1 :: c2 :: c3 :: c4 :: c5 :: none :: c7 :: t) (.int x :: st) M k = k (pc + 2) (c0 :: c1 :: c2 :: c3 :: c4 :: c5 :: none :: some (.int x) :: t) st M := by simp [ab_ds, ab_lo, ab_st, ab_nl, show ((3 : Fin 4) : Nat) = 3 from rfl]
theorem e_iconst : ab_ds X P (.ok (.iconst off, 1)) pc lv st M k = k (pc + 1) lv (.int (Int32.ofInt off) :: st) M := by simp [ab_ds, ab_lo, ab_st, show ((3 : Fin 4) : Nat) = 3 from rfl]
theorem e_bipush : ab_ds X P (.ok (.bipush off, 2)) pc lv st M k = k (pc + 2) lv (.int (Int8.ofInt off).toInt32 :: st) M := by simp [ab_ds, ab_lo, ab_st, show ((3 : Fin 4) : Nat) = 3 from rfl]
theorem e_sipush : ab_ds X P (.ok (.sipush off, 3)) pc lv st M k = k (pc + 3) lv (.int (Int16.ofInt off).toInt32 :: st) M := by simp [ab_ds, ab_lo, ab_st, show ((3 : Fin 4) : Nat) = 3 from rfl]
theorem e_lconst0 : ab_ds X P (.ok (.lconst 0, 1)) pc lv st M k = k (pc + 1) lv (.long 0 :: st) M := by simp [ab_ds, ab_lo, ab_st] <;> rfl
theorem e_lconst1 : ab_ds X P (.ok (.lconst 1, 1)) pc lv st M k = k (pc + 1) lv (.long 1 :: st) M := by simp [ab_ds, ab_lo, ab_st] <;> rfl
theorem e_iadd : ab_ds X P (.ok (.iadd, 1)) pc lv (.int y :: .int x :: st) M k = k (pc + 1) lv (.int (x + y) :: st) M := by simp only [ab_ds, ab_lo, ab_st, true_and]
theorem e_isub : ab_ds X P (.ok (.isub, 1)) pc lv (.int y :: .int x :: st) M k = k (pc + 1) lv (.int (x - y) :: st) M := by simp only [ab_ds, ab_lo, ab_st, true_and]
theorem e_imul : ab_ds X P (.ok (.imul, 1)) pc lv (.int y :: .int x :: st) M k = k (pc + 1) lv (.int (x * y) :: st) M := by simp only [ab_ds, ab_lo, ab_st, true_and]
theorem e_iand : ab_ds X P (.ok (.iand, 1)) pc lv (.int y :: .int x :: st) M k = k (pc + 1) lv (.int (x &&& y) :: st) M := by simp only [ab_ds, ab_lo, ab_st, true_and]
theorem e_ior : ab_ds X P (.ok (.ior, 1)) pc lv (.int y :: .int x :: st) M k = k (pc + 1) lv (.int (x ||| y) :: st) M := by simp only [ab_ds, ab_lo, ab_st, true_and]
theorem e_ixor : ab_ds X P (.ok (.ixor, 1)) pc lv (.int y :: .int x :: st) M k = k (pc + 1) lv (.int (x ^^^ y) :: st) M := by simp only [ab_ds, ab_lo, ab_st, true_and]
theorem e_ishl : ab_ds X P (.ok (.ishl, 1)) pc lv (.int y :: .int x :: st) M k = k (pc + 1) lv (.int (x <<< (y &&& 31)) :: st) M := by simp only [ab_ds, ab_lo, ab_st, true_and]
theorem e_ishr : ab_ds X P (.ok (.ishr, 1)) pc lv (.int y :: .int x :: st) M k = k (pc + 1) lv (.int (x >>> (y &&& 31)) :: st) M := by simp only [ab_ds, ab_lo, ab_st, true_and]
theorem e_iushr : ab_ds X P (.ok (.iushr, 1)) pc lv (.int y :: .int x :: st) M k = k (pc + 1) lv (.int ((x.toUInt32 >>> (y.toUInt32 &&& Int32.toUInt32 31)).toInt32) :: st) M := by simp only [ab_ds, ab_lo, ab_st, true_and]
theorem e_idiv : ab_ds X P (.ok (.idiv, 1)) pc lv (.int y :: .int x :: st) M k = (¬ y = 0 ∧ k (pc + 1) lv (.int (x / y) :: st) M) := by simp only [ab_ds, ab_lo, ab_st, true_and]
theorem e_irem : ab_ds X P (.ok (.irem, 1)) pc lv (.int y :: .int x :: st) M k = (¬ y = 0 ∧ k (pc + 1) lv (.int (x - x / y * y) :: st) M) := by simp only [ab_ds, ab_lo, ab_st, true_and]
theorem e_ladd : ab_ds X P (.ok (.ladd, 1)) pc lv (.long v :: .long u :: st) M k = k (pc + 1) lv (.long (u + v) :: st) M := by simp only [ab_ds, ab_lo, ab_st, true_and]
theorem e_lsub : ab_ds X P (.ok (.lsub, 1)) pc lv (.long v :: .long u :: st) M k = k (pc + 1) lv (.long (u - v) :: st) M := by simp only [ab_ds, ab_lo, ab_st, true_and]
theorem e_lmul : ab_ds X P (.ok (.lmul, 1)) pc lv (.long v :: .long u :: st) M k = k (pc + 1) lv (.long (u * v) :: st) M := by simp only [ab_ds, ab_lo, ab_st, true_and]
theorem e_land : ab_ds X P (.ok (.land, 1)) pc lv (.long v :: .long u :: st) M k = k (pc + 1) lv (.long (u &&& v) :: st) M := by simp only [ab_ds, ab_lo, ab_st, true_and]
theorem e_lor : ab_ds X P (.ok (.lor, 1)) pc lv (.long v :: .long u :: st) M k = k (pc + 1) lv (.long (u ||| v) :: st) M := by simp only [ab_ds, ab_lo, ab_st, true_and]
theorem e_ldiv : ab_ds X P (.ok (.ldiv, 1)) pc lv (.long v :: .long u :: st) M k = (¬ v = 0 ∧ k (pc + 1) lv (.long (u / v) :: st) M) := by simp only [ab_ds, ab_lo, ab_st, true_and]
theorem e_lrem : ab_ds X P (.ok (.lrem, 1)) pc lv (.long v :: .long u :: st) M k = (¬ v = 0 ∧ k (pc + 1) lv (.long (u - u / v * v) :: st) M) := by simp only [ab_ds, ab_lo, ab_st, true_and]
theorem e_lcmp : ab_ds X P (.ok (.lcmp, 1)) pc lv (.long v :: .long u :: st) M k = k (pc + 1) lv (.int (lg_cmp u v) :: st) M := by simp only [ab_ds, ab_lo, ab_st, true_and]
theorem e_lshl : ab_ds X P (.ok (.lshl, 1)) pc lv (.int y :: .long u :: st) M k = k (pc + 1) lv (.long (u <<< (y.toInt64 &&& 63)) :: st) M := by simp only [ab_ds, ab_lo, ab_st, true_and]
theorem e_lushr : ab_ds X P (.ok (.lushr, 1)) pc lv (.int y :: .long u :: st) M k = k (pc + 1) lv (.long (u.toUInt64 >>> (y.toInt64.toUInt64 &&& Int64.toUInt64 63)).toInt64 :: st) M := by simp only [ab_ds, ab_lo, ab_st, true_and]
theorem e_ineg : ab_ds X P (.ok (.ineg, 1)) pc lv (.int x :: st) M k = k (pc + 1) lv (.int (-x) :: st) M := by simp only [ab_ds, ab_lo, ab_st, true_and]
theorem e_i2l : ab_ds X P (.ok (.i2l, 1)) pc lv (.int x :: st) M k = k (pc + 1) lv (.long x.toInt64 :: st) M := by simp only [ab_ds, ab_lo, ab_st, true_and]
theorem e_l2i : ab_ds X P (.ok (.l2i, 1)) pc lv (.long u :: st) M k = k (pc + 1) lv (.int u.toInt32 :: st) M := by simp only [ab_ds, ab_lo, ab_st, true_and]
theorem e_dupi : ab_ds X P (.ok (.dup, 1)) pc lv (.int x :: st) M k = k (pc + 1) lv (.int x :: .int x :: st) M := by simp only [ab_ds, ab_lo, ab_st, true_and]
theorem e_dupr : ab_ds X P (.ok (.dup, 1)) pc lv (.ref q :: st) M k = k (pc + 1) lv (.ref q :: .ref q :: st) M := by simp only [ab_ds, ab_lo, ab_st, true_and]
theorem e_pop : ab_ds X P (.ok (.pop, 1)) pc lv (.int x :: st) M k = k (pc + 1) lv st M := by simp only [ab_ds, ab_lo, ab_st, true_and]
theorem e_dup2 : ab_ds X P (.ok (.dup2, 1)) pc lv (.int x :: .ref q :: st) M k = k (pc + 1) lv (.int x :: .ref q :: .int x :: .ref q :: st) M := by simp only [ab_ds, ab_lo, ab_st, true_and]
theorem e_goto : ab_ds X P (.ok (.goto off, 3)) pc lv st M k = (0 ≤ (pc : Int) + off ∧ k ((pc : Int) + off).toNat lv st M) := by simp only [ab_ds, ab_lo, ab_st, true_and, ab_j]
theorem e_if_eq : ab_ds X P (.ok (.ifCond .eq off, 3)) pc lv (.int x :: st) M k = (0 ≤ (pc : Int) + off ∧ if x = 0 then k ((pc : Int) + off).toNat lv st M else k (pc + 3) lv st M) := by simp only [ab_ds, ab_lo, ab_st, true_and]
theorem e_if_ne : ab_ds X P (.ok (.ifCond .ne off, 3)) pc lv (.int x :: st) M k = (0 ≤ (pc : Int) + off ∧ if x = 0 then k (pc + 3) lv st M else k ((pc : Int) + off).toNat lv st M) := by simp only [ab_ds, ab_lo, ab_st, true_and]
theorem e_if_lt : ab_ds X P (.ok (.ifCond .lt off, 3)) pc lv (.int x :: st) M k = (0 ≤ (pc : Int) + off ∧ if x < 0 then k ((pc : Int) + off).toNat lv st M else k (pc + 3) lv st M) := by simp only [ab_ds, ab_lo, ab_st, true_and]
theorem e_if_ge : ab_ds X P (.ok (.ifCond .ge off, 3)) pc lv (.int x :: st) M k = (0 ≤ (pc : Int) + off ∧ if x < 0 then k (pc + 3) lv st M else k ((pc : Int) + off).toNat lv st M) := by simp only [ab_ds, ab_lo, ab_st, true_and]
theorem e_if_gt : ab_ds X P (.ok (.ifCond .gt off, 3)) pc lv (.int x :: st) M k = (0 ≤ (pc : Int) + off ∧ if 0 < x then k ((pc : Int) + off).toNat lv st M else k (pc + 3) lv st M) := by simp only [ab_ds, ab_lo, ab_st, true_and]
theorem e_if_le : ab_ds X P (.ok (.ifCond .le off, 3)) pc lv (.int x :: st) M k = (0 ≤ (pc : Int) + off ∧ if 0 < x then k (pc + 3) lv st M else k ((pc : Int) + off).toNat lv st M) := by simp only [ab_ds, ab_lo, ab_st, true_and]
theorem e_icmp_eq : ab_ds X P (.ok (.if_icmp .eq off, 3)) pc lv (.int y :: .int x :: st) M k = (0 ≤ (pc : Int) + off ∧ if x = y then k ((pc : Int) + off).toNat lv st M else k (pc + 3) lv st M) := by simp only [ab_ds, ab_lo, ab_st, true_and]
theorem e_icmp_ne : ab_ds X P (.ok (.if_icmp .ne off, 3)) pc lv (.int y :: .int x :: st) M k = (0 ≤ (pc : Int) + off ∧ if x = y then k (pc + 3) lv st M else k ((pc : Int) + off).toNat lv st M) := by simp only [ab_ds, ab_lo, ab_st, true_and]
theorem e_icmp_lt : ab_ds X P (.ok (.if_icmp .lt off, 3)) pc lv (.int y :: .int x :: st) M k = (0 ≤ (pc : Int) + off ∧ if x < y then k ((pc : Int) + off).toNat lv st M else k (pc + 3) lv st M) := by simp only [ab_ds, ab_lo, ab_st, true_and]
theorem e_icmp_ge : ab_ds X P (.ok (.if_icmp .ge off, 3)) pc lv (.int y :: .int x :: st) M k = (0 ≤ (pc : Int) + off ∧ if x < y then k (pc + 3) lv st M else k ((pc : Int) + off).toNat lv st M) := by simp only [ab_ds, ab_lo, ab_st, true_and]
theorem e_icmp_gt : ab_ds X P (.ok (.if_icmp .gt off, 3)) pc lv (.int y :: .int x :: st) M k = (0 ≤ (pc : Int) + off ∧ if y < x then k ((pc : Int) + off).toNat lv st M else k (pc + 3) lv st M) := by simp only [ab_ds, ab_lo, ab_st, true_and]
theorem e_icmp_le : ab_ds X P (.ok (.if_icmp .le off, 3)) pc lv (.int y :: .int x :: st) M k = (0 ≤ (pc : Int) + off ∧ if y < x then k (pc + 3) lv st M else k ((pc : Int) + off).toNat lv st M) := by simp only [ab_ds, ab_lo, ab_st, true_and]
theorem e_tsw {d lo hi : Int} {offs : Array Int} {len : Nat} : ab_ds X P (.ok (.tableswitch d lo hi offs, len)) pc lv (.int x :: st) M k = ((offs.size : Int) = hi - lo + 1 ∧ ab_tsw pc x (fun t => k t lv st M) d lo offs.toList) := by simp only [ab_ds, ab_lo, ab_st, true_and]
theorem e_iaload : ab_ds X P (.ok (.iaload, 1)) pc lv (.int x :: .ref q :: st) M k = ab_ia X M q x (fun v => k (pc + 1) lv (v :: st) M) := by simp only [ab_ds, ab_lo, ab_st, true_and]
theorem e_laload : ab_ds X P (.ok (.laload, 1)) pc lv (.int x :: .ref q :: st) M k = ab_la X M q x (fun v => k (pc + 1) lv (v :: st) M) := by simp only [ab_ds, ab_lo, ab_st, true_and]
theorem e_baload : ab_ds X P (.ok (.baload, 1)) pc lv (.int x :: .ref q :: st) M k = ab_za M q x (fun v => k (pc + 1) lv (v :: st) M) := by simp only [ab_ds, ab_lo, ab_st, true_and]
theorem e_iastore : ab_ds X P (.ok (.iastore, 1)) pc lv (.int y :: .int x :: .ref q :: st) M k = ab_is M q x y (fun M => k (pc + 1) lv st M) := by simp only [ab_ds, ab_lo, ab_st, true_and]
theorem e_bastore : ab_ds X P (.ok (.bastore, 1)) pc lv (.int y :: .int x :: .ref q :: st) M k = ab_zs M q x y (fun M => k (pc + 1) lv st M) := by simp only [ab_ds, ab_lo, ab_st, true_and]
theorem e_lastore : ab_ds X P (.ok (.lastore, 1)) pc lv (.long u :: .int x :: .ref q :: st) M k = ab_ls M q x u (fun M => k (pc + 1) lv st M) := by simp only [ab_ds, ab_lo, ab_st, true_and]
theorem e_alen : ab_ds X P (.ok (.arraylength, 1)) pc lv (.ref q :: st) M k = ab_len X q (fun n => k (pc + 1) lv (.int n :: st) M) := by simp only [ab_ds, ab_lo, ab_st, true_and]
theorem e_getfield : ab_ds X P (.ok (.getfield r, 3)) pc lv (.ref q :: st) M k = ab_gf X r q M (fun v => k (pc + 3) lv (v :: st) M) := by simp only [ab_ds, ab_lo, ab_st, true_and]
theorem e_putfield {w : Value} : ab_ds X P (.ok (.putfield r, 3)) pc lv (w :: .ref q :: st) M k = ab_pf X r q w M (fun M => k (pc + 3) lv st M) := by simp only [ab_ds, ab_lo, ab_st, true_and]
theorem e_callv : ab_ds X P (.ok (.invokevirtual r, 3)) pc lv st M k = ab_ca X (2 * r) st M (fun st M => k (pc + 3) lv st M) := by simp only [ab_ds, ab_lo, ab_st, true_and]
theorem e_calls : ab_ds X P (.ok (.invokestatic r, 3)) pc lv st M k = ab_ca X (2 * r + 1) st M (fun st M => k (pc + 3) lv st M) := by simp only [ab_ds, ab_lo, ab_st, true_and]
theorem e_ireturn : ab_ds X P (.ok (.ireturn, 1)) pc lv [.int x] M k = (ab_rn X.1 x ∧ P (some (.int x)) M) := by simp only [ab_ds, ab_lo, ab_st, true_and]
theorem e_lreturn : ab_ds X P (.ok (.lreturn, 1)) pc lv [.long u] M k = (X.1 = some .long ∧ P (some (.long u)) M) := by simp only [ab_ds, ab_lo, ab_st, true_and]
theorem e_return : ab_ds X P (.ok (.return_, 1)) pc lv [] M k = (X.1 = none ∧ P none M) := by simp only [ab_ds, ab_lo, ab_st, true_and]
theorem el_2 {f : Int32 → Prop} : ab_len X 2 f = f 48 := rfl
theorem ea_2 {f : Value → Prop} : ab_ia X M 2 x f = ((0 ≤ x ∧ x < 48) ∧ f (.int (M.1 2 x.toNatClampNeg))) := by simp only [ab_ia, show ab_al 2 = some (.int, 48) from rfl, true_and] <;> rfl
theorem es_2 {f : ab_M → Prop} : ab_is M 2 x y f = ((0 ≤ x ∧ x < 48) ∧ f (ab_si M 2 x.toNatClampNeg y)) := by simp only [ab_is, show ab_al 2 = some (.int, 48) from rfl, true_and] <;> rfl
theorem el_4 {f : Int32 → Prop} : ab_len X 4 f = f 8 := rfl
theorem ea_4 {f : Value → Prop} : ab_ia X M 4 x f = ((0 ≤ x ∧ x < 8) ∧ f (.int (M.1 4 x.toNatClampNeg))) := by simp only [ab_ia, show ab_al 4 = some (.int, 8) from rfl, true_and] <;> rfl
theorem es_4 {f : ab_M → Prop} : ab_is M 4 x y f = ((0 ≤ x ∧ x < 8) ∧ f (ab_si M 4 x.toNatClampNeg y)) := by simp only [ab_is, show ab_al 4 = some (.int, 8) from rfl, true_and] <;> rfl
theorem el_5 {f : Int32 → Prop} : ab_len X 5 f = f 8 := rfl
theorem ea_5 {f : Value → Prop} : ab_ia X M 5 x f = ((0 ≤ x ∧ x < 8) ∧ f (.int (M.1 5 x.toNatClampNeg))) := by simp only [ab_ia, show ab_al 5 = some (.int, 8) from rfl, true_and] <;> rfl
theorem es_5 {f : ab_M → Prop} : ab_is M 5 x y f = ((0 ≤ x ∧ x < 8) ∧ f (ab_si M 5 x.toNatClampNeg y)) := by simp only [ab_is, show ab_al 5 = some (.int, 8) from rfl, true_and] <;> rfl
theorem el_6 {f : Int32 → Prop} : ab_len X 6 f = f 8 := rfl
theorem ea_6 {f : Value → Prop} : ab_ia X M 6 x f = ((0 ≤ x ∧ x < 8) ∧ f (.int (M.1 6 x.toNatClampNeg))) := by simp only [ab_ia, show ab_al 6 = some (.int, 8) from rfl, true_and] <;> rfl
theorem es_6 {f : ab_M → Prop} : ab_is M 6 x y f = ((0 ≤ x ∧ x < 8) ∧ f (ab_si M 6 x.toNatClampNeg y)) := by simp only [ab_is, show ab_al 6 = some (.int, 8) from rfl, true_and] <;> rfl
theorem el_7 {f : Int32 → Prop} : ab_len X 7 f = f 72 := rfl
theorem ea_7 {f : Value → Prop} : ab_ia X M 7 x f = ((0 ≤ x ∧ x < 72) ∧ f (.int (M.1 7 x.toNatClampNeg))) := by simp only [ab_ia, show ab_al 7 = some (.int, 72) from rfl, true_and] <;> rfl
theorem es_7 {f : ab_M → Prop} : ab_is M 7 x y f = ((0 ≤ x ∧ x < 72) ∧ f (ab_si M 7 x.toNatClampNeg y)) := by simp only [ab_is, show ab_al 7 = some (.int, 72) from rfl, true_and] <;> rfl
theorem el_9 {f : Int32 → Prop} : ab_len X 9 f = f 5 := rfl
theorem ea_9 {f : Value → Prop} : ab_ia X M 9 x f = ((0 ≤ x ∧ x < 5) ∧ f (.int (M.1 9 x.toNatClampNeg))) := by simp only [ab_ia, show ab_al 9 = some (.int, 5) from rfl, true_and] <;> rfl
theorem es_9 {f : ab_M → Prop} : ab_is M 9 x y f = ((0 ≤ x ∧ x < 5) ∧ f (ab_si M 9 x.toNatClampNeg y)) := by simp only [ab_is, show ab_al 9 = some (.int, 5) from rfl, true_and] <;> rfl
theorem el_10 {f : Int32 → Prop} : ab_len X 10 f = f 5 := rfl
theorem ea_10 {f : Value → Prop} : ab_ia X M 10 x f = ((0 ≤ x ∧ x < 5) ∧ f (.int (M.1 10 x.toNatClampNeg))) := by simp only [ab_ia, show ab_al 10 = some (.int, 5) from rfl, true_and] <;> rfl
theorem es_10 {f : ab_M → Prop} : ab_is M 10 x y f = ((0 ≤ x ∧ x < 5) ∧ f (ab_si M 10 x.toNatClampNeg y)) := by simp only [ab_is, show ab_al 10 = some (.int, 5) from rfl, true_and] <;> rfl
theorem el_11 {f : Int32 → Prop} : ab_len X 11 f = f 5 := rfl
theorem ea_11 {f : Value → Prop} : ab_ia X M 11 x f = ((0 ≤ x ∧ x < 5) ∧ f (.int (M.1 11 x.toNatClampNeg))) := by simp only [ab_ia, show ab_al 11 = some (.int, 5) from rfl, true_and] <;> rfl
theorem es_11 {f : ab_M → Prop} : ab_is M 11 x y f = ((0 ≤ x ∧ x < 5) ∧ f (ab_si M 11 x.toNatClampNeg y)) := by simp only [ab_is, show ab_al 11 = some (.int, 5) from rfl, true_and] <;> rfl
theorem el_13 {f : Int32 → Prop} : ab_len X 13 f = f 5 := rfl
theorem ea_13 {f : Value → Prop} : ab_ia X M 13 x f = ((0 ≤ x ∧ x < 5) ∧ f (.int (M.1 13 x.toNatClampNeg))) := by simp only [ab_ia, show ab_al 13 = some (.int, 5) from rfl, true_and] <;> rfl
theorem es_13 {f : ab_M → Prop} : ab_is M 13 x y f = ((0 ≤ x ∧ x < 5) ∧ f (ab_si M 13 x.toNatClampNeg y)) := by simp only [ab_is, show ab_al 13 = some (.int, 5) from rfl, true_and] <;> rfl
theorem el_15 {f : Int32 → Prop} : ab_len X 15 f = f 14 := rfl
theorem ea_15 {f : Value → Prop} : ab_la X M 15 x f = ((0 ≤ x ∧ x < 14) ∧ f (.long (M.2 15 x.toNatClampNeg))) := by simp only [ab_la, show ab_al 15 = some (.long, 14) from rfl, true_and] <;> rfl
theorem es_15 {f : ab_M → Prop} : ab_ls M 15 x u f = ((0 ≤ x ∧ x < 14) ∧ f (ab_sl M 15 x.toNatClampNeg u)) := by simp only [ab_ls, show ab_al 15 = some (.long, 14) from rfl, true_and] <;> rfl
theorem el_17 {f : Int32 → Prop} : ab_len X 17 f = f 4 := rfl
theorem ea_17 {f : Value → Prop} : ab_ia X M 17 x f = ((0 ≤ x ∧ x < 4) ∧ f (.int (M.1 17 x.toNatClampNeg))) := by simp only [ab_ia, show ab_al 17 = some (.int, 4) from rfl, true_and] <;> rfl
theorem es_17 {f : ab_M → Prop} : ab_is M 17 x y f = ((0 ≤ x ∧ x < 4) ∧ f (ab_si M 17 x.toNatClampNeg y)) := by simp only [ab_is, show ab_al 17 = some (.int, 4) from rfl, true_and] <;> rfl
theorem el_19 {f : Int32 → Prop} : ab_len X 19 f = f 5 := rfl
theorem ea_19 {f : Value → Prop} : ab_ia X M 19 x f = ((0 ≤ x ∧ x < 5) ∧ f (.int (M.1 19 x.toNatClampNeg))) := by simp only [ab_ia, show ab_al 19 = some (.int, 5) from rfl, true_and] <;> rfl
theorem es_19 {f : ab_M → Prop} : ab_is M 19 x y f = ((0 ≤ x ∧ x < 5) ∧ f (ab_si M 19 x.toNatClampNeg y)) := by simp only [ab_is, show ab_al 19 = some (.int, 5) from rfl, true_and] <;> rfl
theorem el_21 {f : Int32 → Prop} : ab_len X 21 f = f 4 := rfl
theorem ea_21 {f : Value → Prop} : ab_ia X M 21 x f = ((0 ≤ x ∧ x < 4) ∧ f (.int (M.1 21 x.toNatClampNeg))) := by simp only [ab_ia, show ab_al 21 = some (.int, 4) from rfl, true_and] <;> rfl
theorem es_21 {f : ab_M → Prop} : ab_is M 21 x y f = ((0 ≤ x ∧ x < 4) ∧ f (ab_si M 21 x.toNatClampNeg y)) := by simp only [ab_is, show ab_al 21 = some (.int, 4) from rfl, true_and] <;> rfl
theorem el_22 {f : Int32 → Prop} : ab_len X 22 f = f 4 := rfl
theorem ea_22 {f : Value → Prop} : ab_ia X M 22 x f = ((0 ≤ x ∧ x < 4) ∧ f (.int (M.1 22 x.toNatClampNeg))) := by simp only [ab_ia, show ab_al 22 = some (.int, 4) from rfl, true_and] <;> rfl
theorem es_22 {f : ab_M → Prop} : ab_is M 22 x y f = ((0 ≤ x ∧ x < 4) ∧ f (ab_si M 22 x.toNatClampNeg y)) := by simp only [ab_is, show ab_al 22 = some (.int, 4) from rfl, true_and] <;> rfl
theorem el_24 {f : Int32 → Prop} : ab_len X 24 f = f 5 := rfl
theorem ea_24 {f : Value → Prop} : ab_ia X M 24 x f = ((0 ≤ x ∧ x < 5) ∧ f (.int (M.1 24 x.toNatClampNeg))) := by simp only [ab_ia, show ab_al 24 = some (.int, 5) from rfl, true_and] <;> rfl
theorem es_24 {f : ab_M → Prop} : ab_is M 24 x y f = ((0 ≤ x ∧ x < 5) ∧ f (ab_si M 24 x.toNatClampNeg y)) := by simp only [ab_is, show ab_al 24 = some (.int, 5) from rfl, true_and] <;> rfl
theorem el_26 {f : Int32 → Prop} : ab_len X 26 f = f 6 := rfl
theorem ea_26 {f : Value → Prop} : ab_ia X M 26 x f = ((0 ≤ x ∧ x < 6) ∧ f (.int (M.1 26 x.toNatClampNeg))) := by simp only [ab_ia, show ab_al 26 = some (.int, 6) from rfl, true_and] <;> rfl
theorem es_26 {f : ab_M → Prop} : ab_is M 26 x y f = ((0 ≤ x ∧ x < 6) ∧ f (ab_si M 26 x.toNatClampNeg y)) := by simp only [ab_is, show ab_al 26 = some (.int, 6) from rfl, true_and] <;> rfl
theorem el_27 {f : Int32 → Prop} : ab_len X 27 f = f 6 := rfl
theorem ea_27 {f : Value → Prop} : ab_ia X M 27 x f = ((0 ≤ x ∧ x < 6) ∧ f (.int (M.1 27 x.toNatClampNeg))) := by simp only [ab_ia, show ab_al 27 = some (.int, 6) from rfl, true_and] <;> rfl
theorem es_27 {f : ab_M → Prop} : ab_is M 27 x y f = ((0 ≤ x ∧ x < 6) ∧ f (ab_si M 27 x.toNatClampNeg y)) := by simp only [ab_is, show ab_al 27 = some (.int, 6) from rfl, true_and] <;> rfl
theorem el_28 {f : Int32 → Prop} : ab_len X 28 f = f 6 := rfl
theorem ea_28 {f : Value → Prop} : ab_za M 28 x f = ((0 ≤ x ∧ x < 6) ∧ f (.int (M.1 28 x.toNatClampNeg))) := by simp only [ab_za, show ab_al 28 = some (.boolean, 6) from rfl, true_and] <;> rfl
theorem es_28 {f : ab_M → Prop} : ab_zs M 28 x y f = ((0 ≤ x ∧ x < 6) ∧ f (ab_si M 28 x.toNatClampNeg (vp_nar .boolean y))) := by simp only [ab_zs, show ab_al 28 = some (.boolean, 6) from rfl, true_and] <;> rfl
theorem el_29 {f : Int32 → Prop} : ab_len X 29 f = f 2 := rfl
theorem ea_29 {f : Value → Prop} : ab_la X M 29 x f = ((0 ≤ x ∧ x < 2) ∧ f (.long (M.2 29 x.toNatClampNeg))) := by simp only [ab_la, show ab_al 29 = some (.long, 2) from rfl, true_and] <;> rfl
theorem es_29 {f : ab_M → Prop} : ab_ls M 29 x u f = ((0 ≤ x ∧ x < 2) ∧ f (ab_sl M 29 x.toNatClampNeg u)) := by simp only [ab_ls, show ab_al 29 = some (.long, 2) from rfl, true_and] <;> rfl
theorem el_31 {f : Int32 → Prop} : ab_len X 31 f = f 48 := rfl
theorem ea_31 {f : Value → Prop} : ab_ia X M 31 x f = ((0 ≤ x ∧ x < 48) ∧ f (.int (M.1 31 x.toNatClampNeg))) := by simp only [ab_ia, show ab_al 31 = some (.int, 48) from rfl, true_and] <;> rfl
theorem es_31 {f : ab_M → Prop} : ab_is M 31 x y f = ((0 ≤ x ∧ x < 48) ∧ f (ab_si M 31 x.toNatClampNeg y)) := by simp only [ab_is, show ab_al 31 = some (.int, 48) from rfl, true_and] <;> rfl
theorem el_32 {f : Int32 → Prop} : ab_len X 32 f = f 8 := rfl
theorem ea_32 {f : Value → Prop} : ab_ia X M 32 x f = ((0 ≤ x ∧ x < 8) ∧ f (.int (M.1 32 x.toNatClampNeg))) := by simp only [ab_ia, show ab_al 32 = some (.int, 8) from rfl, true_and] <;> rfl
theorem es_32 {f : ab_M → Prop} : ab_is M 32 x y f = ((0 ≤ x ∧ x < 8) ∧ f (ab_si M 32 x.toNatClampNeg y)) := by simp only [ab_is, show ab_al 32 = some (.int, 8) from rfl, true_and] <;> rfl
theorem el_33 {f : Int32 → Prop} : ab_len X 33 f = f 8 := rfl
theorem ea_33 {f : Value → Prop} : ab_ia X M 33 x f = ((0 ≤ x ∧ x < 8) ∧ f (.int (M.1 33 x.toNatClampNeg))) := by simp only [ab_ia, show ab_al 33 = some (.int, 8) from rfl, true_and] <;> rfl
theorem es_33 {f : ab_M → Prop} : ab_is M 33 x y f = ((0 ≤ x ∧ x < 8) ∧ f (ab_si M 33 x.toNatClampNeg y)) := by simp only [ab_is, show ab_al 33 = some (.int, 8) from rfl, true_and] <;> rfl
theorem el_34 {f : Int32 → Prop} : ab_len X 34 f = f 5 := rfl
theorem ea_34 {f : Value → Prop} : ab_ia X M 34 x f = ((0 ≤ x ∧ x < 5) ∧ f (.int (M.1 34 x.toNatClampNeg))) := by simp only [ab_ia, show ab_al 34 = some (.int, 5) from rfl, true_and] <;> rfl
theorem es_34 {f : ab_M → Prop} : ab_is M 34 x y f = ((0 ≤ x ∧ x < 5) ∧ f (ab_si M 34 x.toNatClampNeg y)) := by simp only [ab_is, show ab_al 34 = some (.int, 5) from rfl, true_and] <;> rfl
theorem el_35 {f : Int32 → Prop} : ab_len X 35 f = f 5 := rfl
theorem ea_35 {f : Value → Prop} : ab_ia X M 35 x f = ((0 ≤ x ∧ x < 5) ∧ f (.int (M.1 35 x.toNatClampNeg))) := by simp only [ab_ia, show ab_al 35 = some (.int, 5) from rfl, true_and] <;> rfl
theorem es_35 {f : ab_M → Prop} : ab_is M 35 x y f = ((0 ≤ x ∧ x < 5) ∧ f (ab_si M 35 x.toNatClampNeg y)) := by simp only [ab_is, show ab_al 35 = some (.int, 5) from rfl, true_and] <;> rfl
theorem el_36 {f : Int32 → Prop} : ab_len X 36 f = f 16 := rfl
theorem ea_36 {f : Value → Prop} : ab_ia X M 36 x f = ((0 ≤ x ∧ x < 16) ∧ f (.int (M.1 36 x.toNatClampNeg))) := by simp only [ab_ia, show ab_al 36 = some (.int, 16) from rfl, true_and] <;> rfl
theorem es_36 {f : ab_M → Prop} : ab_is M 36 x y f = ((0 ≤ x ∧ x < 16) ∧ f (ab_si M 36 x.toNatClampNeg y)) := by simp only [ab_is, show ab_al 36 = some (.int, 16) from rfl, true_and] <;> rfl
theorem el_37 {f : Int32 → Prop} : ab_len X 37 f = f 15 := rfl
theorem ea_37 {f : Value → Prop} : ab_ia X M 37 x f = ((0 ≤ x ∧ x < 15) ∧ f (.int (M.1 37 x.toNatClampNeg))) := by simp only [ab_ia, show ab_al 37 = some (.int, 15) from rfl, true_and] <;> rfl
theorem es_37 {f : ab_M → Prop} : ab_is M 37 x y f = ((0 ≤ x ∧ x < 15) ∧ f (ab_si M 37 x.toNatClampNeg y)) := by simp only [ab_is, show ab_al 37 = some (.int, 15) from rfl, true_and] <;> rfl
theorem el_38 {f : Int32 → Prop} : ab_len X 38 f = f 7 := rfl
theorem ea_38 {f : Value → Prop} : ab_ia X M 38 x f = ((0 ≤ x ∧ x < 7) ∧ f (.int (M.1 38 x.toNatClampNeg))) := by simp only [ab_ia, show ab_al 38 = some (.int, 7) from rfl, true_and] <;> rfl
theorem es_38 {f : ab_M → Prop} : ab_is M 38 x y f = ((0 ≤ x ∧ x < 7) ∧ f (ab_si M 38 x.toNatClampNeg y)) := by simp only [ab_is, show ab_al 38 = some (.int, 7) from rfl, true_and] <;> rfl
theorem el_39 {f : Int32 → Prop} : ab_len X 39 f = f 7 := rfl
theorem ea_39 {f : Value → Prop} : ab_ia X M 39 x f = ((0 ≤ x ∧ x < 7) ∧ f (.int (M.1 39 x.toNatClampNeg))) := by simp only [ab_ia, show ab_al 39 = some (.int, 7) from rfl, true_and] <;> rfl
theorem es_39 {f : ab_M → Prop} : ab_is M 39 x y f = ((0 ≤ x ∧ x < 7) ∧ f (ab_si M 39 x.toNatClampNeg y)) := by simp only [ab_is, show ab_al 39 = some (.int, 7) from rfl, true_and] <;> rfl
theorem el_40 {f : Int32 → Prop} : ab_len X 40 f = f 7 := rfl
theorem ea_40 {f : Value → Prop} : ab_ia X M 40 x f = ((0 ≤ x ∧ x < 7) ∧ f (.int (M.1 40 x.toNatClampNeg))) := by simp only [ab_ia, show ab_al 40 = some (.int, 7) from rfl, true_and] <;> rfl
theorem es_40 {f : ab_M → Prop} : ab_is M 40 x y f = ((0 ≤ x ∧ x < 7) ∧ f (ab_si M 40 x.toNatClampNeg y)) := by simp only [ab_is, show ab_al 40 = some (.int, 7) from rfl, true_and] <;> rfl
theorem el_41 {f : Int32 → Prop} : ab_len X 41 f = f 98 := rfl
theorem ea_41 {f : Value → Prop} : ab_ia X M 41 x f = ((0 ≤ x ∧ x < 98) ∧ f (.int (M.1 41 x.toNatClampNeg))) := by simp only [ab_ia, show ab_al 41 = some (.int, 98) from rfl, true_and] <;> rfl
theorem es_41 {f : ab_M → Prop} : ab_is M 41 x y f = ((0 ≤ x ∧ x < 98) ∧ f (ab_si M 41 x.toNatClampNeg y)) := by simp only [ab_is, show ab_al 41 = some (.int, 98) from rfl, true_and] <;> rfl
theorem el_42 {f : Int32 → Prop} : ab_len X 42 f = f 14 := rfl
theorem ea_42 {f : Value → Prop} : ab_ia X M 42 x f = ((0 ≤ x ∧ x < 14) ∧ f (.int (M.1 42 x.toNatClampNeg))) := by simp only [ab_ia, show ab_al 42 = some (.int, 14) from rfl, true_and] <;> rfl
theorem es_42 {f : ab_M → Prop} : ab_is M 42 x y f = ((0 ≤ x ∧ x < 14) ∧ f (ab_si M 42 x.toNatClampNeg y)) := by simp only [ab_is, show ab_al 42 = some (.int, 14) from rfl, true_and] <;> rfl
theorem el_43 {f : Int32 → Prop} : ab_len X 43 f = f 2 := rfl
theorem ea_43 {f : Value → Prop} : ab_za M 43 x f = ((0 ≤ x ∧ x < 2) ∧ f (.int (M.1 43 x.toNatClampNeg))) := by simp only [ab_za, show ab_al 43 = some (.boolean, 2) from rfl, true_and] <;> rfl
theorem es_43 {f : ab_M → Prop} : ab_zs M 43 x y f = ((0 ≤ x ∧ x < 2) ∧ f (ab_si M 43 x.toNatClampNeg (vp_nar .boolean y))) := by simp only [ab_zs, show ab_al 43 = some (.boolean, 2) from rfl, true_and] <;> rfl
theorem el_44 {f : Int32 → Prop} : ab_len X 44 f = f 6 := rfl
theorem ea_44 {f : Value → Prop} : ab_ia X M 44 x f = ((0 ≤ x ∧ x < 6) ∧ f (.int (M.1 44 x.toNatClampNeg))) := by simp only [ab_ia, show ab_al 44 = some (.int, 6) from rfl, true_and] <;> rfl
theorem es_44 {f : ab_M → Prop} : ab_is M 44 x y f = ((0 ≤ x ∧ x < 6) ∧ f (ab_si M 44 x.toNatClampNeg y)) := by simp only [ab_is, show ab_al 44 = some (.int, 6) from rfl, true_and] <;> rfl
theorem el_45 {f : Int32 → Prop} : ab_len X 45 f = f 6 := rfl
theorem ea_45 {f : Value → Prop} : ab_ia X M 45 x f = ((0 ≤ x ∧ x < 6) ∧ f (.int (M.1 45 x.toNatClampNeg))) := by simp only [ab_ia, show ab_al 45 = some (.int, 6) from rfl, true_and] <;> rfl
theorem es_45 {f : ab_M → Prop} : ab_is M 45 x y f = ((0 ≤ x ∧ x < 6) ∧ f (ab_si M 45 x.toNatClampNeg y)) := by simp only [ab_is, show ab_al 45 = some (.int, 6) from rfl, true_and] <;> rfl
theorem el_46 {f : Int32 → Prop} : ab_len X 46 f = f 6 := rfl
theorem ea_46 {f : Value → Prop} : ab_ia X M 46 x f = ((0 ≤ x ∧ x < 6) ∧ f (.int (M.1 46 x.toNatClampNeg))) := by simp only [ab_ia, show ab_al 46 = some (.int, 6) from rfl, true_and] <;> rfl
theorem es_46 {f : ab_M → Prop} : ab_is M 46 x y f = ((0 ≤ x ∧ x < 6) ∧ f (ab_si M 46 x.toNatClampNeg y)) := by simp only [ab_is, show ab_al 46 = some (.int, 6) from rfl, true_and] <;> rfl
theorem el_47 {f : Int32 → Prop} : ab_len X 47 f = f 8 := rfl
theorem ea_47 {f : Value → Prop} : ab_ia X M 47 x f = ((0 ≤ x ∧ x < 8) ∧ f (.int (M.1 47 x.toNatClampNeg))) := by simp only [ab_ia, show ab_al 47 = some (.int, 8) from rfl, true_and] <;> rfl
theorem es_47 {f : ab_M → Prop} : ab_is M 47 x y f = ((0 ≤ x ∧ x < 8) ∧ f (ab_si M 47 x.toNatClampNeg y)) := by simp only [ab_is, show ab_al 47 = some (.int, 8) from rfl, true_and] <;> rfl
theorem el_48 {f : Int32 → Prop} : ab_len X 48 f = f 32 := rfl
theorem ea_48 {f : Value → Prop} : ab_ia X M 48 x f = ((0 ≤ x ∧ x < 32) ∧ f (.int (M.1 48 x.toNatClampNeg))) := by simp only [ab_ia, show ab_al 48 = some (.int, 32) from rfl, true_and] <;> rfl
theorem es_48 {f : ab_M → Prop} : ab_is M 48 x y f = ((0 ≤ x ∧ x < 32) ∧ f (ab_si M 48 x.toNatClampNeg y)) := by simp only [ab_is, show ab_al 48 = some (.int, 32) from rfl, true_and] <;> rfl
def tb_100 (k : Nat) : Int32 := Int32.ofInt ([2, 1, 3, 2].getD k 0)
def tb_101 (k : Nat) : Int32 := Int32.ofInt ([1, 1, 2, 6, 24, 120].getD k 0)
def tb_102 (k : Nat) : Int64 := Int64.ofInt ([1000, 1000000, 1000000000, 1000000000000].getD k 0)
def tb_103 (k : Nat) : Int32 := Int32.ofInt ([1, 0].getD k 0)
def tb_104 (k : Nat) : Int32 := Int32.ofInt ([9, 3].getD k 0)
def tb_105 (k : Nat) : Int32 := Int32.ofInt ([1, 0, 0].getD k 0)
def tb_106 (k : Nat) : Int32 := Int32.ofInt ([9, 3, 9].getD k 0)
theorem si_1 {a b : Nat} : (ab_si M q r x).1 a b = if a = q ∧ b = r then x else M.1 a b := rfl
theorem si_2 : (ab_si M q r x).2 = M.2 := rfl
theorem sl_2 {a b : Nat} : (ab_sl M q r u).2 a b = if a = q ∧ b = r then u else M.2 a b := rfl
theorem sl_1 : (ab_sl M q r u).1 = M.1 := rfl
variable {a : Option FieldType} {b : List (Nat × Nat × Nat)} {c : List (Nat × Nat × ab_Sem)} {d : List (Nat × Int64)} {g : List (Nat × Nat)}
theorem el_100 {f : Int32 → Prop} : ab_len (a, b, c, d, g, ab_ros) 100 f = f 4 := rfl
theorem ea_100 {f : Value → Prop} : ab_ia (a, b, c, d, g, ab_ros) M 100 x f = ((0 ≤ x ∧ x < 4) ∧ f (.int (tb_100 x.toNatClampNeg))) := by simp only [ab_ia, show ab_al 100 = none from rfl, show ab_lk ab_ros 100 = some (.int, 4, ab_tab [2, 1, 3, 2]) from rfl, true_and] <;> rfl
theorem el_101 {f : Int32 → Prop} : ab_len (a, b, c, d, g, ab_ros) 101 f = f 6 := rfl
theorem ea_101 {f : Value → Prop} : ab_ia (a, b, c, d, g, ab_ros) M 101 x f = ((0 ≤ x ∧ x < 6) ∧ f (.int (tb_101 x.toNatClampNeg))) := by simp only [ab_ia, show ab_al 101 = none from rfl, show ab_lk ab_ros 101 = some (.int, 6, ab_tab [1, 1, 2, 6, 24, 120]) from rfl, true_and] <;> rfl
theorem el_102 {f : Int32 → Prop} : ab_len (a, b, c, d, g, ab_ros) 102 f = f 4 := rfl
theorem ea_102 {f : Value → Prop} : ab_la (a, b, c, d, g, ab_ros) M 102 x f = ((0 ≤ x ∧ x < 4) ∧ f (.long (tb_102 x.toNatClampNeg))) := by simp only [ab_la, show ab_al 102 = none from rfl, show ab_lk ab_ros 102 = some (.long, 4, ab_tabL [1000, 1000000, 1000000000, 1000000000000]) from rfl, true_and] <;> rfl
theorem el_103 {f : Int32 → Prop} : ab_len (a, b, c, d, g, ab_ros) 103 f = f 2 := rfl
theorem ea_103 {f : Value → Prop} : ab_ia (a, b, c, d, g, ab_ros) M 103 x f = ((0 ≤ x ∧ x < 2) ∧ f (.int (tb_103 x.toNatClampNeg))) := by simp only [ab_ia, show ab_al 103 = none from rfl, show ab_lk ab_ros 103 = some (.int, 2, ab_tab [1, 0]) from rfl, true_and] <;> rfl
theorem el_104 {f : Int32 → Prop} : ab_len (a, b, c, d, g, ab_ros) 104 f = f 2 := rfl
theorem ea_104 {f : Value → Prop} : ab_ia (a, b, c, d, g, ab_ros) M 104 x f = ((0 ≤ x ∧ x < 2) ∧ f (.int (tb_104 x.toNatClampNeg))) := by simp only [ab_ia, show ab_al 104 = none from rfl, show ab_lk ab_ros 104 = some (.int, 2, ab_tab [9, 3]) from rfl, true_and] <;> rfl
theorem el_105 {f : Int32 → Prop} : ab_len (a, b, c, d, g, ab_ros) 105 f = f 3 := rfl
theorem ea_105 {f : Value → Prop} : ab_ia (a, b, c, d, g, ab_ros) M 105 x f = ((0 ≤ x ∧ x < 3) ∧ f (.int (tb_105 x.toNatClampNeg))) := by simp only [ab_ia, show ab_al 105 = none from rfl, show ab_lk ab_ros 105 = some (.int, 3, ab_tab [1, 0, 0]) from rfl, true_and] <;> rfl
theorem el_106 {f : Int32 → Prop} : ab_len (a, b, c, d, g, ab_ros) 106 f = f 3 := rfl
theorem ea_106 {f : Value → Prop} : ab_ia (a, b, c, d, g, ab_ros) M 106 x f = ((0 ≤ x ∧ x < 3) ∧ f (.int (tb_106 x.toNatClampNeg))) := by simp only [ab_ia, show ab_al 106 = none from rfl, show ab_lk ab_ros 106 = some (.int, 3, ab_tab [9, 3, 9]) from rfl, true_and] <;> rfl
end ABE
