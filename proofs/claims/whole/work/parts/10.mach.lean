/-! THE SMALL MACHINE: places instead of addresses; memory = ints and longs by place and slot; everything that refers stays as it was made. -/
/-- memory: ints, longs, by place and slot -/
abbrev ab_M : Type := (Nat → Nat → Int32) × (Nat → Nat → Int64)
abbrev ab_L : Type := List (Option Value)
abbrev ab_K : Type := Nat → ab_L → List Value → ab_M → Prop
abbrev ab_P : Type := Option Value → ab_M → Prop
abbrev ab_Sem : Type := List Value → ab_M → ab_P → Prop
/-- a field: a reference to a place, or an int (false), a long (true) -/
abbrev ab_F : Type := Nat ⊕ Bool
/-- a place: an object (its class, its fields) or an array (type, length) -/
abbrev ab_S : Type := (Nat × List ab_F) ⊕ (FieldType × Nat)
def ab_si (M : ab_M) (q k : Nat) (x : Int32) : ab_M := (fun a b => if a = q ∧ b = k then x else M.1 a b, M.2)
def ab_sl (M : ab_M) (q k : Nat) (x : Int64) : ab_M := (M.1, fun a b => if a = q ∧ b = k then x else M.2 a b)
def ab_sh : List ab_S := [
  .inl (8, [.inl 1, .inl 3, .inl 8, .inl 12, .inl 14, .inl 16, .inl 20, .inl 25, .inl 29, .inr true]),
  .inl (5, [.inl 2, .inr false]),
  .inr (.int, 48),
  .inl (4, [.inl 4, .inl 5, .inl 6, .inl 7, .inr false, .inr false]),
  .inr (.int, 8), .inr (.int, 8), .inr (.int, 8), .inr (.int, 72),
  .inl (7, [.inl 9, .inl 10, .inl 11, .inr false]),
  .inr (.int, 5), .inr (.int, 5), .inr (.int, 5),
  .inl (2, [.inl 3, .inl 8, .inl 13, .inr false, .inr false, .inr false]),
  .inr (.int, 5),
  .inl (0, [.inl 15, .inr false]),
  .inr (.long, 14),
  .inl (3, [.inl 12, .inl 18, .inl 17]),
  .inr (.int, 4),
  .inl (2, [.inl 3, .inl 8, .inl 19, .inr false, .inr false, .inr false]),
  .inr (.int, 5),
  .inl (1, [.inl 12, .inl 23, .inl 21, .inl 22]),
  .inr (.int, 4), .inr (.int, 4),
  .inl (2, [.inl 3, .inl 8, .inl 24, .inr false, .inr false, .inr false]),
  .inr (.int, 5),
  .inl (6, [.inl 26, .inl 27, .inl 28, .inr false]),
  .inr (.int, 6), .inr (.int, 6), .inr (.boolean, 6),
  .inr (.long, 2),
  .inl (9, [.inr false, .inl 31, .inr false, .inr false, .inr false, .inl 32, .inl 33, .inr false, .inl 34, .inl 35, .inr false, .inr false, .inl 36, .inr false, .inl 37, .inl 38, .inl 39, .inl 40, .inl 41, .inr false, .inl 42, .inl 43, .inr false, .inl 44, .inl 45, .inl 46, .inr true, .inr false, .inr false, .inr false, .inr false, .inr false, .inr false, .inl 47, .inl 48, .inr false]),
  .inr (.int, 48), .inr (.int, 8), .inr (.int, 8), .inr (.int, 5), .inr (.int, 5), .inr (.int, 16), .inr (.int, 15), .inr (.int, 7), .inr (.int, 7), .inr (.int, 7), .inr (.int, 98), .inr (.int, 14), .inr (.boolean, 2), .inr (.int, 6), .inr (.int, 6), .inr (.int, 6), .inr (.int, 8), .inr (.int, 32)]
/-- a field read, by its place, the class that the link names, its slot -/
def ab_rf (q ci k : Nat) (M : ab_M) : Option Value := match ab_sh[q]? with
  | some (.inl (c, fs)) => if c = ci then (match fs[k]? with
    | some (.inl r) => some (.ref r)
    | some (.inr false) => some (.int (M.1 q k))
    | some (.inr true) => some (.long (M.2 q k))
    | none => none) else none
  | _ => none
/-- a field written -/
def ab_wf (q ci k : Nat) (v : Value) (M : ab_M) : Option ab_M := match ab_sh[q]? with
  | some (.inl (c, fs)) => if c = ci then (match fs[k]?, v with
    | some (.inr false), .int x => some (ab_si M q k x)
    | some (.inr true), .long x => some (ab_sl M q k x)
    | _, _ => none) else none
  | _ => none
def ab_al (q : Nat) : Option (FieldType × Nat) := match ab_sh[q]? with
  | some (.inr a) => some a
  | _ => none
def ab_lk {α : Type} : List (Nat × α) → Nat → Option α
  | [], _ => none
  | (i, x) :: t, j => if i = j then some x else ab_lk t j
/-- a local may be stored into: it is there, and isn't the second half of a long -/
def ab_nl : ab_L → Nat → Bool
  | [], _ => false
  | _ :: _, 0 => true
  | a :: t, 1 => (match a with | some (.long _) => false | some (.double _) => false | _ => true) && !t.isEmpty
  | _ :: t, i + 2 => ab_nl t (i + 1)
def ab_pp : Nat → List Value → List Value → (List Value → List Value → Prop) → Prop
  | 0, acc, st, k => k acc st
  | n + 1, acc, v :: st, k => ab_pp n (v :: acc) st k
  | _ + 1, _, [], _ => False
def ab_tsw (pc : Nat) (x : Int32) (kk : Nat → Prop) (d : Int) : Int → List Int → Prop
  | _, [] => 0 ≤ (pc : Int) + d ∧ kk ((pc : Int) + d).toNat
  | lo, o :: os => if x.toInt = lo then (0 ≤ (pc : Int) + o ∧ kk ((pc : Int) + o).toNat) else ab_tsw pc x kk d (lo + 1) os
/-- what the method answers: fits its type -/
def ab_rn : Option FieldType → Int32 → Prop
  | some .int, _ => True
  | some .boolean, v => v = 0 ∨ v = 1
  | _, _ => False
/-- tables that nobody writes: type, length, what they hold -/
abbrev ab_R : Type := List (Nat × FieldType × Nat × (Nat → Value))
/-- a method's surroundings: return type; field links (class, slot); calls (how many are popped, what it does); long constants; statics; tables -/
abbrev ab_X : Type := Option FieldType × List (Nat × Nat × Nat) × List (Nat × Nat × ab_Sem) × List (Nat × Int64) × List (Nat × Nat) × ab_R
def ab_j (pc : Nat) (off : Int) (k : Nat → Prop) : Prop := 0 ≤ (pc : Int) + off ∧ k ((pc : Int) + off).toNat
def ab_ia (X : ab_X) (M : ab_M) (q : Nat) (i : Int32) (k : Value → Prop) : Prop := match ab_al q with
  | some (ty, n) => ty = .int ∧ (0 ≤ i ∧ i < Int32.ofNat n) ∧ k (.int (M.1 q i.toNatClampNeg))
  | none => match ab_lk X.2.2.2.2.2 q with
    | some (ty, n, f) => ty = .int ∧ (0 ≤ i ∧ i < Int32.ofNat n) ∧ k (f i.toNatClampNeg)
    | none => False
def ab_la (X : ab_X) (M : ab_M) (q : Nat) (i : Int32) (k : Value → Prop) : Prop := match ab_al q with
  | some (ty, n) => ty = .long ∧ (0 ≤ i ∧ i < Int32.ofNat n) ∧ k (.long (M.2 q i.toNatClampNeg))
  | none => match ab_lk X.2.2.2.2.2 q with
    | some (ty, n, f) => ty = .long ∧ (0 ≤ i ∧ i < Int32.ofNat n) ∧ k (f i.toNatClampNeg)
    | none => False
def ab_za (M : ab_M) (q : Nat) (i : Int32) (k : Value → Prop) : Prop := match ab_al q with
  | some (ty, n) => ty = .boolean ∧ (0 ≤ i ∧ i < Int32.ofNat n) ∧ k (.int (M.1 q i.toNatClampNeg))
  | none => False
def ab_is (M : ab_M) (q : Nat) (i x : Int32) (k : ab_M → Prop) : Prop := match ab_al q with
  | some (ty, n) => ty = .int ∧ (0 ≤ i ∧ i < Int32.ofNat n) ∧ k (ab_si M q i.toNatClampNeg x)
  | none => False
def ab_zs (M : ab_M) (q : Nat) (i x : Int32) (k : ab_M → Prop) : Prop := match ab_al q with
  | some (ty, n) => ty = .boolean ∧ (0 ≤ i ∧ i < Int32.ofNat n) ∧ k (ab_si M q i.toNatClampNeg (vp_nar .boolean x))
  | none => False
def ab_ls (M : ab_M) (q : Nat) (i : Int32) (x : Int64) (k : ab_M → Prop) : Prop := match ab_al q with
  | some (ty, n) => ty = .long ∧ (0 ≤ i ∧ i < Int32.ofNat n) ∧ k (ab_sl M q i.toNatClampNeg x)
  | none => False
def ab_len (X : ab_X) (q : Nat) (k : Int32 → Prop) : Prop := match ab_al q with
  | some (_, n) => k (Int32.ofNat n)
  | none => match ab_lk X.2.2.2.2.2 q with
    | some (_, n, _) => k (Int32.ofNat n)
    | none => False
def ab_ca (X : ab_X) (idx : Nat) (st : List Value) (M : ab_M) (k : List Value → ab_M → Prop) : Prop := match ab_lk X.2.2.1 idx with
  | some (n, f) => ab_pp n [] st (fun as rest => rest.length ≤ 4 ∧ f as M (fun r M' => k (r.toList ++ rest) M'))
  | none => False
def ab_gf (X : ab_X) (idx q : Nat) (M : ab_M) (k : Value → Prop) : Prop := match ab_lk X.2.1 idx with
  | some (ci, sl) => (match ab_rf q ci sl M with | some v => k v | none => False)
  | none => False
def ab_pf (X : ab_X) (idx q : Nat) (v : Value) (M : ab_M) (k : ab_M → Prop) : Prop := match ab_lk X.2.1 idx with
  | some (ci, sl) => (match ab_wf q ci sl v M with | some M' => k M' | none => False)
  | none => False
/-- one step, backwards -/
def ab_st (X : ab_X) (Post : ab_P) (i : Instr) (pc : Nat) (lv : ab_L) (st : List Value) (M : ab_M) (k : ab_K) : Prop := match i with
  | .iconst n => k (pc + 1) lv (.int (Int32.ofInt n) :: st) M
  | .bipush n => k (pc + 2) lv (.int (Int8.ofInt n).toInt32 :: st) M
  | .sipush n => k (pc + 3) lv (.int (Int16.ofInt n).toInt32 :: st) M
  | .lconst n => k (pc + 1) lv (.long (Int64.ofNat (n : Nat)) :: st) M
  | .iload_n j => (match lv[(j : Nat)]? with | some (some (.int x)) => k (pc + 1) lv (.int x :: st) M | _ => False)
  | .iload j => (match lv[j]? with | some (some (.int x)) => k (pc + 2) lv (.int x :: st) M | _ => False)
  | .lload_n j => (match lv[(j : Nat)]? with | some (some (.long x)) => k (pc + 1) lv (.long x :: st) M | _ => False)
  | .lload j => (match lv[j]? with | some (some (.long x)) => k (pc + 2) lv (.long x :: st) M | _ => False)
  | .aload_n j => (match lv[(j : Nat)]? with | some (some (.ref x)) => k (pc + 1) lv (.ref x :: st) M | _ => False)
  | .istore_n j => (match st with | .int x :: st => ab_nl lv j = true ∧ k (pc + 1) (lv.set j (some (.int x))) st M | _ => False)
  | .istore j => (match st with | .int x :: st => ab_nl lv j = true ∧ k (pc + 2) (lv.set j (some (.int x))) st M | _ => False)
  | .lstore_n j => (match st with | .long x :: st => ab_nl lv j = true ∧ (j : Nat) + 1 < lv.length ∧ k (pc + 1) ((lv.set j (some (.long x))).set (j + 1) none) st M | _ => False)
  | .lstore j => (match st with | .long x :: st => ab_nl lv j = true ∧ (j : Nat) + 1 < lv.length ∧ k (pc + 2) ((lv.set j (some (.long x))).set (j + 1) none) st M | _ => False)
  | .astore_n j => (match st with | .ref x :: st => ab_nl lv j = true ∧ k (pc + 1) (lv.set j (some (.ref x))) st M | _ => False)
  | .iinc j n => (match lv[j]? with | some (some (.int x)) => k (pc + 3) (lv.set j (some (.int (x + Int32.ofInt n)))) st M | _ => False)
  | .iadd => (match st with | .int y :: .int x :: st => k (pc + 1) lv (.int (x + y) :: st) M | _ => False)
  | .isub => (match st with | .int y :: .int x :: st => k (pc + 1) lv (.int (x - y) :: st) M | _ => False)
  | .imul => (match st with | .int y :: .int x :: st => k (pc + 1) lv (.int (x * y) :: st) M | _ => False)
  | .idiv => (match st with | .int y :: .int x :: st => ¬ y = 0 ∧ k (pc + 1) lv (.int (x / y) :: st) M | _ => False)
  | .irem => (match st with | .int y :: .int x :: st => ¬ y = 0 ∧ k (pc + 1) lv (.int (x - x / y * y) :: st) M | _ => False)
  | .ineg => (match st with | .int x :: st => k (pc + 1) lv (.int (-x) :: st) M | _ => False)
  | .iand => (match st with | .int y :: .int x :: st => k (pc + 1) lv (.int (x &&& y) :: st) M | _ => False)
  | .ior => (match st with | .int y :: .int x :: st => k (pc + 1) lv (.int (x ||| y) :: st) M | _ => False)
  | .ixor => (match st with | .int y :: .int x :: st => k (pc + 1) lv (.int (x ^^^ y) :: st) M | _ => False)
  | .ishl => (match st with | .int y :: .int x :: st => k (pc + 1) lv (.int (x <<< (y &&& 31)) :: st) M | _ => False)
  | .ishr => (match st with | .int y :: .int x :: st => k (pc + 1) lv (.int (x >>> (y &&& 31)) :: st) M | _ => False)
  | .iushr => (match st with | .int y :: .int x :: st => k (pc + 1) lv (.int (x.toUInt32 >>> (y.toUInt32 &&& Int32.toUInt32 31)).toInt32 :: st) M | _ => False)
  | .ladd => (match st with | .long y :: .long x :: st => k (pc + 1) lv (.long (x + y) :: st) M | _ => False)
  | .lsub => (match st with | .long y :: .long x :: st => k (pc + 1) lv (.long (x - y) :: st) M | _ => False)
  | .lmul => (match st with | .long y :: .long x :: st => k (pc + 1) lv (.long (x * y) :: st) M | _ => False)
  | .ldiv => (match st with | .long y :: .long x :: st => ¬ y = 0 ∧ k (pc + 1) lv (.long (x / y) :: st) M | _ => False)
  | .lrem => (match st with | .long y :: .long x :: st => ¬ y = 0 ∧ k (pc + 1) lv (.long (x - x / y * y) :: st) M | _ => False)
  | .land => (match st with | .long y :: .long x :: st => k (pc + 1) lv (.long (x &&& y) :: st) M | _ => False)
  | .lor => (match st with | .long y :: .long x :: st => k (pc + 1) lv (.long (x ||| y) :: st) M | _ => False)
  | .lshl => (match st with | .int y :: .long x :: st => k (pc + 1) lv (.long (x <<< (y.toInt64 &&& 63)) :: st) M | _ => False)
  | .lushr => (match st with | .int y :: .long x :: st => k (pc + 1) lv (.long (x.toUInt64 >>> (y.toInt64.toUInt64 &&& Int64.toUInt64 63)).toInt64 :: st) M | _ => False)
  | .lcmp => (match st with | .long y :: .long x :: st => k (pc + 1) lv (.int (lg_cmp x y) :: st) M | _ => False)
  | .i2l => (match st with | .int x :: st => k (pc + 1) lv (.long x.toInt64 :: st) M | _ => False)
  | .l2i => (match st with | .long x :: st => k (pc + 1) lv (.int x.toInt32 :: st) M | _ => False)
  | .dup => (match st with | .int x :: st => k (pc + 1) lv (.int x :: .int x :: st) M | .ref x :: st => k (pc + 1) lv (.ref x :: .ref x :: st) M | _ => False)
  | .pop => (match st with | .int _ :: st => k (pc + 1) lv st M | _ => False)
  | .dup2 => (match st with | .int x :: .ref y :: st => k (pc + 1) lv (.int x :: .ref y :: .int x :: .ref y :: st) M | _ => False)
  | .goto off => ab_j pc off (fun t => k t lv st M)
  | .ifCond .eq off => (match st with | .int x :: st => 0 ≤ (pc : Int) + off ∧ if x = 0 then k ((pc : Int) + off).toNat lv st M else k (pc + 3) lv st M | _ => False)
  | .ifCond .ne off => (match st with | .int x :: st => 0 ≤ (pc : Int) + off ∧ if x = 0 then k (pc + 3) lv st M else k ((pc : Int) + off).toNat lv st M | _ => False)
  | .ifCond .lt off => (match st with | .int x :: st => 0 ≤ (pc : Int) + off ∧ if x < 0 then k ((pc : Int) + off).toNat lv st M else k (pc + 3) lv st M | _ => False)
  | .ifCond .ge off => (match st with | .int x :: st => 0 ≤ (pc : Int) + off ∧ if x < 0 then k (pc + 3) lv st M else k ((pc : Int) + off).toNat lv st M | _ => False)
  | .ifCond .gt off => (match st with | .int x :: st => 0 ≤ (pc : Int) + off ∧ if 0 < x then k ((pc : Int) + off).toNat lv st M else k (pc + 3) lv st M | _ => False)
  | .ifCond .le off => (match st with | .int x :: st => 0 ≤ (pc : Int) + off ∧ if 0 < x then k (pc + 3) lv st M else k ((pc : Int) + off).toNat lv st M | _ => False)
  | .if_icmp .eq off => (match st with | .int y :: .int x :: st => 0 ≤ (pc : Int) + off ∧ if x = y then k ((pc : Int) + off).toNat lv st M else k (pc + 3) lv st M | _ => False)
  | .if_icmp .ne off => (match st with | .int y :: .int x :: st => 0 ≤ (pc : Int) + off ∧ if x = y then k (pc + 3) lv st M else k ((pc : Int) + off).toNat lv st M | _ => False)
  | .if_icmp .lt off => (match st with | .int y :: .int x :: st => 0 ≤ (pc : Int) + off ∧ if x < y then k ((pc : Int) + off).toNat lv st M else k (pc + 3) lv st M | _ => False)
  | .if_icmp .ge off => (match st with | .int y :: .int x :: st => 0 ≤ (pc : Int) + off ∧ if x < y then k (pc + 3) lv st M else k ((pc : Int) + off).toNat lv st M | _ => False)
  | .if_icmp .gt off => (match st with | .int y :: .int x :: st => 0 ≤ (pc : Int) + off ∧ if y < x then k ((pc : Int) + off).toNat lv st M else k (pc + 3) lv st M | _ => False)
  | .if_icmp .le off => (match st with | .int y :: .int x :: st => 0 ≤ (pc : Int) + off ∧ if y < x then k (pc + 3) lv st M else k ((pc : Int) + off).toNat lv st M | _ => False)
  | .tableswitch d lo hi offs => (match st with | .int x :: st => (offs.size : Int) = hi - lo + 1 ∧ ab_tsw pc x (fun t => k t lv st M) d lo offs.toList | _ => False)
  | .iaload => (match st with | .int i :: .ref q :: st => ab_ia X M q i (fun v => k (pc + 1) lv (v :: st) M) | _ => False)
  | .laload => (match st with | .int i :: .ref q :: st => ab_la X M q i (fun v => k (pc + 1) lv (v :: st) M) | _ => False)
  | .baload => (match st with | .int i :: .ref q :: st => ab_za M q i (fun v => k (pc + 1) lv (v :: st) M) | _ => False)
  | .iastore => (match st with | .int x :: .int i :: .ref q :: st => ab_is M q i x (fun M => k (pc + 1) lv st M) | _ => False)
  | .bastore => (match st with | .int x :: .int i :: .ref q :: st => ab_zs M q i x (fun M => k (pc + 1) lv st M) | _ => False)
  | .lastore => (match st with | .long x :: .int i :: .ref q :: st => ab_ls M q i x (fun M => k (pc + 1) lv st M) | _ => False)
  | .arraylength => (match st with | .ref q :: st => ab_len X q (fun n => k (pc + 1) lv (.int n :: st) M) | _ => False)
  | .getfield idx => (match st with | .ref q :: st => ab_gf X idx q M (fun v => k (pc + 3) lv (v :: st) M) | _ => False)
  | .putfield idx => (match st with | v :: .ref q :: st => ab_pf X idx q v M (fun M => k (pc + 3) lv st M) | _ => False)
  | .getstatic idx => (match ab_lk X.2.2.2.2.1 idx with | some r => k (pc + 3) lv (.ref r :: st) M | none => False)
  | .ldc_w idx => (match ab_lk X.2.2.2.1 (idx + 100000) with | some v => k (pc + 3) lv (.int v.toInt32 :: st) M | none => False)
  | .ldc2_w idx => (match ab_lk X.2.2.2.1 idx with | some v => idx < 100000 ∧ k (pc + 3) lv (.long v :: st) M | none => False)
  | .invokevirtual idx => ab_ca X (2 * idx) st M (fun st M => k (pc + 3) lv st M)
  | .invokestatic idx => ab_ca X (2 * idx + 1) st M (fun st M => k (pc + 3) lv st M)
  | .ireturn => (match st with | [.int v] => ab_rn X.1 v ∧ Post (some (.int v)) M | _ => False)
  | .lreturn => (match st with | [.long v] => X.1 = some .long ∧ Post (some (.long v)) M | _ => False)
  | .return_ => (match st with | [] => X.1 = none ∧ Post none M | _ => False)
  | _ => False
/-- an instruction's length, as the kit's rows want it -/
def ab_lo (i : Instr) (len : Nat) : Prop := match i with
  | .bipush _ => len = 2
  | .ldc_w _ => len = 3
  | .iload _ => len = 2
  | .lload _ => len = 2
  | .istore _ => len = 2
  | .lstore _ => len = 2
  | .sipush _ => len = 3
  | .iinc _ _ => len = 3
  | .goto _ => len = 3
  | .ifCond _ _ => len = 3
  | .if_icmp _ _ => len = 3
  | .getfield _ => len = 3
  | .putfield _ => len = 3
  | .getstatic _ => len = 3
  | .ldc2_w _ => len = 3
  | .invokevirtual _ => len = 3
  | .invokestatic _ => len = 3
  | .tableswitch _ _ _ _ => True
  | _ => len = 1
def ab_ds (X : ab_X) (Post : ab_P) (d : Except DecodeError (Instr × Nat)) (pc : Nat) (lv : ab_L) (st : List Value) (M : ab_M) (k : ab_K) : Prop := match d with
  | .ok i => ab_lo i.1 i.2 ∧ ab_st X Post i.1 pc lv st M k
  | .error _ => False
/-- closed under a step backwards -/
def ab_Clo (cc : ByteArray) (X : ab_X) (Post : ab_P) (G : ab_K) : Prop := ∀ (pc : Nat) (lv : ab_L) (st : List Value) (M : ab_M) (k : ab_K), (∀ a b c d, k a b c d → G a b c d) → ab_ds X Post (decode cc pc) pc lv st M k → G pc lv st M
/-- n steps backwards, stopping at the places 'cut' -/
def ab_wp (cc : ByteArray) (X : ab_X) (Post : ab_P) (G : ab_K) (cut : List Nat) : Nat → ab_K
  | 0 => G
  | n + 1 => fun pc lv st M => if pc ∈ cut then G pc lv st M else ab_ds X Post (decode cc pc) pc lv st M (ab_wp cc X Post G cut n)
