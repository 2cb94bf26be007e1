/-! CONTRACTS AND CALLS -/
/-- the words that a method's contract rests on -/
def ab_tw : List Cond := ab_tb.filter goodWord
theorem ab_tblgood : GoodIn ab_tb ab_tw := fun w hw => ⟨(List.mem_filter.mp hw).1, good_of_word (List.mem_filter.mp hw).2⟩
theorem ab_good_code {y : MethodName} {b : ByteArray} {n : Nat} {r : Option FieldType} (h : Cond.code y b n r ∈ ab_tb) : GoodIn ab_tb (.code y b n r :: ab_tw) := fun x hx => (List.mem_cons.mp hx).elim (fun e => by rw [e]; exact ab_tblgood _ (List.mem_filter.mpr ⟨h, rfl⟩)) (ab_tblgood x)
theorem ab_isN_on {w : Cond} (h : ab_isN w = true) : w.onTables = true := by
  cases w <;> first | rfl | cases h
theorem ab_Nx_of {args : Array Value} {s : State} (hts : ∀ w ∈ ab_tb, w.before args s = true) : ab_Nx s := fun w hw hn => va_Nw.of (ab_isN_on hn) (hts w hw)
theorem ab_Nx_same {u U : State} (h : u.vm = U.vm) (hN : ab_Nx u) : ab_Nx U := fun w hw hn => va_Nw.same (ab_isN_on hn) h (hN w hw hn)
theorem ab_Nx_warm {s U : State} (hW : s.WarmedH U.vm) (hN : ab_Nx s) : ab_Nx U := by
  intro w hw hn
  have h := hN w hw hn
  cases w <;> first | exact va_Nw.warmF hW h | exact va_Nw.warmM hW h | cases hn
def ab_Qc (Po : ab_P) (D : va_G) (ad : Nat → Nat) (cA : Nat → ClassId) (A : Nat → Prop) : Array Value → State → Outcome → State → Prop := fun _ st oc t => (∃ (r : Option Value) (M' : ab_M), oc = .returned (r.map (ab_cv ad)) ∧ Po r M' ∧ va_P D vwCl (ab_wl ad cA M') t.heap) ∧ va_F A st t
def ab_rm (fr lo : Nat) : Room := { frames := fr, cells := 0, slots := 0, locals := lo }
/-- a method's contract: what it does is f -/
def ab_ctr (l : Launch) (y : MethodName) (bytes : ByteArray) (maxL : Nat) (ret : Option FieldType) (fr lo : Nat) (f : ab_Sem) : Prop := ∀ (D : va_G) (ad : Nat → Nat) (cA : Nat → ClassId) (A : Nat → Prop) (as : List Value) (M : ab_M) (Po : ab_P), f as M Po → Met l y (.code y bytes maxL ret :: ab_tw) (ab_rm fr lo) (va_Pc (as.map (ab_cv ad)) (ab_Wd D ad cA A M)) (ab_Qc Po D ad cA A) 0 0 A
/-- a call is done, in every frame of the class 'own' with that much room -/
def ab_cok (l : Launch) (own : String) (fr lo key n : Nat) (f : ab_Sem) : Prop := ∀ (p : Program) (e : Env) (R : Room) (s : State) (m : MethodId) (args : Array Value) (below : List Frame) (meth : Method) (c : Code) (cells slots : Nat) (Q : State → Prop) (cc : ByteArray) (D : va_G) (ad : Nat → Nat) (cA : Nat → ClassId) (A : Nat → Prop) (nL : Nat), ab_C p s m args c cc own D ad cA A nL → fr ≤ R.frames → lo ≤ R.locals → cells ≤ R.cells → slots ≤ R.slots → ab_co cc key n f (ab_G p l e R s m args below meth c cells slots Q D ad cA A nL)
section ABC
variable {p : Program} {l : Launch} {e : Env} {R : Room} {s : State} {m : MethodId} {args : Array Value} {below : List Frame} {meth : Method} {c : Code} {cells slots : Nat} {Q : State → Prop} {cc : ByteArray} {own : String} {D : va_G} {ad : Nat → Nat} {cA : Nat → ClassId} {A : Nat → Prop} {nL : Nat} {X : ab_X} {Post : ab_P} {H : Heap} {locs : List Loc} {pc : Nat} {ls : Array Slot} {st0 rest : List Value} {a : Array Value}
theorem ab_callR {Po : ab_P} (hr : va_Run p l e R s m args below meth c H locs cells slots 0 0 (F0 m pc ls st0) rest (ab_Qc Po D ad cA A a) A) (hS : va_S A s.heap H locs)
    (kk : ∀ (r : Option Value) (M' : ab_M) (H1 : Heap) (locs1 : List Loc), Po r M' → va_P D vwCl (ab_wl ad cA M') H1 → va_S A s.heap H1 locs1 → W p l e R s m args below meth c H1 locs1 cells slots Q (F0 m (pc + 3) ls ((r.map (ab_cv ad)).toList ++ rest))) : W p l e R s m args below meth c H locs cells slots Q (F0 m pc ls st0) := by
  intro T hT X
  obtain ⟨v, st₀, t, T', L, h0, X', hL, e1, e2, ⟨⟨r, M', hv, hp, hb⟩, hz, hk⟩, st⟩ := hr T hT X
  cases hv
  rw [h0] at hz hk
  obtain ⟨t2, a1, b1⟩ := kk r M' T'.heap (locs ++ L) hp (by rw [e1]; exact hb)
    ⟨Nat.le_trans hS.1 (by rw [e1]; exact hz), fun q h1 h2 => by rw [e1, hk q (Nat.lt_of_lt_of_le h1 hS.1) h2]; exact hS.2.1 q h1 h2, fun q hq => by
      rcases List.mem_append.mp hq with h | h
      · exact hS.2.2 q h
      · exact hL q h⟩ T' rfl X'
  exact ⟨t2, st t2 a1, b1⟩
theorem ab_blind {av : List Value} {M : ab_M} : FrameBlind (va_Pc av (ab_Wd D ad cA A M)) := by
  intro a U g mk h
  exact ⟨h.1, h.2.1, ab_W0.moved (u := U) (U := U.calling g mk a) (Vm.Alike.refl U.vm) (fun _ _ _ => rfl) h.2.2.1, ab_Nx_same (u := U) (U := U.calling g mk a) rfl h.2.2.2⟩
theorem ab_preU {av : List Value} {M : ab_M} (hw : ab_W0 D ad cA A s) (hts : ∀ w ∈ ab_tb, w.before args s = true) (hP : va_P D vwCl (ab_wl ad cA M) H) (hS : va_S A s.heap H locs) : ∀ U : State, U.heap = H → s.WarmedH U.vm → va_Pc av (ab_Wd D ad cA A M) av.toArray U := by
  intro U hU hW
  refine ⟨rfl, by rw [hU]; exact hP, ab_W0.moved hW.alike (fun a h1 h2 => ?_) hw, ab_Nx_warm hW (ab_Nx_of hts)⟩
  rw [hU]
  exact hS.2.1 a h1 h2
theorem ab_cat_le (rest : List Value) (h : rest.length ≤ 4) : ((rest.map (ab_cv ad)).map fun v => v.category).sum ≤ 8 := by
  have key : ∀ l : List Value, ((l.map (ab_cv ad)).map fun v => v.category).sum ≤ 2 * l.length := by
    intro l
    induction l with
    | nil => simp
    | cons v t ih =>
      have hv : (ab_cv ad v).category ≤ 2 := by
        rw [ab_cv_cat]
        cases v <;> simp [Value.category]
      simp only [List.map_cons, List.sum_cons, List.length_cons]
      omega
  have := key rest
  omega
end ABC
/-- invokevirtual of a method of ours -/
theorem ab_cV {l : Launch} {own : String} {fr lo : Nat} {y : MethodName} {bytes : ByteArray} {maxL : Nat} {ret : Option FieldType} {fr' lo' n : Nat} {f : ab_Sem} (idx : Nat) (hM : ab_ctr l y bytes maxL ret fr' lo' f) (hlink : Cond.methodLink own idx y ∈ ab_tb) (hinst : Cond.instanceMethod y ∈ ab_tb) (hsel : Cond.selects y.cls y y ∈ ab_tb) (hini : Cond.initialized y.cls ∈ ab_tb) (hcode : Cond.code y bytes maxL ret ∈ ab_tb)
    (hd : y.cls ≠ "java/lang/invoke/MethodHandle" ∧ y.cls ≠ "java/lang/invoke/VarHandle" ∧ (parseMethodDescriptor y.desc).map (fun d => d.parameters.length) = some n) (hR : fr' + 1 ≤ fr ∧ 8 + (maxL + 11) + lo' ≤ lo)
    (hrec : ∀ (as : List Value) (M : ab_M) (Po : ab_P), f as M Po → ∃ (q : Nat) (as' : List Value) (ci : Nat) (T : u_T) (N : Nat) (fs : List ab_F), as = .ref q :: as' ∧ ab_sh[q]? = some (.inl (ci, fs)) ∧ vwCl[ci]? = some (y.cls, T, N)) : ab_cok l own fr lo (2 * idx) (n + 1) f := by
  intro p e R s m args below meth c cells slots Q cc D ad cA A nL hC hfr hlo hce hsl pc lv as rest M Po hdec hlen hrest hf hk H locs ls hP hS hl
  obtain ⟨hx, hb, hml, hown, hts, hw0⟩ := hC
  have hd1 : decode cc pc = .ok (.invokevirtual idx, 3) := by
    rcases hdec with ⟨j, hj, h⟩ | ⟨j, hj, h⟩
    · have : idx = j := by omega
      subst this; exact h
    · omega
  obtain ⟨q, as', ci, T, N, fs, rfl, hsh, hcl⟩ := hrec as M Po hf
  have hn : as'.length = n := by simpa using hlen
  have cw : CallW R s args own y.cls idx y bytes maxL ret (.code y bytes maxL ret :: ab_tw) (ab_rm fr' lo') 0 0 n := ⟨callB_of n hts (ab_good_code hcode) rfl rfl rfl (hts _ hini) (hts _ hlink) hd ⟨Nat.le_trans hR.1 hfr, Nat.le_trans hR.2 hlo⟩, hts _ hinst, hts _ hsel⟩
  have he : (ab_wl ad cA M)[q]? = some (ad q, .inr (ci, fs.mapIdx (fun k f => ab_fv ad M q k f))) := by
    rw [ab_wl_get, hsh]
    rfl
  have hpre : PreV s H y.cls (ad q) (va_Pc ((Value.ref q :: as').map (ab_cv ad)) (ab_Wd D ad cA A M)) (as'.map (ab_cv ad)) := ⟨ab_blind, va_recv hw0.1 hP hcl he, ab_preU hw0 hts hP hS⟩
  refine ab_callR (va_runV (As := as'.map (ab_cv ad)) (rest := rest.map (ab_cv ad)) ⟨hx, hb, hml, hown, hts⟩ (hM D ad cA A _ M Po hf) cw hpre rfl (by simpa using hn) hl.1 ?_ (lv_room (ab_cat_le rest hrest)) hd1 ⟨hce, hsl⟩) hS ?_
  · show (((Value.ref q :: as').reverse ++ rest).map (ab_cv ad)) = _
    simp [ab_cv]
  · intro r M' H1 locs1 hr hP1 hS1
    have := hk r M' hr H1 locs1 ls hP1 hS1 hl
    cases r <;> simpa using this
/-- invokestatic of a method of ours -/
theorem ab_cS {l : Launch} {own : String} {fr lo : Nat} {y : MethodName} {bytes : ByteArray} {maxL : Nat} {ret : Option FieldType} {fr' lo' n : Nat} {f : ab_Sem} (idx : Nat) (hM : ab_ctr l y bytes maxL ret fr' lo' f) (hlink : Cond.methodLink own idx y ∈ ab_tb) (hstat : Cond.static y ∈ ab_tb) (hini : Cond.initialized y.cls ∈ ab_tb) (hcode : Cond.code y bytes maxL ret ∈ ab_tb)
    (hd : y.cls ≠ "java/lang/invoke/MethodHandle" ∧ y.cls ≠ "java/lang/invoke/VarHandle" ∧ (parseMethodDescriptor y.desc).map (fun d => d.parameters.length) = some n) (hR : fr' + 1 ≤ fr ∧ 8 + (maxL + 11) + lo' ≤ lo) : ab_cok l own fr lo (2 * idx + 1) n f := by
  intro p e R s m args below meth c cells slots Q cc D ad cA A nL hC hfr hlo hce hsl pc lv as rest M Po hdec hlen hrest hf hk H locs ls hP hS hl
  obtain ⟨hx, hb, hml, hown, hts, hw0⟩ := hC
  have hd1 : decode cc pc = .ok (.invokestatic idx, 3) := by
    rcases hdec with ⟨j, hj, h⟩ | ⟨j, hj, h⟩
    · omega
    · have : idx = j := by omega
      subst this; exact h
  have cw : CallB R s args own idx y bytes maxL ret (.code y bytes maxL ret :: ab_tw) (ab_rm fr' lo') 0 0 n ∧ (Cond.static y).before args s = true := ⟨callB_of n hts (ab_good_code hcode) rfl rfl rfl (hts _ hini) (hts _ hlink) hd ⟨Nat.le_trans hR.1 hfr, Nat.le_trans hR.2 hlo⟩, hts _ hstat⟩
  refine ab_callR (va_runS (As := as.map (ab_cv ad)) (rest := rest.map (ab_cv ad)) ⟨hx, hb, hml, hown, hts⟩ (hM D ad cA A _ M Po hf) cw ⟨ab_blind, ab_preU hw0 hts hP hS⟩ rfl (by simpa using hlen) hl.1 ?_ (lv_room (ab_cat_le rest hrest)) hd1 ⟨hce, hsl⟩) hS ?_
  · show ((as.reverse ++ rest).map (ab_cv ad)) = _
    simp
  · intro r M' H1 locs1 hr hP1 hS1
    have := hk r M' hr H1 locs1 ls hP1 hS1 hl
    cases r <;> simpa using this
/-- invokestatic of a private method of a nest mate -/
theorem ab_cN {l : Launch} {own host : String} {fr lo : Nat} {y : MethodName} {bytes : ByteArray} {maxL : Nat} {ret : Option FieldType} {fr' lo' n : Nat} {f : ab_Sem} (idx : Nat) (hM : ab_ctr l y bytes maxL ret fr' lo' f) (hlink : Cond.methodLinkNest own idx y host ∈ ab_tb) (hstat : Cond.static y ∈ ab_tb) (hini : Cond.initialized y.cls ∈ ab_tb) (hcode : Cond.code y bytes maxL ret ∈ ab_tb)
    (hd : y.cls ≠ "java/lang/invoke/MethodHandle" ∧ y.cls ≠ "java/lang/invoke/VarHandle" ∧ (parseMethodDescriptor y.desc).map (fun d => d.parameters.length) = some n) (hR : fr' + 1 ≤ fr ∧ 8 + (maxL + 11) + lo' ≤ lo) : ab_cok l own fr lo (2 * idx + 1) n f := by
  intro p e R s m args below meth c cells slots Q cc D ad cA A nL hC hfr hlo hce hsl pc lv as rest M Po hdec hlen hrest hf hk H locs ls hP hS hl
  obtain ⟨hx, hb, hml, hown, hts, hw0⟩ := hC
  have hd1 : decode cc pc = .ok (.invokestatic idx, 3) := by
    rcases hdec with ⟨j, hj, h⟩ | ⟨j, hj, h⟩
    · omega
    · have : idx = j := by omega
      subst this; exact h
  have cw : va_CN R s args own idx y host bytes maxL ret (.code y bytes maxL ret :: ab_tw) (ab_rm fr' lo') 0 0 n ∧ (Cond.static y).before args s = true ∧ True := by
    have hc : Cond.code y bytes maxL ret ∈ (.code y bytes maxL ret :: ab_tw : List Cond) := List.mem_cons_self
    refine ⟨⟨⟨rfl, rfl, Nat.le_trans hR.1 hfr, Nat.le_trans hR.2 hlo, pay_in hts (ab_good_code hcode), hc⟩, hts _ hcode, hts _ hini, ⟨hd.1, hd.2.1⟩, fun sig h => ?_, hts _ hlink⟩, hts _ hstat, trivial⟩
    have h2 := hd.2.2
    rw [h] at h2
    exact (Option.some.inj h2).symm
  refine ab_callR (va_runSN (As := as.map (ab_cv ad)) (rest := rest.map (ab_cv ad)) ⟨hx, hb, hml, hown, hts⟩ (hM D ad cA A _ M Po hf) cw ⟨ab_blind, ab_preU hw0 hts hP hS⟩ rfl (by simpa using hlen) hl.1 ?_ (lv_room (ab_cat_le rest hrest)) hd1 ⟨hce, hsl⟩) hS ?_
  · show ((as.reverse ++ rest).map (ab_cv ad)) = _
    simp
  · intro r M' H1 locs1 hr hP1 hS1
    have := hk r M' hr H1 locs1 ls hP1 hS1 hl
    cases r <;> simpa using this
/-- the locals with which a method begins -/
def ab_e0 : List Value → ab_L
  | [] => []
  | .long x :: t => some (.long x) :: none :: ab_e0 t
  | .double x :: t => some (.double x) :: none :: ab_e0 t
  | v :: t => some v :: ab_e0 t
def ab_en (maxL : Nat) (as : List Value) : ab_L := ab_e0 as ++ List.replicate (maxL - (ab_e0 as).length) none
theorem ab_e0_len (ad : Nat → Nat) : ∀ as : List Value, (lg_sl (as.map (ab_cv ad))).length = (ab_e0 as).length
  | [] => rfl
  | v :: t => by
    have ih := ab_e0_len ad t
    have h1 : lg_sl ((v :: t).map (ab_cv ad)) = (if (ab_cv ad v).category = 2 then [Slot.val (ab_cv ad v), .second] else [.val (ab_cv ad v)]) ++ lg_sl (t.map (ab_cv ad)) := by simp [lg_sl]
    rw [h1, List.length_append, ih]
    cases v <;> simp [ab_e0, ab_cv, Value.category] <;> omega
theorem ab_e0_mem (ad : Nat → Nat) : ∀ (as : List Value) (b i : Nat) (v : Value), (ab_e0 as)[i]? = some (some v) → (b + i, ab_cv ad v) ∈ lv_args b (as.map (ab_cv ad))
  | [], b, i, v, h => by simp [ab_e0] at h
  | w :: t, b, i, v, h => by
    rw [List.map_cons, lv_args, List.mem_cons]
    by_cases hc : w.category = 2
    · have he : ab_e0 (w :: t) = some w :: none :: ab_e0 t := by cases w <;> first | rfl | simp [Value.category] at hc
      rw [he] at h
      match i, h with
      | 0, h => left; simp at h; subst h; rfl
      | 1, h => simp at h
      | i + 2, h =>
        right
        have := ab_e0_mem ad t (b + 2) i v (by simpa using h)
        rw [ab_cv_cat, if_pos hc]
        have e : b + (i + 2) = b + 2 + i := by omega
        rw [e]
        exact this
    · have he : ab_e0 (w :: t) = some w :: ab_e0 t := by cases w <;> first | rfl | simp [Value.category] at hc
      rw [he] at h
      match i, h with
      | 0, h => left; simp at h; subst h; rfl
      | i + 1, h =>
        right
        have := ab_e0_mem ad t (b + 1) i v (by simpa using h)
        rw [ab_cv_cat, if_neg hc]
        have e : b + (i + 1) = b + 1 + i := by omega
        rw [e]
        exact this
def ab_ros : ab_R := [(100, .int, 4, ab_tab [2, 1, 3, 2]), (101, .int, 6, ab_tab [1, 1, 2, 6, 24, 120]), (102, .long, 4, ab_tabL [1000, 1000000, 1000000000, 1000000000000]), (103, .int, 2, ab_tab [1, 0]), (104, .int, 2, ab_tab [9, 3]), (105, .int, 3, ab_tab [1, 0, 0]), (106, .int, 3, ab_tab [9, 3, 9])]
theorem ab_ros_ok {q : Nat} {ty : FieldType} {n : Nat} {f : Nat → Value} (h : ab_lk ab_ros q = some (ty, n, f)) : (∃ t ∈ ab_sts, t.2.2.1 = q ∧ t.2.2.2.1 = ty ∧ t.2.2.2.2.1 = n ∧ t.2.2.2.2.2 = f) ∧ n < 2 ^ 31 ∧ ∀ ad j, ab_cv ad (f j) = f j := by
  simp only [ab_ros, ab_lk] at h
  repeat' split at h
  all_goals first | cases h | skip
  all_goals subst_vars
  all_goals refine ⟨?_, by decide, fun ad j => rfl⟩
  all_goals simp [ab_sts]
/-- a method's contract out of the small machine -/
theorem ab_met {l : Launch} {y : MethodName} {bytes : ByteArray} {maxL : Nat} {ret : Option FieldType} {fr lo : Nat} {f : ab_Sem} (X : ab_X) (hy : plainName y.cls = true) (hX : X.1 = ret) (hfl : ab_flok y.cls X.2.1) (hkl : ∀ idx v, ab_lk X.2.2.2.1 idx = some v → (idx < 100000 → Cond.constantLong y.cls idx v ∈ ab_tb) ∧ ∀ j, idx = j + 100000 → Cond.constant y.cls j v.toInt32 ∈ ab_tb)
    (hgs : ∀ idx r, ab_lk X.2.2.2.2.1 idx = some r → ∃ t ∈ ab_sts, t.2.2.1 = r ∧ (Cond.fieldLink y.cls idx "LameLead" t.1 t.2.1 ∈ ab_tb ∨ Cond.fieldLinkNest y.cls idx "LameLead" t.1 t.2.1 "LameLead" ∈ ab_tb))
    (hro : X.2.2.2.2.2 = ab_ros) (hcs : ∀ key n g, ab_lk X.2.2.1 key = some (n, g) → ab_cok l y.cls fr lo key n g)
    (hen : ∀ (as : List Value) (M : ab_M) (Po : ab_P), f as M Po → (ab_e0 as).length ≤ maxL)
    (hrun : ∀ (as : List Value) (M : ab_M) (Po : ab_P), f as M Po → ∀ G : ab_K, ab_Clo bytes X Po G → G 0 (ab_en maxL as) [] M) : ab_ctr l y bytes maxL ret fr lo f := by
  intro D ad cA A as M Po hf
  refine Met.ofW (cc := bytes) (maxL := maxL) (ret := ret) hy rfl ?_
  intro p e s m args below meth c s₁ B hml hv
  obtain ⟨rfl, hP, hw0, hNx⟩ := hv
  have hx := B.exec
  have hb := B.bytes
  have hr := B.returns
  have hts0 := atoms_spec (ws := .code y bytes maxL ret :: ab_tw) B.pre
  have hts : ∀ w ∈ ab_tb, w.before (as.map (ab_cv ad)).toArray s = true := by
    intro w hw
    have := (List.mem_filter.mp hw).2
    rcases Bool.or_eq_true_iff.mp this with hg | hg
    · exact hts0 w (List.mem_cons_of_mem _ (List.mem_filter.mpr ⟨hw, hg⟩))
    · exact va_Nw.use (ab_isN_on hg) (hNx w hw hg)
  have hown : s.vm.findClass y.cls = some m.cls := findClass_of_methodNamed B.named
  have hlocks := B.notSynchronized
  have hl := lv_entry (as.map (ab_cv ad)) (n := maxL) (by rw [ab_e0_len]; exact hen as M Po hf)
  rw [lg_entry_eq]
  generalize (lg_sl (as.map (ab_cv ad)) ++ List.replicate (maxL - (lg_sl (as.map (ab_cv ad))).length) Slot.unset).toArray = ls at hl ⊢
  have hlok : ab_lok ad maxL ls (ab_en maxL as) := by
    refine ⟨hl.1, hl.2.1, ?_, fun i v hi => ?_⟩
    · have := hen as M Po hf
      simp [ab_en]
      omega
    · have hi2 : (ab_e0 as)[i]? = some (some v) := by
        unfold ab_en at hi
        by_cases hlt : i < (ab_e0 as).length
        · rwa [List.getElem?_append_left hlt] at hi
        · rw [List.getElem?_append_right (by omega)] at hi
          have := List.eq_of_mem_replicate (List.mem_of_getElem? hi)
          cases this
      have := hl.2.2 _ (ab_e0_mem ad as 0 i v hi2)
      simpa using this
  have hC : ab_C p s m (as.map (ab_cv ad)).toArray c bytes y.cls D ad cA A maxL := ⟨hx, hb, hml, hown, hts, hw0⟩
  have hclo := ab_sound (l := l) (e := e) (R := ab_rm fr lo) (below := below) (meth := meth) (cells := 0) (slots := 0) (Q := MQ below (ab_Qc Po D ad cA A) (as.map (ab_cv ad)).toArray s 0 0 A) (X := X) (Post := Po) hC hfl hkl hgs
    (fun q ty n g hq => by
      rw [hro] at hq
      obtain ⟨⟨t, ht, rfl, rfl, rfl, rfl⟩, h2, h3⟩ := ab_ros_ok hq
      exact ⟨(hw0.2.2.2.2 t ht).2, h2, h3 ad⟩)
    (fun key n g hg => hcs key n g hg p e _ s m _ below meth c 0 0 _ bytes D ad cA A maxL hC (Nat.le_refl _) (Nat.le_refl _) (Nat.zero_le _) (Nat.zero_le _))
    (fun pc M2 H locs ls2 hP2 hS2 => by
      refine ⟨fun v hd hn hp => ?_, fun v hd hn hp => ?_, fun hd hn hp => ?_⟩
      · cases hrt : ret with
        | none => rw [hX, hrt] at hn; exact hn.elim
        | some ty =>
          refine W.zret (ty := ty) hx hb (by rw [hr, hrt]) ?_ (fun t ht hW => ⟨⟨some (.int v), M2, rfl, hp, by rw [ht]; exact hP2⟩, hS2.F ht⟩) hS2.2.2 hd
          rw [hX, hrt] at hn
          cases ty <;> first | exact hn.elim | rfl | (rcases hn with rfl | rfl <;> rfl)
      · exact W.lret hx hb (by rw [hr, ← hX, hn]) (fun t ht hW => ⟨⟨some (.long v), M2, rfl, hp, by rw [ht]; exact hP2⟩, hS2.F ht⟩) hS2.2.2 hd
      · exact W.vret hx hb (by rw [hr, ← hX, hn]) (fun t ht hW => ⟨⟨none, M2, rfl, hp, by rw [ht]; exact hP2⟩, hS2.F ht⟩) hS2.2.2 hd)
  exact hrun as M Po hf _ hclo s.heap [] ls hP va_S.rf hlok
