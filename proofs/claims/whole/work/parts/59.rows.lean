/-! ROWS OF ROWS: 'multianewarray' of two dimensions, walked over the machine itself: the outer row comes first, behind it the inner ones, in their order -/
def mz_out (cA : ClassId) (N z i : Nat) : Cell := arrV cA N (fun j => if j < i then .ref (z + 1 + j) else .null)
def mz_in (cI : ClassId) (K : Nat) : Cell := arrV cI K (fun _ => .int 0)
/-- the state when i inner rows stand -/
def mz_st (S : State) (cA cI : ClassId) (N K i : Nat) : State := { S with heap := S.heap.push (mz_out cA N S.heap.size i) ++ Array.replicate i (mz_in cI K), slotsUsed := S.slotsUsed + N + i * K }
theorem mz_cong (cA : ClassId) {N : Nat} {f g : Nat → Value} (h : ∀ j, j < N → f j = g j) : arrV cA N f = arrV cA N g := by
  unfold arrV
  have : (fun j : Fin N => f j.val) = fun j => g j.val := funext fun j => h j.val j.isLt
  rw [this]
theorem mz_out_step (cA : ClassId) (N z i : Nat) : (mz_out cA N z i).setSlot i (.ref (z + 1 + i)) = mz_out cA N z (i + 1) := by
  unfold mz_out
  rw [arrV_store]
  refine mz_cong cA (fun j _ => ?_)
  unfold updV
  dsimp only
  rcases Nat.lt_trichotomy j i with h | h | h
  · rw [if_neg (by omega), if_pos h, if_pos (by omega)]
  · rw [if_pos h, if_pos (by omega), h]
  · rw [if_neg (by omega), if_neg (by omega), if_neg (by omega)]
theorem mz_out_new (cA : ClassId) (N z : Nat) : arrV cA N (fun _ => Value.null) = mz_out cA N z 0 := mz_cong cA (fun j _ => by rw [if_neg (Nat.not_lt_zero j)])
section MZ1
variable {S : State} {cA cI : ClassId} {N K i : Nat}
theorem mz_zero : S.pushCell (mz_out cA N S.heap.size 0) = mz_st S cA cI N K 0 := by
  have h : (mz_out cA N S.heap.size 0).slots.size = N := arrV_size _ _ _
  unfold State.pushCell mz_st
  rw [h]
  simp
theorem mz_size : (mz_st S cA cI N K i).heap.size = S.heap.size + 1 + i := by simp [mz_st]
theorem mz_used : (mz_st S cA cI N K i).slotsUsed = S.slotsUsed + N + i * K := rfl
theorem mz_at : (mz_st S cA cI N K i).heap[S.heap.size]? = some (mz_out cA N S.heap.size i) := by
  show (S.heap.push _ ++ Array.replicate i _)[S.heap.size]? = _
  rw [Array.getElem?_append_left (by simp)]
  simp
theorem mz_row {j : Nat} (hj : j < i) : (mz_st S cA cI N K i).heap[S.heap.size + 1 + j]? = some (mz_in cI K) := by
  show (S.heap.push _ ++ Array.replicate i _)[S.heap.size + 1 + j]? = _
  rw [Array.getElem?_append_right (by rw [Array.size_push]; omega)]
  simp [hj]
theorem mz_old {a : Nat} (ha : a < S.heap.size) : (mz_st S cA cI N K i).heap[a]? = S.heap[a]? := by
  show (S.heap.push _ ++ Array.replicate i _)[a]? = _
  rw [Array.getElem?_append_left (by simp; omega), Array.getElem?_push_lt ha]
  simp [ha]
theorem mz_succ : ((mz_st S cA cI N K i).pushCell (mz_in cI K)).setCell S.heap.size (mz_out cA N S.heap.size (i + 1)) = mz_st S cA cI N K (i + 1) := by
  have h : (mz_in cI K).slots.size = K := arrV_size _ _ _
  have e1 : S.slotsUsed + N + i * K + K = S.slotsUsed + N + (i + 1) * K := by rw [Nat.succ_mul]; omega
  have e2 : ((S.heap.push (mz_out cA N S.heap.size i) ++ Array.replicate i (mz_in cI K)).push (mz_in cI K)).setIfInBounds S.heap.size (mz_out cA N S.heap.size (i + 1)) = S.heap.push (mz_out cA N S.heap.size (i + 1)) ++ Array.replicate (i + 1) (mz_in cI K) := by
    apply Array.ext_getElem?
    intro q
    rw [Array.getElem?_setIfInBounds]
    rcases Nat.lt_trichotomy q S.heap.size with hq | hq | hq
    · rw [if_neg (by omega), Array.getElem?_push, if_neg (by simp; omega), Array.getElem?_append_left (by simp; omega), Array.getElem?_append_left (by simp; omega), Array.getElem?_push, Array.getElem?_push, if_neg (by omega), if_neg (by omega)]
    · subst hq
      rw [if_pos rfl, if_pos (by simp; omega), Array.getElem?_append_left (by simp)]
      simp
    · rw [if_neg (by omega), Array.getElem?_append_right (by simp; omega), Array.getElem?_push, Array.getElem?_append_right (by simp; omega)]
      simp only [Array.size_append, Array.size_push, Array.size_replicate, Array.getElem?_replicate]
      rcases Nat.lt_trichotomy q (S.heap.size + 1 + i) with hz | hz | hz
      · rw [if_neg (by omega), if_pos (by omega), if_pos (by omega)]
      · rw [if_pos hz, if_pos (by omega)]
      · rw [if_neg (by omega), if_neg (by omega), if_neg (by omega)]
  unfold State.pushCell State.setCell mz_st
  dsimp only
  rw [h, e1, e2]
theorem mz_top (f : JFrame) : mz_st (S.setTop f) cA cI N K i = (mz_st S cA cI N K i).setTop f := rfl
end MZ1
section MZ2
variable {p : Program} {l : Launch} {e : Env} {R : Room} {s : State} {m : MethodId} {args : Array Value} {below : List Frame} {meth : Method} {c : Code} {T : State} {locs : List Loc} {cells slots : Nat}
theorem mz_stand (X : Stand p l e R s m args below meth c T locs cells slots) (cA cI : ClassId) (N K : Nat) : ∀ i, Stand p l e R s m args below meth c (mz_st T cA cI N K i) locs (cells + 1 + i) (slots + N + i * K)
  | 0 => by
    have h := X.pushed (mz_out cA N T.heap.size 0)
    rw [mz_zero (cI := cI) (K := K), show (mz_out cA N T.heap.size 0).slots.size = N from arrV_size _ _ _] at h
    rw [Nat.zero_mul]
    exact h
  | i + 1 => by
    have h1 := (mz_stand X cA cI N K i).pushed (mz_in cI K)
    have hc : ((mz_st T cA cI N K i).pushCell (mz_in cI K)).heap[T.heap.size]? = some (mz_out cA N T.heap.size i) := by
      rw [State.heap_pushCell_of_lt (h := show T.heap.size < (mz_st T cA cI N K i).heap.size by rw [mz_size]; omega)]
      exact mz_at
    have h2 := h1.stored hc i (.ref (T.heap.size + 1 + i))
    rw [mz_out_step, mz_succ] at h2
    have h0 : s.heap.size ≤ T.heap.size := X.same.2.1
    have h3 := Stand.forget h2 (fun y hy => by
      rw [List.mem_singleton] at hy
      rw [hy]
      exact h0)
    have e1 : slots + N + i * K + (mz_in cI K).slots.size = slots + N + (i + 1) * K := by
      rw [show (mz_in cI K).slots.size = K from arrV_size _ _ _, Nat.succ_mul]
      omega
    rw [e1] at h3
    exact h3
end MZ2
section MZ3
variable {E : CtlPost} {e : Env} {d : Bool} {acts : List Action} {U : State}
theorem mz_new {cA comp : ClassId} {k : Class} {ty : FieldType} {v : Value} {n : Nat} {Q : Addr → Pre} (hk : U.vm.classes[cA]? = some k) (hkind : k.kind = .array comp ty) (hv : fits ty v = true) (hd : v.isDefault = true) (hl : n ≤ e.platform.arrayLengthLimit) (hh : n * componentBytes ty ≤ e.platform.maxHeapBytes) (h1 : U.heap.size < e.platform.maxCells) (h2 : U.slotsUsed + n ≤ e.platform.maxSlots)
    (hq : Q U.heap.size d acts (U.pushCell (arrV cA n (fun _ => v)))) : wp (Jvm.newArray cA n v) Q E e d acts U := by
  have hfit : ∀ i w, (Array.replicate n v)[i]? = some w → U.fitsSlot cA .none i w = true := by
    intro i w hw
    rw [Array.getElem?_replicate] at hw
    split at hw
    · cases hw
      simp [State.fitsSlot, State.slotType?, hk, hkind, hv]
    · cases hw
  have hacts : allocActs (Array.replicate n v) U.heap.size acts = acts := by
    unfold allocActs
    rw [if_pos (by rw [Array.all_replicate]; split <;> simp [hd])]
  rw [← arrV_new] at hq
  have g1 : ¬ n > e.platform.arrayLengthLimit := by omega
  have g2 : ¬ n * componentBytes ty > e.platform.maxHeapBytes := by omega
  have g3 : ¬ n > e.platform.maxSlots := by omega
  simp only [Jvm.newArray, Jvm.arrayFits, wp_bind', wp_pure', Jvm.W.ask, Jvm.W.ite, Jvm.W.theClass, Jvm.W.alloc, hk, hkind, Option.some.injEq, exists_eq_left', g1, g2, g3, if_false]
  refine ⟨h1, by simpa using h2, hfit, ?_⟩
  rw [hacts]
  exact hq
theorem mz_make1 {cI cE : ClassId} {kI : Class} {k : Int32} {K : Nat} {Q : Addr → Pre} (hk : U.vm.classes[cI]? = some kI) (hkind : kI.kind = .array cE .int) (h0 : ¬ k < 0) (hK : k.toNatClampNeg = K) (hl : K ≤ e.platform.arrayLengthLimit) (hh : K * 4 ≤ e.platform.maxHeapBytes) (h1 : U.heap.size < e.platform.maxCells) (h2 : U.slotsUsed + K ≤ e.platform.maxSlots)
    (hq : Q U.heap.size d acts (U.pushCell (mz_in cI K))) : wp (multianewarray.make cI [k]) Q E e d acts U := by
  simp only [multianewarray.make, wp_bind', wp_pure', Jvm.W.ite, Jvm.W.theClass, hk, hkind, Option.some.injEq, exists_eq_left', h0, if_false, hK]
  exact mz_new hk hkind rfl rfl hl hh h1 h2 hq
theorem mz_make2 {cA cI cE : ClassId} {kA kI : Class} {n k : Int32} {N K : Nat} {Q : Addr → Pre} (hkA : U.vm.classes[cA]? = some kA) (hkindA : kA.kind = .array cI (.array .int)) (hkI : U.vm.classes[cI]? = some kI) (hkindI : kI.kind = .array cE .int) (hn : ¬ n < 0) (hk : ¬ k < 0) (hN : n.toNatClampNeg = N) (hK : k.toNatClampNeg = K) (hl : N ≤ e.platform.arrayLengthLimit) (hl2 : K ≤ e.platform.arrayLengthLimit) (hh : N * 4 ≤ e.platform.maxHeapBytes) (hh2 : K * 4 ≤ e.platform.maxHeapBytes) (h1 : U.heap.size + (1 + N) ≤ e.platform.maxCells) (h2 : U.slotsUsed + (N + N * K) ≤ e.platform.maxSlots)
    (hq : ∀ d' acts', Q U.heap.size d' acts' (mz_st U cA cI N K N)) : wp (multianewarray.make cA [n, k]) Q E e d acts U := by
  have hfind : [k].find? (fun x => decide (x < 0)) = none := by simp [hk]
  rw [multianewarray.make]
  simp only [wp_bind', wp_pure', Jvm.W.ite, Jvm.W.theClass, hkA, hkindA, Option.some.injEq, exists_eq_left', hn, if_false, hN]
  refine mz_new hkA hkindA rfl rfl hl hh (by omega) (by omega) ?_
  rw [mz_out_new cA N U.heap.size, mz_zero (cI := cI) (K := K)]
  have loop : ∀ Q2 : PUnit → Pre, (∀ d' acts', Q2 PUnit.unit d' acts' (mz_st U cA cI N K N)) → wp (forIn (List.range' 0 N) PUnit.unit (fun i (_ : PUnit) => do
      Jvm.writeLoc U.heap.size i (.ref (← multianewarray.make cI [k]))
      Pure.pure (ForInStep.yield PUnit.unit) : Nat → PUnit → Sem (ForInStep PUnit))) Q2 E e d acts (mz_st U cA cI N K 0) := by
    intro Q2 hq
    refine wp_forIn_inv (fun rest t => ∃ i, i ≤ N ∧ rest = List.range' i (N - i) ∧ t = mz_st U cA cI N K i) _ _ ⟨0, Nat.zero_le _, rfl, rfl⟩ ?_ ?_
    · rintro x rest t d' acts' Q' ⟨i, hi, hr, rfl⟩ hQ
      have hlt : i < N := by
        rcases Nat.lt_or_ge i N with h | h
        · exact h
        · rw [show N - i = 0 by omega] at hr
          cases hr
      rw [show N - i = (N - (i + 1)) + 1 by omega, List.range'_succ] at hr
      cases hr
      have hmul : x * K + K ≤ N * K := by
        rw [← Nat.succ_mul]
        exact Nat.mul_le_mul_right K hlt
      simp only [wp_bind', wp_pure', Jvm.W.writeLoc]
      refine mz_make1 (kI := kI) (cE := cE) hkI hkindI hk hK hl2 hh2 (by rw [mz_size]; omega) (by rw [mz_used]; omega) ?_
      refine ⟨mz_out cA N U.heap.size x, ?_, (fun h => nomatch (show VmData.none = VmData.unknown from h)), (by rw [show (mz_out cA N U.heap.size x).slots.size = N from arrV_size _ _ _]; exact hlt), ?_, ?_⟩
      · rw [State.heap_pushCell_of_lt (h := show U.heap.size < (mz_st U cA cI N K x).heap.size by rw [mz_size]; omega)]
        exact mz_at
      · show State.fitsSlot U cA .none x _ = true
        simp [State.fitsSlot, State.slotType?, hkA, hkindA, fits]
      · rw [mz_size, mz_out_step, mz_succ]
        exact hQ _ _ _ ⟨x + 1, hlt, rfl, rfl⟩
    · rintro t d' acts' ⟨i, hi, hr, rfl⟩
      have : i = N := by
        have h := congrArg List.length hr
        simp at h
        omega
      rw [this]
      exact hq _ _
  by_cases hz : (n == 0) = true
  · simp only [hz, if_true, hfind, wp_bind', wp_pure', Std.Legacy.Range.forIn_eq_forIn_range', Std.Legacy.Range.size, Nat.sub_zero, Nat.add_sub_cancel, Nat.div_one]
    refine loop _ ?_
    intro d' acts'
    exact hq d' acts'
  · have hz : (n == 0) = false := Bool.eq_false_iff.mpr hz
    simp only [hz, Bool.false_eq_true, if_false, wp_bind', wp_pure', Std.Legacy.Range.forIn_eq_forIn_range', Std.Legacy.Range.size, Nat.sub_zero, Nat.add_sub_cancel, Nat.div_one]
    refine loop _ ?_
    intro d' acts'
    exact hq d' acts'
variable {s : State} {f : JFrame}
theorem mz_sem {index : Nat} {cA cI cE : ClassId} {kA kI : Class} {n k : Int32} {N K : Nat} {rest : List Value} {Q : Unit → Pre} (hs : s.topJava?.isSome) (hr : s.vm.classReady f.method.cls index cA) (hstack : f.stack = .int k :: .int n :: rest) (hkA : s.vm.classes[cA]? = some kA) (hkindA : kA.kind = .array cI (.array .int)) (hkI : s.vm.classes[cI]? = some kI) (hkindI : kI.kind = .array cE .int) (hn : ¬ n < 0) (hk : ¬ k < 0) (hN : n.toNatClampNeg = N) (hK : k.toNatClampNeg = K) (hl : N ≤ e.platform.arrayLengthLimit) (hl2 : K ≤ e.platform.arrayLengthLimit) (hh : N * 4 ≤ e.platform.maxHeapBytes) (hh2 : K * 4 ≤ e.platform.maxHeapBytes) (h1 : s.heap.size + (1 + N) ≤ e.platform.maxCells) (h2 : s.slotsUsed + (N + N * K) ≤ e.platform.maxSlots)
    (hq : ∀ d' acts', Q () d' acts' ((mz_st s cA cI N K N).setTop { f with stack := .ref s.heap.size :: rest })) : wp (multianewarray.sem index 2) Q E e d acts (s.setTop f) := by
  simp only [multianewarray.sem, wp_bind', Jvm.W.resolveClassAt_ready (State.method?_setTop f hs) hr]
  rw [show (2 : Nat) = [Value.int n, Value.int k].length from rfl, popN_top hs (args := [Value.int n, Value.int k]) (rest := rest) (by rw [hstack]; rfl)]
  simp only [List.mapM_cons, List.mapM_nil, wp_bind', wp_pure', Jvm.W.mark]
  refine mz_make2 hkA hkindA hkI hkindI hn hk hN hK hl hl2 hh hh2 h1 h2 (fun d' acts' => ?_)
  rw [mz_top]
  show wp (Jvm.pushRef s.heap.size) Q E e d' acts' _
  rw [Jvm.W.pushRef]
  refine ⟨_, State.topJava?_setTop' _ (show (mz_st s cA cI N K N).topJava?.isSome from hs), ?_⟩
  rw [State.setTop_setTop]
  exact hq _ _
end MZ3
section MZ4
variable {p : Program} {l : Launch} {e : Env} {R : Room} {s : State} {m : MethodId} {args : Array Value} {below : List Frame} {meth : Method} {c : Code} {T : State} {locs : List Loc} {cells slots : Nat}
theorem mz_over {args : Array Value} (h : (Cond.arrayOver (.array .int)).before args s = true) : ∃ (comp cA : ClassId) (k : Class), s.vm.findClass "[I" = some comp ∧ s.vm.findClass "[[I" = some cA ∧ s.vm.classes[cA]? = some k ∧ k.kind = .array comp (.array .int) := by
  simp only [Cond.before, Cond.holds, Cond.value, beq_iff_eq, Option.bind_eq_some_iff, Option.map_eq_some_iff] at h
  obtain ⟨comp, hc, cA, hi, k, hk, hb⟩ := h
  obtain ⟨hlt, hp, -⟩ := Array.findIdx?_eq_some_iff_getElem.mp hi
  rw [(Array.getElem?_eq_some_iff.mp hk).2] at hp
  cases hkind : k.kind with
  | array component ty =>
    rw [hkind] at hb hp
    simp only [Bool.and_eq_true, decide_eq_true_eq, beq_iff_eq] at hb hp
    exact ⟨comp, cA, k, hc, hb.2, hk, by rw [hkind, hb.1, hp]⟩
  | _ => rw [hkind] at hb; simp at hb
/-- from the instruction to the state behind it, both rows' classes known -/
theorem mz_step (X : Stand p l e R s m args below meth c T locs cells slots) (hexec : p.tables.exec = Jvm.exec) {own : String} {index : Nat} (hown : s.vm.findClass own = some m.cls) (hcl : (Cond.classLink own index "[[I").before args s = true) {cA cI cE : ClassId} {kA kI : Class} (hfA : s.vm.findClass "[[I" = some cA) (hkA : s.vm.classes[cA]? = some kA) (hkindA : kA.kind = .array cI (.array .int)) (hkI : s.vm.classes[cI]? = some kI) (hkindI : kI.kind = .array cE .int)
    {g : JFrame} (hg : g.method = m) (hdg : decode c.code g.pc = .ok (.multianewarray index 2, 4)) {n k : Int32} {N K : Nat} {rest : List Value} (hstack : g.stack = .int k :: .int n :: rest) (hn : ¬ n < 0) (hk : ¬ k < 0) (hN : n.toNatClampNeg = N) (hK : k.toNatClampNeg = K) (hN1 : N < 1000) (hK1 : K < 1000) (hcells : cells + (1 + N) ≤ R.cells) (hslots : slots + (N + N * K) ≤ R.slots) :
    ∃ vm₁ : Vm, Stand p l e R s m args below meth c (mz_st (T.setVm vm₁) cA cI N K N) locs (cells + 1 + N) (slots + N + N * K) ∧
      ∀ target, Steps p.tables e below ((mz_st (T.setVm vm₁) cA cI N K N).setTop { g with pc := g.pc + 4, stack := .ref T.heap.size :: rest }) target → Steps p.tables e below (T.setTop g) target := by
  subst hg
  have hpl : e.platform.magicAccessors = ({} : Platform).magicAccessors := by rw [X.admits.platform]
  obtain ⟨c2, hf2, hlink⟩ := Cond.classLink_spec hown hcl e.platform hpl
  cases hfA.symm.trans hf2
  obtain ⟨hgv, hwarm, hready⟩ := State.classEntry (e := e) X.warmed hlink
  generalize hv : T.vm.noted g.method.cls index (.cls cA) = vm₁ at hgv hwarm hready
  have hal : s.vm.Alike vm₁ := hwarm.alike
  obtain ⟨kA₁, hkA₁, eA⟩ := hal.2.2 _ _ hkA
  obtain ⟨kI₁, hkI₁, eI⟩ := hal.2.2 _ _ hkI
  have hkindA₁ : kA₁.kind = .array cI (.array .int) := by rw [eA]; exact hkindA
  have hkindI₁ : kI₁.kind = .array cE .int := by rw [eI]; exact hkindI
  have hlim := Launch.admits_arrayLengthLimit X.admits
  have hmax := Launch.admits_maxHeapBytes X.admits
  obtain ⟨hr1, hr2⟩ := X.roomAbove hcells hslots
  refine ⟨vm₁, mz_stand (X.noted hwarm) cA cI N K N, fun target hrest => ?_⟩
  refine Steps.instr (c := c) X.here ?_
  rw [hdg, hexec]
  have hsz : vm₁.classes.size ≤ T.vm.classes.size := by rw [← hv]; simp
  have hcold : ∀ (Q : Unit → Pre) (E : CtlPost) (d : Bool) (acts : List Action), wp (multianewarray.sem index 2) Q E e d acts ((T.setVm vm₁).setTop g) → wp (multianewarray.sem index 2) Q E e d acts (T.setTop g) := by
    intro Q E d acts h
    simp only [multianewarray.sem, wp_bind'] at h ⊢
    exact (Jvm.W.resolveClassAt_transfer (s := T.setTop g) (State.method?_setTop g X.here.top) hgv hready).mpr h
  refine hcold _ _ _ _ (mz_sem (s := T.setVm vm₁) X.here.top hready hstack hkA₁ hkindA₁ hkI₁ hkindI₁ hn hk hN hK (by omega) (by omega) (by omega) (by omega) hr1 hr2 (fun d' acts' => ?_))
  intro acts2
  rw [afterInstr_ok]
  exact hrest
end MZ4
