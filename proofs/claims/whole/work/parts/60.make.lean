/-! MAKING THE WORLD: cells come one behind the other; K4: the classes of the arrays by kind -/
theorem kz_all {n : Nat} {P : Nat → Prop} [DecidablePred P] (h : (List.range n).all (fun i => decide (P i)) = true) : ∀ i, i < n → P i := fun i hi => of_decide_eq_true (List.all_eq_true.mp h i (List.mem_range.mpr hi))
def kz_eq (s t : kx_S) : Bool := decide (s.1 = t.1) && (decide (s.2.1 = t.2.1) && (decide (s.2.2.1 = t.2.2.1) && (decide (s.2.2.2.1 = t.2.2.2.1) && decide (s.2.2.2.2 = t.2.2.2.2))))
theorem kz_eq_iff {s t : kx_S} (h : kz_eq s t = true) : s = t := by
  unfold kz_eq at h
  simp only [Bool.and_eq_true, decide_eq_true_eq] at h
  obtain ⟨h1, h2, h3, h4, h5⟩ := h
  obtain ⟨a, b, c, d, e⟩ := s
  obtain ⟨a2, b2, c2, d2, e2⟩ := t
  dsimp only at h1 h2 h3 h4 h5
  subst h1; subst h2; subst h3; subst h4; subst h5; rfl
theorem kz_alls {n : Nat} {f g : Nat → kx_S} (h : (List.range n).all (fun i => kz_eq (f i) (g i)) = true) : ∀ i, i < n → f i = g i := fun i hi => kz_eq_iff (List.all_eq_true.mp h i (List.mem_range.mpr hi))
def kz_K (K4 : Nat → ClassId) : List (ClassId × FieldType) := [(K4 1, .int), (K4 2, .boolean), (K4 3, .array .int), (K4 4, .object "SpunTales$Sheet")]
def kz_ad (h0 sz : Nat) (j : Nat) : Nat := if j = 0 then h0 else sz + (j - 1)
def kz_at (sh : List kx_S) (j : Nat) : kx_S := sh.getD j (9, 0, 0, 0, [])
def kz_c (ad : Nat → Nat) (K4 : Nat → ClassId) (h : kx_H) (sh : List kx_S) (j : Nat) : Nat × va_E := (ad j, kx_cell ad (K4 (kz_at sh j).1) (h j) (kz_at sh j))
def kz_r (ad : Nat → Nat) (K4 : Nat → ClassId) (h : kx_H) (sh : List kx_S) (a n : Nat) : va_W := (List.range n).map (fun j => kz_c ad K4 h sh (a + j))
theorem kz_r_succ {ad : Nat → Nat} {K4 : Nat → ClassId} {h : kx_H} {sh : List kx_S} {a n : Nat} : kz_r ad K4 h sh a (n + 1) = kz_r ad K4 h sh a n ++ [kz_c ad K4 h sh (a + n)] := by
  unfold kz_r
  rw [List.range_succ, List.map_append]
  rfl
theorem kz_r_add {ad : Nat → Nat} {K4 : Nat → ClassId} {h : kx_H} {sh : List kx_S} {a n : Nat} : ∀ {k : Nat}, kz_r ad K4 h sh a (n + k) = kz_r ad K4 h sh a n ++ kz_r ad K4 h sh (a + n) k
  | 0 => by simp [kz_r]
  | k + 1 => by
    rw [← Nat.add_assoc, kz_r_succ, kz_r_add (k := k), kz_r_succ, List.append_assoc, Nat.add_assoc a n k]
theorem kz_r_len {ad : Nat → Nat} {K4 : Nat → ClassId} {h : kx_H} {sh : List kx_S} {a n : Nat} : (kz_r ad K4 h sh a n).length = n := by simp [kz_r]
theorem kz_r_at {ad : Nat → Nat} {K4 : Nat → ClassId} {h : kx_H} {sh : List kx_S} {a n j : Nat} (hj : j < n) : (kz_r ad K4 h sh a n)[j]? = some (kz_c ad K4 h sh (a + j)) := by simp [kz_r, hj]
theorem kz_r_one {ad : Nat → Nat} {K4 : Nat → ClassId} {h : kx_H} {sh : List kx_S} {n : Nat} : kz_c ad K4 h sh 0 :: kz_r ad K4 h sh 1 n = kz_r ad K4 h sh 0 (n + 1) := by
  rw [Nat.add_comm n 1, kz_r_add]
  rfl
theorem kz_r_cong {ad ad2 : Nat → Nat} {K4 : Nat → ClassId} {h h2 : kx_H} {sh sh2 : List kx_S} {a b n : Nat} (H : ∀ j, j < n → kz_c ad K4 h sh (a + j) = kz_c ad2 K4 h2 sh2 (b + j)) : kz_r ad K4 h sh a n = kz_r ad2 K4 h2 sh2 b n := by
  apply List.ext_getElem?
  intro k
  by_cases hk : k < n
  · rw [kz_r_at hk, kz_r_at hk, H k hk]
  · rw [List.getElem?_eq_none (by rw [kz_r_len]; omega), List.getElem?_eq_none (by rw [kz_r_len]; omega)]
/-! a part of a greater world -/
def kz_sh (b : Nat) (s : kx_S) : kx_S := (s.1, (if s.1 = 0 ∨ s.1 = 1 ∨ s.1 = 2 then s.2.1 else b + s.2.1), s.2.2.1, s.2.2.2.1, s.2.2.2.2.map (Option.map (fun k => b + k)))
theorem kz_fs_sh {ad ad2 : Nat → Nat} {b : Nat} (H : ∀ k, ad (b + k) = ad2 k) (f : Nat → Int32) : ∀ (k : Nat) (l : List (Option Nat)), kx_fs ad f k (l.map (Option.map (fun k => b + k))) = kx_fs ad2 f k l
  | _, [] => rfl
  | k, none :: r => by simp only [List.map_cons, Option.map_none, kx_fs, kz_fs_sh H f (k + 1) r]
  | k, some j :: r => by simp only [List.map_cons, Option.map_some, kx_fs, kz_fs_sh H f (k + 1) r, H]
theorem kz_cell_sh {ad ad2 : Nat → Nat} {b : Nat} (H : ∀ k, ad (b + k) = ad2 k) {c : ClassId} {f : Nat → Int32} {s : kx_S} : kx_cell ad c f (kz_sh b s) = kx_cell ad2 c f s := by
  obtain ⟨k, x, st, n, l⟩ := s
  unfold kx_cell kz_sh
  dsimp only
  by_cases h0 : k = 0
  · rw [if_pos h0, if_pos h0, if_pos (Or.inl h0), kz_fs_sh H]
  · rw [if_neg h0, if_neg h0]
    by_cases h1 : k = 1 ∨ k = 2
    · rw [if_pos h1, if_pos h1, if_pos (Or.inr h1)]
    · rw [if_neg h1, if_neg h1, if_neg (fun z => z.elim h0 h1)]
      have : (fun j => some (ad (b + x + st * j))) = fun j => some (ad2 (x + st * j)) := funext fun j => by rw [← H, Nat.add_assoc]
      rw [this]
/-- a part that was made from position b on, seen in the whole -/
theorem kz_part {h0 sz b n : Nat} {K4 : Nat → ClassId} {h h2 : kx_H} {sh sh2 : List kx_S} (hb : 0 < b) (hs : ∀ j, j < n → kz_at sh (b + j) = kz_sh b (kz_at sh2 j)) (hh : ∀ j, j < n → ∀ k, h (b + j) k = h2 j k) : kz_r (kz_ad (sz + (b - 1)) (sz + (b - 1) + 1)) K4 h2 sh2 0 n = kz_r (kz_ad h0 sz) K4 h sh b n := by
  refine kz_r_cong (fun j hj => ?_)
  have ha : ∀ k, kz_ad h0 sz (b + k) = kz_ad (sz + (b - 1)) (sz + (b - 1) + 1) k := fun k => by
    unfold kz_ad
    rw [if_neg (by omega)]
    split <;> omega
  unfold kz_c
  rw [Nat.zero_add, ha j, hs j hj, kz_cell_sh ha, show h (b + j) = h2 j from funext (hh j hj)]
  rfl
/-! addresses that are apart -/
def kz_A (h0 sz : Nat) (q : Nat) : Prop := q = h0 ∨ sz ≤ q
theorem kz_D1 {D : va_G} {A : Nat → Prop} {ws : va_W} (h : (ws.map (fun q => q.1)).Nodup) (hA : ∀ a ∈ ws.map (fun q => q.1), A a) : va_D A ws := by
  refine ⟨fun i j x y hi hj e => ?_, fun k q hq => hA _ (List.mem_map.mpr ⟨q, List.mem_of_getElem? hq, rfl⟩)⟩
  have h1 : (ws.map (fun q => q.1))[i]? = some x.1 := by rw [List.getElem?_map, hi]; rfl
  have h2 : (ws.map (fun q => q.1))[j]? = some x.1 := by rw [List.getElem?_map, hj, e]; rfl
  exact (List.getElem?_inj (by
    have := (List.getElem?_eq_some_iff.mp h1).1
    exact this) h).mp (h1.trans h2.symm)
theorem kz_r_adr {h0 sz : Nat} {K4 : Nat → ClassId} {h : kx_H} {sh : List kx_S} {a n : Nat} (ha : 0 < a) : (kz_r (kz_ad h0 sz) K4 h sh a n).map (fun q => q.1) = (List.range n).map (fun j => sz + (a - 1) + j) := by
  unfold kz_r
  rw [List.map_map]
  refine List.map_congr_left (fun j _ => ?_)
  show kz_ad h0 sz (a + j) = _
  unfold kz_ad
  rw [if_neg (by omega)]
  omega
theorem kz_D {D : va_G} {h0 sz : Nat} {e : va_E} {K4 : Nat → ClassId} {h : kx_H} {sh : List kx_S} {m : Nat} (hlt : h0 < sz) : va_D (kz_A h0 sz) ((h0, e) :: kz_r (kz_ad h0 sz) K4 h sh 1 m) := by
  refine kz_D1 (D := D) ?_ ?_
  · rw [List.map_cons, kz_r_adr (by omega), List.nodup_cons]
    refine ⟨fun z => ?_, ?_⟩
    · obtain ⟨j, -, hj⟩ := List.mem_map.mp z
      dsimp only at hj
      omega
    · rw [List.Nodup, List.pairwise_map]
      exact List.nodup_range.imp (fun hab e => hab (by omega))
  · intro a ha
    rw [List.map_cons, kz_r_adr (by omega)] at ha
    rcases List.mem_cons.mp ha with z | z
    · exact Or.inl z
    · obtain ⟨j, -, hj⟩ := List.mem_map.mp z
      exact Or.inr (by omega)
theorem kz_push1 {D : va_G} {q c : Nat × va_E} {ad : Nat → Nat} {K4 : Nat → ClassId} {h : kx_H} {sh : List kx_S} {m : Nat} {H : Heap} (hP : va_P D vwCl ((q :: kz_r ad K4 h sh 1 m) ++ [c]) H) (hc : c = kz_c ad K4 h sh (1 + m)) : va_P D vwCl (q :: kz_r ad K4 h sh 1 (m + 1)) H := by
  rw [kz_r_succ, ← hc]; exact hP
theorem kz_pushm {D : va_G} {q : Nat × va_E} {X : va_W} {ad : Nat → Nat} {K4 : Nat → ClassId} {h : kx_H} {sh : List kx_S} {m n : Nat} {H : Heap} (hP : va_P D vwCl ((q :: kz_r ad K4 h sh 1 m) ++ X) H) (hc : X = kz_r ad K4 h sh (1 + m) n) : va_P D vwCl (q :: kz_r ad K4 h sh 1 (m + n)) H := by
  rw [kz_r_add, ← hc]; exact hP
/-! the rows -/
def kz_AOA (U : State) : Prop := ∃ (comp cA : ClassId) (k : Class), U.vm.findClass "[I" = some comp ∧ U.vm.findClass "[[I" = some cA ∧ U.vm.classes[cA]? = some k ∧ k.kind = .array comp (.array .int)
theorem kz_AOA.of {A : Array Value} {U : State} (h : (Cond.arrayOver (.array .int)).before A U = true) : kz_AOA U := mz_over h
theorem kz_AOA.moved {u U : State} (hvm : u.vm.Alike U.vm) (h : kz_AOA u) : kz_AOA U := by
  obtain ⟨comp, cA, k, h1, h2, h3, h4⟩ := h
  obtain ⟨k', hk', he⟩ := hvm.2.2 _ _ h3
  exact ⟨comp, cA, k', by rw [hvm.findClass]; exact h1, by rw [hvm.findClass]; exact h2, hk', by rw [he]; exact h4⟩
section KZ
variable {p : Program} {l : Launch} {e : Env} {R : Room} {s : State} {m : MethodId} {args : Array Value} {below : List Frame} {meth : Method} {c : Code} {H : Heap} {locs : List Loc} {cells slots : Nat} {Q : State → Prop}
variable {cc : ByteArray} {pc : Nat} {ls : Array Slot} {rest : List Value} {D : va_G} {A : Nat → Prop} {ws : va_W} {H0 : Heap} {K4 : Nat → ClassId}
theorem kz_grow {H1 : Heap} {z k : Nat} (hz : H.size = z) (z1 : H1.size = z + k) (o1 : ∀ q, q < z → H1[q]? = H[q]?) (hP : va_P D vwCl ws H) (hS : va_S A H0 H locs) : va_P D vwCl ws H1 ∧ va_S A H0 H1 locs := by
  subst hz
  exact ⟨hP.kept (fun k x hx => o1 x.1 ((hP k x hx).lt)), ⟨Nat.le_trans hS.1 (by omega), fun x h1 h2 => (o1 x (Nat.lt_of_lt_of_le h1 hS.1)).trans (hS.2.1 x h1 h2), hS.2.2⟩⟩
theorem kz_P1 {D : va_G} {q : Nat × va_E} {H : Heap} (h : va_at D vwCl q H) : va_P D vwCl [q] H := fun k x hx => by
  have hk : k < 1 := (List.getElem?_eq_some_iff.mp hx).1
  rw [show k = 0 by omega] at hx
  cases hx
  exact h
theorem kz_newi (hx : p.tables.exec = Jvm.exec) (hb : c.code = cc) (hac : (Cond.arrayClass .int).before args s = true) (hK : va_K D vwCl (kz_K K4) s) (hP : va_P D vwCl ws H) {z : Nat} (hz : H.size = z) (hS : va_S A H0 H locs) {n : Int32} {N : Nat} (hn : n = nI N) (hN : N < 1000) (hcells : cells + 1 ≤ R.cells) (hslots : slots + N ≤ R.slots) (d : decode cc pc = .ok (.newarray .int, 2))
    (kk : ∀ H1 : Heap, H1.size = z + 1 → va_P D vwCl (ws ++ [(z, .inl (K4 1, N, .inl (fun _ => 0)))]) H1 → va_S A H0 H1 locs → W p l e R s m args below meth c H1 locs (cells + 1) (slots + N) Q (F0 m (pc + 2) ls (.ref z :: rest))) : W p l e R s m args below meth c H locs cells slots Q (F0 m pc ls (.int n :: rest)) := by
  subst hn
  refine va_newaK (atype := .int) hx hb hac rfl d rfl (nI_pos (by omega)) (nI_clamp (by omega)) (show N * 4 ≤ _ by omega) hcells hslots hz fun H1 cA e1 z1 o1 hAr hNm => ?_
  have hc : K4 1 = cA := Option.some.inj (((hK.2 0 _ rfl).2 : s.vm.findClass _ = some (K4 1)).symm.trans hNm)
  subst hc
  obtain ⟨g1, g2⟩ := kz_grow hz z1 o1 hP hS
  exact kk H1 z1 (g1.app (kz_P1 e1)) g2
theorem kz_newz (hx : p.tables.exec = Jvm.exec) (hb : c.code = cc) (hac : (Cond.arrayClass .boolean).before args s = true) (hK : va_K D vwCl (kz_K K4) s) (hP : va_P D vwCl ws H) {z : Nat} (hz : H.size = z) (hS : va_S A H0 H locs) {n : Int32} {N : Nat} (hn : n = nI N) (hN : N < 1000) (hcells : cells + 1 ≤ R.cells) (hslots : slots + N ≤ R.slots) (d : decode cc pc = .ok (.newarray .boolean, 2))
    (kk : ∀ H1 : Heap, H1.size = z + 1 → va_P D vwCl (ws ++ [(z, .inl (K4 2, N, .inl (fun _ => 0)))]) H1 → va_S A H0 H1 locs → W p l e R s m args below meth c H1 locs (cells + 1) (slots + N) Q (F0 m (pc + 2) ls (.ref z :: rest))) : W p l e R s m args below meth c H locs cells slots Q (F0 m pc ls (.int n :: rest)) := by
  subst hn
  refine va_newaK (atype := .boolean) hx hb hac rfl d rfl (nI_pos (by omega)) (nI_clamp (by omega)) (show N * 1 ≤ _ by omega) hcells hslots hz fun H1 cA e1 z1 o1 hAr hNm => ?_
  have hc : K4 2 = cA := Option.some.inj (((hK.2 1 _ rfl).2 : s.vm.findClass _ = some (K4 2)).symm.trans hNm)
  subst hc
  obtain ⟨g1, g2⟩ := kz_grow hz z1 o1 hP hS
  exact kk H1 z1 (g1.app (kz_P1 e1)) g2
theorem kz_arrV (cA : ClassId) {N : Nat} {f g : Nat → Value} (h : ∀ j, j < N → f j = g j) : arrV cA N f = arrV cA N g := by
  unfold arrV
  have : (fun j : Fin N => f j.val) = fun j => g j.val := funext fun j => h j.val j.isLt
  rw [this]
theorem kz_outer (cA : ClassId) (N h0 : Nat) : mz_out cA N h0 N = vp_cell cA (N, .inr (.inr (.inr (.inr (fun i => some (h0 + 1 + i)))))) := by
  rw [vp_cell_q]
  exact kz_arrV cA (fun j hj => by rw [if_pos hj]; rfl)
theorem kz_mna (hx : p.tables.exec = Jvm.exec) (hb : c.code = cc) {own : String} {index : Nat} (hown : s.vm.findClass own = some m.cls) (hcl : (Cond.classLink own index "[[I").before args s = true) (hov : kz_AOA s) (hac : (Cond.arrayClass .int).before args s = true) (hK : va_K D vwCl (kz_K K4) s) (hP : va_P D vwCl ws H) {z : Nat} (hz : H.size = z) (hS : va_S A H0 H locs) {n k : Int32} {N K : Nat} (hn : n = nI N) (hk : k = nI K) (hN : N < 1000) (hKK : K < 1000) (hcells : cells + (1 + N) ≤ R.cells) (hslots : slots + (N + N * K) ≤ R.slots) (d : decode cc pc = .ok (.multianewarray index 2, 4))
    (kk : ∀ H1 : Heap, H1.size = z + 1 + N → va_P D vwCl (ws ++ ((z, .inl (K4 3, N, .inr (.inr (.inr (.inr (fun i => some (z + 1 + i))))))) :: (List.range N).map (fun i => (z + 1 + i, .inl (K4 1, K, .inl (fun _ => 0)))))) H1 → va_S A H0 H1 locs → W p l e R s m args below meth c H1 locs (cells + 1 + N) (slots + N + N * K) Q (F0 m (pc + 4) ls (.ref z :: rest))) : W p l e R s m args below meth c H locs cells slots Q (F0 m pc ls (.int k :: .int n :: rest)) := by
  subst hn; subst hk; subst hz
  have c1 : (nI N).toNatClampNeg = N := nI_clamp (by omega)
  have c2 : (nI K).toNatClampNeg = K := nI_clamp (by omega)
  intro T hT Xs
  obtain ⟨comp, cA, kA, hfC, hfA, hkA, hkindA⟩ := hov
  obtain ⟨cI, kI, cE, hfI, hkI, hkindI⟩ := Cond.arrayClass_spec hac
  have ea : K4 3 = cA := Option.some.inj (((hK.2 2 _ rfl).2 : s.vm.findClass _ = some (K4 3)).symm.trans hfA)
  have ei : K4 1 = comp := Option.some.inj (((hK.2 0 _ rfl).2 : s.vm.findClass _ = some (K4 1)).symm.trans hfC)
  have ej : K4 1 = cI := Option.some.inj (((hK.2 0 _ rfl).2 : s.vm.findClass _ = some (K4 1)).symm.trans hfI)
  subst ea; subst ei; subst ej
  obtain ⟨vm₁, X', step⟩ := mz_step Xs hx hown hcl hfA hkA hkindA hkI hkindI (g := F0 m pc ls (.int (nI K) :: .int (nI N) :: rest)) rfl (by rw [hb]; exact d) rfl (nI_pos (by omega)) (nI_pos (by omega)) c1 c2 hN hKK hcells hslots
  have hTh : (T.setVm vm₁).heap = H := hT
  have f1 := mz_size (S := T.setVm vm₁) (cA := K4 3) (cI := K4 1) (N := N) (K := K) (i := N)
  have f2 := mz_at (S := T.setVm vm₁) (cA := K4 3) (cI := K4 1) (N := N) (K := K) (i := N)
  have hold : ∀ x : Nat, x < H.size → (mz_st (T.setVm vm₁) (K4 3) (K4 1) N K N).heap[x]? = H[x]? := fun x hx => by
    rw [mz_old (by rw [hTh]; exact hx), hTh]
  have hrow : ∀ j : Nat, j < N → (mz_st (T.setVm vm₁) (K4 3) (K4 1) N K N).heap[H.size + 1 + j]? = some (vp_cell (K4 1) (K, .inl (fun _ => 0))) := fun j hj => by
    have := mz_row (S := T.setVm vm₁) (cA := K4 3) (cI := K4 1) (N := N) (K := K) hj
    rw [hTh] at this
    rw [this]
    rfl
  rw [hTh] at f1 f2
  generalize mz_st (T.setVm vm₁) (K4 3) (K4 1) N K N = F at X' step f1 f2 hold hrow
  rw [kz_outer] at f2
  obtain ⟨g1, g2⟩ := kz_grow (k := 1 + N) rfl (by rw [f1]; omega) hold hP hS
  obtain ⟨t, a1, b1⟩ := kk F.heap f1 (g1.app (fun k9 x hx => by
    cases k9 with
    | zero => cases hx; exact f2
    | succ k9 =>
      obtain ⟨i, hi, rfl⟩ := List.mem_map.mp (List.mem_of_getElem? hx)
      exact hrow i (List.mem_range.mp hi))) g2 F rfl X'
  refine ⟨t, step t ?_, b1⟩
  rw [hT]
  exact a1
theorem kz_new (hx : p.tables.exec = Jvm.exec) (hb : c.code = cc) {own C : String} {T : u_T} {N ci index : Nat} {Ts : List Cond} (hts : ∀ w ∈ Ts, w.before args s = true) (hin : ∀ w ∈ u_ws C T N, w ∈ Ts) (ty : Nat → FieldType) (hty : ∀ k, k < N → parseFieldDescriptor (T k).2.2.1 = some (ty k)) (hown : s.vm.findClass own = some m.cls) (hcl : (Cond.classLink own index C).before args s = true) (hinst : (Cond.instantiable C N).before args s = true) (hini : (Cond.initialized C).before args s = true)
    {tys : List (ClassId × FieldType)} (hK : va_K D vwCl tys s) (hP : va_P D vwCl ws H) {z : Nat} (hz : H.size = z) (hS : va_S A H0 H locs) (hc : vwCl[ci]? = some (C, T, N)) {fs : List Value} (hfs : ∀ j, j < N → defaultValue (ty j) = vp_V fs j) (hcells : cells + 1 ≤ R.cells) (hslots : slots + N ≤ R.slots) (d : decode cc pc = .ok (.new index, 3))
    (kk : ∀ H1 : Heap, H1.size = z + 1 → va_P D vwCl (ws ++ [(z, .inr (ci, fs))]) H1 → va_S A H0 H1 locs → W p l e R s m args below meth c H1 locs (cells + 1) (slots + N) Q (F0 m (pc + 3) ls (.ref z :: rest))) : W p l e R s m args below meth c H locs cells slots Q (F0 m pc ls rest) := by
  have hKn := hK.1 ci _ hc
  refine W.newcK hx hb hown hcl hinst hini rfl d hcells hslots hKn.2.1 hz fun H1 kC hkC e1 z1 o1 => ?_
  obtain ⟨g1, g2⟩ := kz_grow hz z1 o1 hP hS
  exact kk H1 z1 (g1.app (kz_P1 ⟨_, hc, (u_born ty hts hin hKn hkC e1 hty).to hfs⟩)) g2
theorem kz_put (hx : p.tables.exec = Jvm.exec) (hb : c.code = cc) {own ref C : String} {T : u_T} {N ci index : Nat} {Ts : List Cond} (hts : ∀ w ∈ Ts, w.before args s = true) (hin : ∀ w ∈ u_ws C T N, w ∈ Ts) (ty0 : Nat → FieldType) (hty : ∀ k, k < N → parseFieldDescriptor (T k).2.2.1 = some (ty0 k)) (hnm : ∀ a, a < N → ∀ b, b < N → a ≠ b → (T a).2.1 ≠ (T b).2.1) (hown : s.vm.findClass own = some m.cls) {tys : List (ClassId × FieldType)} (hK : va_K D vwCl tys s) {a : Nat} {fs : List Value} {X : va_W} (hP : va_P D vwCl ((a, .inr (ci, fs)) :: X) H) (hD : va_D A ((a, .inr (ci, fs)) :: X)) {z : Nat} (hz : H.size = z) (hS0 : va_S A H0 H locs) (hc : vwCl[ci]? = some (C, T, N)) (k : Nat) (hk : k < N) (hlink : (Cond.fieldLink own index ref (T k).2.1 (T k).2.2.1).before args s = true) (hsame : ∀ x, s.fieldFound? (T k).1 (T k).2.1 (T k).2.2.1 = some x → s.fieldFound? ref (T k).2.1 (T k).2.2.1 = some x) (hfin : (T k).2.2.2 = false ∨ ((T k).2.2.2 = true ∧ meth.name = "<init>" ∧ (T k).1 = own)) {ty : FieldType} {v : Value} (hd : parseFieldDescriptor (T k).2.2.1 = some ty) (hn : narrow ty v = v) (hfit : fits ty v = true) (hl : k < fs.length)
    (hdg : decode cc pc = .ok (.putfield index, 3)) (kk : ∀ (H1 : Heap) (locs1 : List Loc), H1.size = z → va_P D vwCl ((a, .inr (ci, fs.set k v)) :: X) H1 → va_S A H0 H1 locs1 → W p l e R s m args below meth c H1 locs1 cells slots Q (F0 m (pc + 3) ls rest)) : W p l e R s m args below meth c H locs cells slots Q (F0 m pc ls (v :: .ref a :: rest)) := by
  have hap := va_apart (own := own) hts hin ty0 hty hnm hK hc
  have he : ((a, .inr (ci, fs)) :: X : va_W)[0]? = some (a, .inr (ci, fs)) := rfl
  obtain ⟨r, h1, cell, q1, q2, q3, q4⟩ := hP 0 _ he
  have hr : r = (C, T, N) := Option.some.inj (h1.symm.trans hc)
  subst hr
  obtain ⟨hS, hfc, kC, hkC, hkind⟩ := hK.1 ci _ hc
  obtain ⟨cf, kf, fi, f, hi, hsl⟩ := hS k hk
  have hlay := hts _ (hin _ (u_in_lay hk))
  have hst := (u_facts hfc hkC (u_lays hts hin hk) hi).1
  have fin : ∀ H' : Heap, H'[a]? = some (cell.setSlot f.slot v) → H'.size = H.size → (∀ q, q ≠ a → H'[q]? = H[q]?) → W p l e R s m args below meth c H' (locs ++ [⟨a, f.slot⟩]) cells slots Q (F0 m (pc + 3) ls rest) := by
    intro H' e1 e2 e3
    rw [hsl] at e1 ⊢
    exact kk H' _ (e2.trans hz) (hP.set hD he ⟨_, hc, t_OB.to (V := updV (vp_V fs) k v) ⟨_, e1, q2, q3, t_set q4 hap hk v⟩ (fun j _ => vp_updV_set hl v j)⟩ e3) (hS0.put e2 e3 (hD.2 0 _ he))
  unfold u_lay at hlay
  rcases hfin with hfin | ⟨hfin, hin2, hdecl⟩
  · rw [if_neg (by rw [hfin]; decide)] at hlay
    have h6 := u_store hfc hkC hkind hlay hi hd hn hfit
    exact W.putK hx hb (f := f) ⟨hown, hlink, ⟨_, _, _, hsame _ hi⟩, hst⟩ (by rw [q2]; exact h6) q1 q3 (by rw [hsl]; exact k2_hasslot (q4 k hk)) rfl rfl hdg fin
  · rw [if_pos hfin] at hlay
    have hcf : m.cls = cf := by
      obtain ⟨_, _, c', _, _, _, -, -, hf', -, -, -, hown2, -⟩ := Cond.laysFinal_spec hlay
      have e1 : c' = cf := by have := hi.symm.trans hf'; simp at this; exact this.1.symm
      rw [hdecl] at hown2
      rw [← e1]; exact Option.some.inj (hown.symm.trans hown2)
    have h6 := u_fits hfc hkC hkind (Or.inr hlay) hi hd hn hfit
    exact W.putFinK hx hb hown hlink (hsame _ hi) hst hcf hin2 (by rw [q2]; exact h6) q1 q3 (by rw [hsl]; exact k2_hasslot (q4 k hk)) rfl rfl hdg fin
theorem kz_iast (hx : p.tables.exec = Jvm.exec) (hb : c.code = cc) (hK : va_K D vwCl (kz_K K4) s) (hP : va_P D vwCl ws H) (hD : va_D A ws) {z : Nat} (hz : H.size = z) (hS : va_S A H0 H locs) (q0 : Nat) {a n j : Nat} {f : Nat → Int32} (ha : ws[q0]? = some (a, .inl (K4 1, n, .inl f))) {x : Int32} (hj : j < n) (hn : n < 1000) (hdg : decode cc pc = .ok (.iastore, 1))
    (kk : ∀ (H1 : Heap) (locs1 : List Loc), H1.size = z → va_P D vwCl (ws.set q0 (a, .inl (K4 1, n, .inl (fun i => if i = j then x else f i)))) H1 → va_S A H0 H1 locs1 → W p l e R s m args below meth c H1 locs1 cells slots Q (F0 m (pc + 1) ls rest)) : W p l e R s m args below meth c H locs cells slots Q (F0 m pc ls (.int x :: .int (nI j) :: .ref a :: rest)) := by
  have cj : (nI j).toNatClampNeg = j := nI_clamp (by omega)
  refine W.iast hx hb (hP q0 _ ha) ((hK.2 0 _ rfl).1 n (fun j => .int (f j))) (fun q => by cases q) (by show ¬ (nI j < 0 ∨ (arrV _ _ _).slots.size ≤ _); rw [arrV_size]; exact (vp_in_nI hj (show n < 2 ^ 31 by omega) : vp_in (nI j) n)) rfl rfl hdg fun H1 e z1 oq => ?_
  refine kk H1 _ (z1.trans hz) (hP.set hD ha ?_ oq) (hS.put z1 oq (hD.2 q0 _ ha))
  show H1[a]? = some (vp_cell _ _)
  rw [e, vp_cell_i, vp_cell_i, arrV_store, cj]
  congr 1
  refine kz_arrV _ (fun i _ => ?_)
  unfold updV
  by_cases h : i = j
  · simp [h]
  · simp [h]
theorem kz_aast (hx : p.tables.exec = Jvm.exec) (hb : c.code = cc) (hK : va_K D vwCl (kz_K K4) s) (hP : va_P D vwCl ws H) (hD : va_D A ws) {z : Nat} (hz : H.size = z) (hS : va_S A H0 H locs) (q0 qk ci : Nat) {a n v j : Nat} {r : vw_C} {vs : List Value} {f : Nat → Option Nat} (ha : ws[q0]? = some (a, .inl (K4 4, n, .inr (.inr (.inr (.inr f)))))) (hv : ws[qk]? = some (v, .inr (ci, vs))) (hc : vwCl[ci]? = some r) (hr : r.1 = "SpunTales$Sheet") (hj : j < n) (hn : n < 1000) (hdg : decode cc pc = .ok (.aastore, 1))
    (kk : ∀ (H1 : Heap) (locs1 : List Loc), H1.size = z → va_P D vwCl (ws.set q0 (a, .inl (K4 4, n, .inr (.inr (.inr (.inr (fun i => if i = j then some v else f i))))))) H1 → va_S A H0 H1 locs1 → W p l e R s m args below meth c H1 locs1 cells slots Q (F0 m (pc + 1) ls rest)) : W p l e R s m args below meth c H locs cells slots Q (F0 m pc ls (.ref v :: .int (nI j) :: .ref a :: rest)) := by
  have cj : (nI j).toNatClampNeg = j := nI_clamp (by omega)
  obtain ⟨r', hr', cellV, g1, g2, g3, -⟩ := hP qk _ hv
  have hcls := (hK.1 ci r hc).2
  rw [hr] at hcls
  obtain ⟨kA, comp, k1, k2, k3, -⟩ := (hK.2 3 _ rfl).2
  have hcomp : comp = D.1 ci := Option.some.inj (k3.symm.trans hcls.1)
  subst hcomp
  obtain ⟨kC, hkC, -⟩ := hcls.2
  refine W.aast hx hb (hP q0 _ ha) (fun q h => by cases h) (fun h => by cases h) k1 k2 rfl hkC ⟨nI_pos (by omega), by show _ < (arrV _ _ _).slots.size; rw [arrV_size, cj]; exact hj⟩ g1 (fun q h => by rw [g3] at h; cases h) (by rw [g2]; exact hkC) (by rw [g2]; exact va_assign hcls) rfl rfl hdg fun H1 e z1 oq => ?_
  refine kk H1 _ (z1.trans hz) (hP.set hD ha ?_ oq) (hS.put z1 oq (hD.2 q0 _ ha))
  show H1[a]? = some (vp_cell _ _)
  rw [e, vp_cell_q, vp_cell_q, arrV_store, cj]
  congr 1
  refine kz_arrV _ (fun i _ => ?_)
  unfold updV
  by_cases h : i = j
  · simp [h, va_rf]
  · simp [h]
end KZ
/-! what was made with an outer row and its rows -/
theorem kz_mnaX {h0 sz m N K : Nat} {K4 : Nat → ClassId} {h : kx_H} {sh : List kx_S} (hso : kz_at sh (1 + m) = (3, 2 + m, 1, N, [])) (hsr : ∀ i, i < N → kz_at sh (2 + m + i) = (1, K, 0, 0, [])) (hh : ∀ i, i < N → h (2 + m + i) = fun _ => 0) : (((sz + m, .inl (K4 3, N, .inr (.inr (.inr (.inr (fun i => some (sz + m + 1 + i))))))) :: (List.range N).map (fun i => (sz + m + 1 + i, .inl (K4 1, K, .inl (fun _ => 0))))) : va_W) = kz_r (kz_ad h0 sz) K4 h sh (1 + m) (1 + N) := by
  have had : ∀ k, kz_ad h0 sz (1 + k) = sz + k := fun k => by unfold kz_ad; rw [if_neg (by omega)]; omega
  rw [kz_r_add, show kz_r (kz_ad h0 sz) K4 h sh (1 + m) 1 = [kz_c (kz_ad h0 sz) K4 h sh (1 + m)] from rfl]
  show _ :: _ = _ :: _
  congr 1
  · unfold kz_c
    rw [hso, had]
    unfold kx_cell
    dsimp only
    rw [if_neg (by decide), if_neg (by decide)]
    have : (fun i => some (sz + m + 1 + i)) = fun j => some (kz_ad h0 sz (2 + m + 1 * j)) := funext fun j => by rw [show 2 + m + 1 * j = 1 + (m + 1 + j) by omega, had]; congr 1; omega
    rw [this]
  · refine List.map_congr_left (fun i hi => ?_)
    have hi := List.mem_range.mp hi
    unfold kz_c
    rw [show 1 + m + 1 + i = 2 + m + i by omega, hsr i hi, hh i hi, show 2 + m + i = 1 + (m + 1 + i) by omega, had]
    unfold kx_cell
    dsimp only
    rw [if_neg (by decide), if_pos (by decide), Nat.add_assoc sz, Nat.add_assoc sz]
/-! what a constructor's caller gives, and gets -/
def kz_Pre (D : va_G) (K4 : Nat → ClassId) (ci : Nat) (fs : List Value) (h0 sz : Nat) (U : State) : Prop := U.heap.size = sz ∧ h0 < sz ∧ va_P D vwCl [(h0, .inr (ci, fs))] U.heap ∧ va_K D vwCl (kz_K K4) U ∧ kz_AOA U
def kz_Po (D : va_G) (K4 : Nat → ClassId) (h : kx_H) (sh : List kx_S) (h0 sz n : Nat) (_ : Unit) (t : State) : Prop := t.heap.size = sz + n ∧ va_P D vwCl (kz_r (kz_ad h0 sz) K4 h sh 0 (n + 1)) t.heap
def kz_In (dpf lo : Nat) (y : MethodName) (cc : ByteArray) (nL : Nat) (h : kx_H) (sh : List kx_S) (ci : Nat) (fs : List Value) (n ms : Nat) : Prop :=
  ∀ (l : Launch) (D : va_G) (K4 : Nat → ClassId) (h0 sz : Nat), Met l y (.code y cc nL none :: kx_tb) { frames := dpf, cells := n, slots := ms, locals := lo } (va_Pc [.ref h0] (kz_Pre D K4 ci fs h0 sz)) (va_Qv (fun _ : Unit => True) (kz_Po D K4 h sh h0 sz n) (kz_A h0 sz)) n ms (kz_A h0 sz)
theorem kz_blind {D : va_G} {K4 : Nat → ClassId} {ci : Nat} {fs : List Value} {h0 sz : Nat} {av : List Value} : FrameBlind (va_Pc av (kz_Pre D K4 ci fs h0 sz)) := by
  intro a U g mk hq
  obtain ⟨e, q1, q2, q3, q4, q5⟩ := hq
  exact ⟨e, q1, q2, q3, va_K.moved (u := U) (U := U.calling g mk a) (Vm.Alike.refl U.vm) q4, kz_AOA.moved (u := U) (U := U.calling g mk a) (Vm.Alike.refl U.vm) q5⟩

