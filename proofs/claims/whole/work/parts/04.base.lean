/-! THE LAYER: all cells of class and reference are fixed after the two constructors; a heap of ints h : cell -> place -> int says the rest. -/
abbrev kx_H : Type := Nat → Nat → Int32
def kx_up (h : kx_H) (a k : Nat) (v : Int32) : kx_H := fun b j => if b = a ∧ j = k then v else h b j
def kx_cp (h : kx_H) (a b sp dp n : Nat) : kx_H := fun c k => if c = b ∧ dp ≤ k ∧ k < dp + n then h a (sp + (k - dp)) else h c k
def kx_val (ad : Nat → Nat) : Value → Value
  | .ref a => .ref (ad a)
  | v => v
theorem kx_val_cat (ad : Nat → Nat) (v : Value) : (kx_val ad v).category = v.category := by cases v <;> rfl
abbrev kx_S : Type := Nat × Nat × Nat × Nat × List (Option Nat)
def kx_shl : List kx_S := [(0, 8, 0, 0, [some 1, some 23, none, some 45, some 47, some 56, some 57, some 58, some 64, some 112, some 115, some 125]), (0, 2, 0, 0, [none, none, none, none, none, some 2, some 3, some 12, some 13, some 18, none, none, none, none]), (1, 8, 0, 0, []), (3, 4, 1, 8, []), (1, 9, 0, 0, []), (1, 9, 0, 0, []), (1, 9, 0, 0, []), (1, 9, 0, 0, []), (1, 9, 0, 0, []), (1, 9, 0, 0, []), (1, 9, 0, 0, []), (1, 9, 0, 0, []), (1, 4, 0, 0, []), (3, 14, 1, 4, []), (1, 4, 0, 0, []), (1, 4, 0, 0, []), (1, 4, 0, 0, []), (1, 4, 0, 0, []), (3, 19, 1, 4, []), (1, 8, 0, 0, []), (1, 8, 0, 0, []), (1, 8, 0, 0, []), (1, 8, 0, 0, []), (0, 2, 0, 0, [none, none, none, none, none, some 24, some 25, some 34, some 35, some 40, none, none, none, none]), (1, 8, 0, 0, []), (3, 26, 1, 8, []), (1, 9, 0, 0, []), (1, 9, 0, 0, []), (1, 9, 0, 0, []), (1, 9, 0, 0, []), (1, 9, 0, 0, []), (1, 9, 0, 0, []), (1, 9, 0, 0, []), (1, 9, 0, 0, []), (1, 4, 0, 0, []), (3, 36, 1, 4, []), (1, 4, 0, 0, []), (1, 4, 0, 0, []), (1, 4, 0, 0, []), (1, 4, 0, 0, []), (3, 41, 1, 4, []), (1, 8, 0, 0, []), (1, 8, 0, 0, []), (1, 8, 0, 0, []), (1, 8, 0, 0, []), (0, 7, 0, 0, [some 46, none]), (1, 24, 0, 0, []), (4, 48, 2, 4, []), (0, 5, 0, 0, [none, none, some 49]), (1, 24, 0, 0, []), (0, 5, 0, 0, [none, none, some 51]), (1, 24, 0, 0, []), (0, 5, 0, 0, [none, none, some 53]), (1, 24, 0, 0, []), (0, 5, 0, 0, [none, none, some 55]), (1, 24, 0, 0, []), (1, 16, 0, 0, []), (1, 18, 0, 0, []), (0, 6, 0, 0, [some 59, some 60, some 61, some 62, some 63, none, none, none, none, none, none]), (1, 8, 0, 0, []), (1, 8, 0, 0, []), (1, 8, 0, 0, []), (1, 5, 0, 0, []), (1, 5, 0, 0, []), (0, 0, 0, 0, [some 65, some 98, some 99, some 109, some 110, some 111, none, none, none]), (3, 66, 1, 32, []), (1, 4, 0, 0, []), (1, 4, 0, 0, []), (1, 4, 0, 0, []), (1, 4, 0, 0, []), (1, 4, 0, 0, []), (1, 4, 0, 0, []), (1, 4, 0, 0, []), (1, 4, 0, 0, []), (1, 4, 0, 0, []), (1, 4, 0, 0, []), (1, 4, 0, 0, []), (1, 4, 0, 0, []), (1, 4, 0, 0, []), (1, 4, 0, 0, []), (1, 4, 0, 0, []), (1, 4, 0, 0, []), (1, 4, 0, 0, []), (1, 4, 0, 0, []), (1, 4, 0, 0, []), (1, 4, 0, 0, []), (1, 4, 0, 0, []), (1, 4, 0, 0, []), (1, 4, 0, 0, []), (1, 4, 0, 0, []), (1, 4, 0, 0, []), (1, 4, 0, 0, []), (1, 4, 0, 0, []), (1, 4, 0, 0, []), (1, 4, 0, 0, []), (1, 4, 0, 0, []), (1, 4, 0, 0, []), (1, 4, 0, 0, []), (2, 32, 0, 0, []), (3, 100, 1, 9, []), (1, 4, 0, 0, []), (1, 4, 0, 0, []), (1, 4, 0, 0, []), (1, 4, 0, 0, []), (1, 4, 0, 0, []), (1, 4, 0, 0, []), (1, 4, 0, 0, []), (1, 4, 0, 0, []), (1, 4, 0, 0, []), (1, 4, 0, 0, []), (1, 8, 0, 0, []), (1, 8, 0, 0, []), (0, 4, 0, 0, [some 113, some 114, none, none]), (1, 256, 0, 0, []), (1, 8, 0, 0, []), (0, 3, 0, 0, [some 116, some 121, some 122, some 123, some 124, none, none, none, none]), (3, 117, 1, 4, []), (1, 9, 0, 0, []), (1, 9, 0, 0, []), (1, 9, 0, 0, []), (1, 9, 0, 0, []), (1, 4, 0, 0, []), (1, 9, 0, 0, []), (1, 3, 0, 0, []), (1, 3, 0, 0, []), (0, 1, 0, 0, [some 126, none, none, none]), (1, 9, 0, 0, []), (0, 9, 0, 0, [some 128, some 129, none, some 130, none, some 131, some 132, some 133, some 134, some 135, some 136, some 137, some 138, some 139, some 140, some 141]), (1, 141, 0, 0, []), (1, 141, 0, 0, []), (1, 24, 0, 0, []), (1, 4, 0, 0, []), (1, 4, 0, 0, []), (1, 96, 0, 0, []), (1, 8, 0, 0, []), (1, 8, 0, 0, []), (1, 8, 0, 0, []), (1, 128, 0, 0, []), (1, 4, 0, 0, []), (1, 18, 0, 0, []), (1, 9, 0, 0, []), (1, 9, 0, 0, [])]
def kx_sh (i : Nat) : kx_S := kx_shl.getD i (9, 0, 0, 0, [])
def kx_fs (ad : Nat → Nat) (f : Nat → Int32) : Nat → List (Option Nat) → List Value
  | _, [] => []
  | k, none :: r => .int (f k) :: kx_fs ad f (k + 1) r
  | k, some j :: r => .ref (ad j) :: kx_fs ad f (k + 1) r
theorem kx_fs_len (ad : Nat → Nat) (f : Nat → Int32) : ∀ (k : Nat) (l : List (Option Nat)), (kx_fs ad f k l).length = l.length
  | _, [] => rfl
  | k, none :: r => by simp [kx_fs, kx_fs_len ad f (k + 1) r]
  | k, some j :: r => by simp [kx_fs, kx_fs_len ad f (k + 1) r]
theorem kx_fs_int (ad : Nat → Nat) (f : Nat → Int32) : ∀ (k : Nat) (l : List (Option Nat)) (i : Nat), l[i]? = some none → (kx_fs ad f k l)[i]? = some (.int (f (k + i)))
  | _, [], i, h => by simp at h
  | k, none :: r, 0, h => by simp [kx_fs]
  | k, some j :: r, 0, h => by simp at h
  | k, none :: r, i + 1, h => by
    have h2 := kx_fs_int ad f (k + 1) r i (by simpa using h)
    simp only [kx_fs, List.getElem?_cons_succ, h2]
    rw [show k + 1 + i = k + (i + 1) by omega]
  | k, some j :: r, i + 1, h => by
    have h2 := kx_fs_int ad f (k + 1) r i (by simpa using h)
    simp only [kx_fs, List.getElem?_cons_succ, h2]
    rw [show k + 1 + i = k + (i + 1) by omega]
theorem kx_fs_ref (ad : Nat → Nat) (f : Nat → Int32) : ∀ (k : Nat) (l : List (Option Nat)) (i j : Nat), l[i]? = some (some j) → (kx_fs ad f k l)[i]? = some (.ref (ad j))
  | _, [], i, j, h => by simp at h
  | k, none :: r, 0, j, h => by simp at h
  | k, some j' :: r, 0, j, h => by simp at h; subst h; simp [kx_fs]
  | k, none :: r, i + 1, j, h => by
    simpa [kx_fs] using kx_fs_ref ad f (k + 1) r i j (by simpa using h)
  | k, some j' :: r, i + 1, j, h => by
    simpa [kx_fs] using kx_fs_ref ad f (k + 1) r i j (by simpa using h)
theorem kx_fs_cong (ad : Nat → Nat) (f g : Nat → Int32) : ∀ (k : Nat) (l : List (Option Nat)), (∀ j, k ≤ j → f j = g j) → kx_fs ad f k l = kx_fs ad g k l
  | _, [], _ => rfl
  | k, none :: r, h => by simp only [kx_fs]; rw [h k (Nat.le_refl k), kx_fs_cong ad f g (k + 1) r (fun j hj => h j (by omega))]
  | k, some j :: r, h => by simp only [kx_fs]; rw [kx_fs_cong ad f g (k + 1) r (fun j hj => h j (by omega))]
theorem kx_fs_set (ad : Nat → Nat) (f : Nat → Int32) (v : Int32) : ∀ (k : Nat) (l : List (Option Nat)) (i : Nat), l[i]? = some none → (kx_fs ad f k l).set i (.int v) = kx_fs ad (fun j => if j = k + i then v else f j) k l
  | _, [], i, h => by simp at h
  | k, none :: r, 0, h => by
    simp only [kx_fs, List.set_cons_zero, Nat.add_zero, if_true]
    rw [kx_fs_cong ad f (fun j => if j = k then v else f j) (k + 1) r (fun j hj => (if_neg (by omega : ¬ j = k)).symm)]
  | k, some j :: r, 0, h => by simp at h
  | k, none :: r, i + 1, h => by
    have h2 := kx_fs_set ad f v (k + 1) r i (by simpa using h)
    simp only [kx_fs, List.set_cons_succ, h2]
    rw [if_neg (by omega : ¬ k = k + (i + 1)), show k + 1 + i = k + (i + 1) by omega]
  | k, some j :: r, i + 1, h => by
    have h2 := kx_fs_set ad f v (k + 1) r i (by simpa using h)
    simp only [kx_fs, List.set_cons_succ, h2]
    rw [show k + 1 + i = k + (i + 1) by omega]
def kx_cell (ad : Nat → Nat) (c : ClassId) (f : Nat → Int32) (s : kx_S) : va_E :=
  if s.1 = 0 then .inr (s.2.1, kx_fs ad f 0 s.2.2.2.2)
  else if s.1 = 1 ∨ s.1 = 2 then .inl (c, s.2.1, .inl f)
  else .inl (c, s.2.2.2.1, .inr (.inr (.inr (.inr (fun j => some (ad (s.2.1 + s.2.2.1 * j)))))))
def kx_ty (i : Nat) : FieldType := if (kx_sh i).1 = 2 then .boolean else if (kx_sh i).1 = 3 then .array .int else if (kx_sh i).1 = 4 then .object "SpunTales$Sheet" else .int
def kx_wl (ad : Nat → Nat) (cA : Nat → ClassId) (h : kx_H) : va_W := (List.range 142).map (fun i => (ad i, kx_cell ad (cA i) (h i) (kx_sh i)))
def kx_tys (cA : Nat → ClassId) : List (ClassId × FieldType) := (List.range 142).map (fun i => (cA i, kx_ty i))
theorem kx_wl_at {ad : Nat → Nat} {cA : Nat → ClassId} {h : kx_H} {i : Nat} (hi : i < 142) : (kx_wl ad cA h)[i]? = some (ad i, kx_cell ad (cA i) (h i) (kx_sh i)) := by simp [kx_wl, hi]
theorem kx_tys_at {cA : Nat → ClassId} {i : Nat} (hi : i < 142) : (kx_tys cA)[i]? = some (cA i, kx_ty i) := by simp [kx_tys, hi]
theorem kx_wl_set {ad : Nat → Nat} {cA : Nat → ClassId} {h h' : kx_H} {i : Nat} (hi : i < 142) {e : va_E} (he : kx_cell ad (cA i) (h' i) (kx_sh i) = e) (ho : ∀ b, b ≠ i → h' b = h b) : (kx_wl ad cA h).set i (ad i, e) = kx_wl ad cA h' := by
  subst he
  apply List.ext_getElem?
  intro k
  rw [List.getElem?_set]
  by_cases hk : i = k
  · subst hk
    simp [kx_wl, hi]
  · simp only [hk, if_false]
    by_cases hk2 : k < 142
    · rw [kx_wl_at hk2, kx_wl_at hk2, ho k (fun e => hk e.symm)]
    · simp [kx_wl, hk2]
theorem kx_wl_D {ad : Nat → Nat} {cA : Nat → ClassId} {h : kx_H} {A : Nat → Prop} (hJ : ∀ i j, i < 142 → j < 142 → ad i = ad j → i = j) (hA : ∀ i, i < 142 → A (ad i)) : va_D A (kx_wl ad cA h) := by
  have hlt : ∀ (k : Nat) (q : Nat × va_E), (kx_wl ad cA h)[k]? = some q → k < 142 ∧ q.1 = ad k := by
    intro k q hq
    have hk : k < 142 := by
      have := (List.getElem?_eq_some_iff.mp hq).1
      simpa [kx_wl] using this
    rw [kx_wl_at hk] at hq
    cases hq
    exact ⟨hk, rfl⟩
  refine ⟨fun i j p q hp hq e => ?_, fun k q hq => ?_⟩
  · obtain ⟨h1, e1⟩ := hlt i p hp
    obtain ⟨h2, e2⟩ := hlt j q hq
    exact hJ i j h1 h2 (by rw [← e1, ← e2]; exact e)
  · obtain ⟨h1, e1⟩ := hlt k q hq
    rw [e1]
    exact hA k h1
/-! the words that every method gets -/
def kx_tb : List Cond := lw_tbl.filter goodWord
theorem kx_in {w : Cond} (h : w ∈ lw_tbl) (hg : goodWord w = true) : w ∈ kx_tb := List.mem_filter.mpr ⟨h, hg⟩
theorem kx_sub {w : Cond} (h : w ∈ kx_tb) : w ∈ lw_tbl := (List.mem_filter.mp h).1
theorem kx_goodIn {w : Cond} (h : w ∈ kx_tb) : GoodIn kx_tb (w :: kx_tb) := fun v hv => by
  rcases List.mem_cons.mp hv with rfl | hv
  · exact ⟨h, good_of_word (List.mem_filter.mp h).2⟩
  · exact ⟨hv, good_of_word (List.mem_filter.mp hv).2⟩
theorem kx_t1 {w : Cond} (i : Nat) (h : tables_1[i]? = some w) (hg : goodWord w = true) : w ∈ kx_tb := kx_in (List.mem_append_right _ (List.mem_of_getElem? h)) hg
theorem kx_t0 {w : Cond} (i : Nat) (h : (k2_sels lw_privs)[i]? = some w) (hg : goodWord w = true) : w ∈ kx_tb := kx_in (List.mem_append_left _ (List.mem_of_getElem? h)) hg

def kx_nest : List (String × Nat × MethodName × String) := [("SpunTales$Tape", 19, ⟨"SpunTales", "isWithin", "(III)Z"⟩, "SpunTales"), ("SpunTales$Hearth", 39, ⟨"SpunTales", "isWithin", "(III)Z"⟩, "SpunTales"), ("SpunTales$Hearth", 59, ⟨"SpunTales", "asToldBy", "(II)I"⟩, "SpunTales"), ("SpunTales$Hearth", 63, ⟨"SpunTales", "isRemembered", "(III)Z"⟩, "SpunTales"), ("SpunTales$Hearth", 104, ⟨"SpunTales", "sortOf", "(I)I"⟩, "SpunTales"), ("SpunTales$Hearth", 107, ⟨"SpunTales", "duller", "(I)I"⟩, "SpunTales"), ("SpunTales$StoreSearch", 74, ⟨"SpunTales", "sortOf", "(I)I"⟩, "SpunTales"), ("SpunTales$StoreSearch", 78, ⟨"SpunTales", "duller", "(I)I"⟩, "SpunTales"), ("SpunTales$StoreSearch", 87, ⟨"SpunTales", "isRemembered", "(III)Z"⟩, "SpunTales"), ("SpunTales$Game", 30, ⟨"SpunTales", "retell", "(I[I[II)V"⟩, "SpunTales"), ("SpunTales$Game", 44, ⟨"SpunTales", "sortOf", "(I)I"⟩, "SpunTales"), ("SpunTales$CoatSearch", 81, ⟨"SpunTales", "areSame", "([I[II)Z"⟩, "SpunTales"), ("SpunTales$RowReading", 53, ⟨"SpunTales", "sortOf", "(I)I"⟩, "SpunTales"), ("SpunTales$Passing", 62, ⟨"SpunTales", "areSame", "([I[II)Z"⟩, "SpunTales"), ("SpunTales$Passing", 69, ⟨"SpunTales", "retell", "(I[I[II)V"⟩, "SpunTales")]
def kx_Nw (U : State) : Prop := ∀ q ∈ kx_nest, va_Nw (.methodLinkNest q.1 q.2.1 q.2.2.1 q.2.2.2) U
theorem kx_Nw.warm {s U : State} (hW : s.WarmedH U.vm) (h : kx_Nw s) : kx_Nw U := fun q hq => va_Nw.warmM hW (h q hq)
def kx_Wd (D : va_G) (ad : Nat → Nat) (cA : Nat → ClassId) (h : kx_H) (U : State) : Prop := va_P D vwCl (kx_wl ad cA h) U.heap ∧ va_K D vwCl (kx_tys cA) U ∧ kx_Nw U
def kx_A (ad : Nat → Nat) (q : Nat) : Prop := ∃ i, i < 142 ∧ q = ad i
def kx_rm (dp : Nat) : Room := { frames := dp, cells := 0, slots := 0, locals := 40 * dp }
def kx_lv (ad : Nat → Nat) : Nat → List (Option Value) → List (Nat × Value)
  | _, [] => []
  | i, none :: L => kx_lv ad (i + 1) L
  | i, some v :: L => (i, kx_val ad v) :: kx_lv ad (i + 1) L
theorem kx_lv_mem {ad : Nat → Nat} {q : Nat × Value} : ∀ (L : List (Option Value)) (i : Nat), q ∈ kx_lv ad i L ↔ ∃ (k : Nat) (v : Value), L[k]? = some (some v) ∧ q = (i + k, kx_val ad v)
  | [], i => by simp [kx_lv]
  | none :: L, i => by
    rw [show kx_lv ad i (none :: L) = kx_lv ad (i + 1) L from rfl, kx_lv_mem L (i + 1)]
    constructor
    · rintro ⟨k, v, h, e⟩
      exact ⟨k + 1, v, by simpa using h, by rw [e]; simp; omega⟩
    · rintro ⟨k, v, h, e⟩
      cases k with
      | zero => simp at h
      | succ k => exact ⟨k, v, by simpa using h, by rw [e]; simp; omega⟩
  | some w :: L, i => by
    rw [show kx_lv ad i (some w :: L) = (i, kx_val ad w) :: kx_lv ad (i + 1) L from rfl, List.mem_cons, kx_lv_mem L (i + 1)]
    constructor
    · rintro (e | ⟨k, v, h, e⟩)
      · exact ⟨0, w, by simp, by simpa using e⟩
      · exact ⟨k + 1, v, by simpa using h, by rw [e]; simp; omega⟩
    · rintro ⟨k, v, h, e⟩
      cases k with
      | zero => simp at h; subst h; exact Or.inl (by simpa using e)
      | succ k => exact Or.inr ⟨k, v, by simpa using h, by rw [e]; simp; omega⟩
def kx_nl : List (Option Value) → Nat → Bool
  | _, 0 => true
  | L, k + 1 => match L[k]? with
    | some (some v) => v.category == 1
    | _ => true
theorem kx_lo_at {ls : Array Slot} {nL : Nat} {ad : Nat → Nat} {L : List (Option Value)} (h : lv_has ls nL (kx_lv ad 0 L)) {k : Nat} {v : Value} (hk : L[k]? = some (some v)) : ls[k]? = some (.val (kx_val ad v)) :=
  h.2.2 (k, kx_val ad v) ((kx_lv_mem L 0).mpr ⟨k, v, hk, by simp⟩)
theorem kx_lo_set {ls : Array Slot} {nL : Nat} {ad : Nat → Nat} {L : List (Option Value)} {i : Nat} {v : Value} (hn : kx_nl L i = true) (h : lv_has ls nL ((i, kx_val ad v) :: (kx_lv ad 0 L).filter (fun q => !(q.1 == i) && !(q.1 + 1 == i && q.2.category == 2)))) : lv_has ls nL (kx_lv ad 0 (L.set i (some v))) := by
  refine ⟨h.1, h.2.1, fun q hq => ?_⟩
  obtain ⟨k, w, hk, e⟩ := (kx_lv_mem _ 0).mp hq
  rw [Nat.zero_add] at e
  rw [List.getElem?_set] at hk
  by_cases hik : i = k
  · subst hik
    rw [if_pos rfl] at hk
    split at hk
    · cases hk
      exact h.2.2 q (by rw [e]; exact List.mem_cons_self)
    · cases hk
  · rw [if_neg hik] at hk
    refine h.2.2 q (List.mem_cons_of_mem _ (List.mem_filter.mpr ⟨(kx_lv_mem L 0).mpr ⟨k, w, hk, by rw [e]; simp⟩, ?_⟩))
    rw [e]
    have h1 : ¬ k = i := fun z => hik z.symm
    by_cases h2 : k + 1 = i
    · subst h2
      simp only [kx_nl, hk] at hn
      simp [kx_val_cat, beq_iff_eq.mp hn]
    · simp [h1, h2]
def kx_la : List Value → List (Option Value)
  | [] => []
  | v :: vs => if v.category = 2 then some v :: none :: kx_la vs else some v :: kx_la vs
def kx_l0 (nL : Nat) (vs : List Value) : List (Option Value) := kx_la vs ++ List.replicate (nL - (kx_la vs).length) none
theorem kx_lv_app (ad : Nat → Nat) (n : Nat) : ∀ (L : List (Option Value)) (i : Nat), kx_lv ad i (L ++ List.replicate n none) = kx_lv ad i L
  | [], i => by
    induction n generalizing i with
    | zero => rfl
    | succ n ih => rw [List.replicate_succ]; exact ih (i + 1)
  | none :: L, i => kx_lv_app ad n L (i + 1)
  | some v :: L, i => by
    show (i, kx_val ad v) :: kx_lv ad (i + 1) (L ++ List.replicate n none) = _
    rw [kx_lv_app ad n L (i + 1)]; rfl
theorem kx_lv_args (ad : Nat → Nat) : ∀ (vs : List Value) (i : Nat), kx_lv ad i (kx_la vs) = lv_args i (vs.map (kx_val ad))
  | [], i => rfl
  | v :: vs, i => by
    by_cases hc : v.category = 2
    · simp only [kx_la, hc, if_true, List.map_cons, lv_args, kx_val_cat, kx_lv]
      rw [kx_lv_args ad vs (i + 1 + 1)]
    · simp only [kx_la, hc, if_false, List.map_cons, lv_args, kx_val_cat, kx_lv]
      rw [kx_lv_args ad vs (i + 1)]
theorem kx_la_len : ∀ (vs : List Value), (kx_la vs).length = (lg_sl vs).length
  | [] => rfl
  | v :: vs => by
    have h := kx_la_len vs
    by_cases hc : v.category = 2
    · simp [kx_la, lg_sl, hc, h]
    · simp [kx_la, lg_sl, hc, h]
theorem kx_sl_len (ad : Nat → Nat) : ∀ (vs : List Value), (lg_sl (vs.map (kx_val ad))).length = (lg_sl vs).length
  | [] => rfl
  | v :: vs => by
    have h := kx_sl_len ad vs
    by_cases hc : v.category = 2 <;> (simp [lg_sl, kx_val_cat, hc] at h ⊢ ; try omega)
/-! a method that stands at an instruction: F pc locals stack heap -/
abbrev kx_F : Type := Nat → List (Option Value) → List Value → kx_H → Prop
def kx_Ru (own : String) (cc : ByteArray) (nL dp : Nat) (F : kx_F) : Prop :=
  ∃ (p : Program) (l : Launch) (e : Env) (R : Room) (s : State) (m : MethodId) (args : Array Value) (below : List Frame) (meth : Method) (c : Code) (cells slots : Nat) (Q : State → Prop) (D : va_G) (ad : Nat → Nat) (cA : Nat → ClassId) (A : Nat → Prop),
    (p.tables.exec = Jvm.exec ∧ c.code = cc ∧ c.maxLocals = nL ∧ s.vm.findClass own = some m.cls ∧ ∀ w ∈ kx_tb, w.before args s = true) ∧ kx_Nw s ∧ va_K D vwCl (kx_tys cA) s ∧ (∀ i j, i < 142 → j < 142 → ad i = ad j → i = j) ∧ (∀ i, i < 142 → A (ad i)) ∧ (dp ≤ R.frames ∧ 40 * dp ≤ R.locals ∧ cells ≤ R.cells ∧ slots ≤ R.slots) ∧
    F = fun pc L S h => ∀ (H : Heap) (locs : List Loc) (ls : Array Slot), va_P D vwCl (kx_wl ad cA h) H → va_S A s.heap H locs → lv_has ls nL (kx_lv ad 0 L) → W p l e R s m args below meth c H locs cells slots Q (F0 m pc ls (S.map (kx_val ad)))
def kx_MI (dp : Nat) (y : MethodName) (cc : ByteArray) (nL : Nat) (rt : FieldType) (as : List Value) (h : kx_H) (Q : Int32 → kx_H → Prop) : Prop :=
  ∀ (l : Launch) (D : va_G) (ad : Nat → Nat) (cA : Nat → ClassId), (∀ i j, i < 142 → j < 142 → ad i = ad j → i = j) →
    Met l y (.code y cc nL (some rt) :: kx_tb) (kx_rm dp) (va_Pc (as.map (kx_val ad)) (kx_Wd D ad cA h)) (va_Qi Q (kx_Wd D ad cA) (kx_A ad)) 0 0 (kx_A ad)
def kx_MV (dp : Nat) (y : MethodName) (cc : ByteArray) (nL : Nat) (as : List Value) (h : kx_H) (Q : kx_H → Prop) : Prop :=
  ∀ (l : Launch) (D : va_G) (ad : Nat → Nat) (cA : Nat → ClassId), (∀ i j, i < 142 → j < 142 → ad i = ad j → i = j) →
    Met l y (.code y cc nL none :: kx_tb) (kx_rm dp) (va_Pc (as.map (kx_val ad)) (kx_Wd D ad cA h)) (va_Qv Q (kx_Wd D ad cA) (kx_A ad)) 0 0 (kx_A ad)
set_option maxRecDepth 20000 in
theorem kx_mkI {dp : Nat} {y : MethodName} {cc : ByteArray} {nL : Nat} {rt : FieldType} {as : List Value} {h : kx_H} {Q : Int32 → kx_H → Prop} {own : String} {L0 : List (Option Value)} (hown : y.cls = own) (hpl : plainName y.cls = true) (hlen : (lg_sl as).length ≤ nL) (hL : kx_l0 nL as = L0)
    (body : ∀ F : kx_F, kx_Ru own cc nL dp F → (∀ {pc : Nat} {L : List (Option Value)} {r : Int32} {h' : kx_H}, decode cc pc = .ok (.ireturn, 1) → narrow rt (.int r) = .int r → Q r h' → F pc L [.int r] h') → F 0 L0 [] h) : kx_MI dp y cc nL rt as h Q := by
  intro l D ad cA hJ
  refine Met.ofW (cc := cc) (maxL := nL) (ret := some rt) hpl rfl ?_
  intro p e s m args below meth c s₁ B hml hv
  obtain ⟨rfl, hP, hK, hN⟩ := hv
  have hx := B.exec
  have hb := B.bytes
  have hr := B.returns
  have hts := atoms_spec (ws := .code y cc nL (some rt) :: kx_tb) B.pre
  have hown2 : s.vm.findClass own = some m.cls := by rw [← hown]; exact findClass_of_methodNamed B.named
  have hlocks := B.notSynchronized
  rw [lg_entry_eq]
  have hl := lv_entry (as.map (kx_val ad)) (n := nL) (by rw [kx_sl_len]; exact hlen)
  have C : kx_Ru own cc nL dp (fun pc L S h => ∀ (H : Heap) (locs : List Loc) (ls : Array Slot), va_P D vwCl (kx_wl ad cA h) H → va_S (kx_A ad) s.heap H locs → lv_has ls nL (kx_lv ad 0 L) → W p l e (headSpec (.code y cc nL (some rt) :: kx_tb) (kx_rm dp)).room s m (as.map (kx_val ad)).toArray below meth c H locs 0 0 (MQ below (va_Qi Q (kx_Wd D ad cA) (kx_A ad)) (as.map (kx_val ad)).toArray s 0 0 (kx_A ad)) (F0 m pc ls (S.map (kx_val ad)))) :=
    ⟨p, l, e, _, s, m, _, below, meth, c, 0, 0, _, D, ad, cA, kx_A ad, ⟨hx, hb, hml, hown2, fun w hw => hts w (List.mem_cons_of_mem _ hw)⟩, hN, hK, hJ, fun i hi => ⟨i, hi, rfl⟩, ⟨Nat.le_refl _, Nat.le_refl _, Nat.le_refl _, Nat.le_refl _⟩, rfl⟩
  refine body _ C ?_ s.heap [] _ hP va_S.rf ?_
  · intro pc L r h' d hn hq H locs ls hP' hS hl'
    exact W.zret hx hb hr hn (fun t ht hw => ⟨⟨r, h', rfl, hq, by rw [ht]; exact hP', va_K.moved hw.alike hK, hN.warm hw⟩, hS.F ht⟩) (fun q hq => hS.2.2 q hq) d
  · rw [← hL, kx_l0, kx_lv_app, kx_lv_args]
    exact hl
set_option maxRecDepth 20000 in
theorem kx_mkV {dp : Nat} {y : MethodName} {cc : ByteArray} {nL : Nat} {as : List Value} {h : kx_H} {Q : kx_H → Prop} {own : String} {L0 : List (Option Value)} (hown : y.cls = own) (hpl : plainName y.cls = true) (hlen : (lg_sl as).length ≤ nL) (hL : kx_l0 nL as = L0)
    (body : ∀ F : kx_F, kx_Ru own cc nL dp F → (∀ {pc : Nat} {L : List (Option Value)} {h' : kx_H}, decode cc pc = .ok (.return_, 1) → Q h' → F pc L [] h') → F 0 L0 [] h) : kx_MV dp y cc nL as h Q := by
  intro l D ad cA hJ
  refine Met.ofW (cc := cc) (maxL := nL) (ret := none) hpl rfl ?_
  intro p e s m args below meth c s₁ B hml hv
  obtain ⟨rfl, hP, hK, hN⟩ := hv
  have hx := B.exec
  have hb := B.bytes
  have hr := B.returns
  have hts := atoms_spec (ws := .code y cc nL none :: kx_tb) B.pre
  have hown2 : s.vm.findClass own = some m.cls := by rw [← hown]; exact findClass_of_methodNamed B.named
  have hlocks := B.notSynchronized
  rw [lg_entry_eq]
  have hl := lv_entry (as.map (kx_val ad)) (n := nL) (by rw [kx_sl_len]; exact hlen)
  have C : kx_Ru own cc nL dp (fun pc L S h => ∀ (H : Heap) (locs : List Loc) (ls : Array Slot), va_P D vwCl (kx_wl ad cA h) H → va_S (kx_A ad) s.heap H locs → lv_has ls nL (kx_lv ad 0 L) → W p l e (headSpec (.code y cc nL none :: kx_tb) (kx_rm dp)).room s m (as.map (kx_val ad)).toArray below meth c H locs 0 0 (MQ below (va_Qv Q (kx_Wd D ad cA) (kx_A ad)) (as.map (kx_val ad)).toArray s 0 0 (kx_A ad)) (F0 m pc ls (S.map (kx_val ad)))) :=
    ⟨p, l, e, _, s, m, _, below, meth, c, 0, 0, _, D, ad, cA, kx_A ad, ⟨hx, hb, hml, hown2, fun w hw => hts w (List.mem_cons_of_mem _ hw)⟩, hN, hK, hJ, fun i hi => ⟨i, hi, rfl⟩, ⟨Nat.le_refl _, Nat.le_refl _, Nat.le_refl _, Nat.le_refl _⟩, rfl⟩
  refine body _ C ?_ s.heap [] _ hP va_S.rf ?_
  · intro pc L h' d hq H locs ls hP' hS hl'
    exact W.vret hx hb hr (fun t ht hw => ⟨⟨h', rfl, hq, by rw [ht]; exact hP', va_K.moved hw.alike hK, hN.warm hw⟩, hS.F ht⟩) (fun q hq => hS.2.2 q hq) d
  · rw [← hL, kx_l0, kx_lv_app, kx_lv_args]
    exact hl

