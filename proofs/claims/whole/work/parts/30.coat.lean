/-! coats: the first row of m tales, from tale t on (r are left), that covers what is needed -/
def ct_cov (need : Nat → Int) : Bool := decide (need 0 ≤ 0 ∧ need 1 ≤ 0 ∧ need 2 ≤ 0 ∧ need 3 ≤ 0)
def ct_fe (g : Nat → Option (List Nat)) : Nat → Option (List Nat)
  | 0 => none
  | e + 1 => (ct_fe g e).or (g e)
def ct_fn (E : Nat) (y : Nat → Nat → Nat → Nat) : Nat → Nat → Nat → (Nat → Int) → Option (List Nat)
  | 0, m, _, need => if m = 0 ∧ ct_cov need = true then some [] else none
  | r + 1, m, t, need => if m = 0 then (if ct_cov need = true then some [] else none) else (ct_fe (fun e => (ct_fn E y r (m - 1) (t + 1) (fun k => need k - (y t e k : Int))).map (fun l => (10 * t + e) :: l)) E).or (ct_fn E y r m (t + 1) need)
/-- the least m below b with an answer -/
def ct_rs (H : Nat → Option (List Nat)) : Nat → Option (Nat × List Nat)
  | 0 => none
  | b + 1 => (ct_rs H b).or ((H b).map (fun l => (b, l)))
theorem ct_rs_none {H : Nat → Option (List Nat)} : ∀ {b : Nat}, ct_rs H b = none ↔ ∀ m, m < b → H m = none
  | 0 => ⟨fun _ m hm => absurd hm (by omega), fun _ => rfl⟩
  | b + 1 => by
    have ih := ct_rs_none (H := H) (b := b)
    unfold ct_rs
    rw [Option.or_eq_none_iff, ih, Option.map_eq_none_iff]
    constructor
    · intro h m hm
      rcases Nat.lt_or_ge m b with q | q
      · exact h.1 m q
      · rw [show m = b by omega]; exact h.2
    · intro h
      exact ⟨fun m hm => h m (by omega), h b (by omega)⟩
theorem ct_rs_at {H : Nat → Option (List Nat)} {m : Nat} {l : List Nat} (h1 : H m = some l) (h2 : ∀ i, i < m → H i = none) : ∀ {b : Nat}, m < b → ct_rs H b = some (m, l)
  | 0, h => absurd h (by omega)
  | b + 1, h => by
    unfold ct_rs
    rcases Nat.lt_or_ge m b with q | q
    · rw [ct_rs_at h1 h2 q]; rfl
    · rw [show m = b by omega] at h1 h2 ⊢
      rw [ct_rs_none.mpr h2, h1]; rfl
theorem ct_rs_some {H : Nat → Option (List Nat)} : ∀ {b m : Nat} {l : List Nat}, ct_rs H b = some (m, l) → m < b ∧ H m = some l ∧ ∀ i, i < m → H i = none
  | 0, m, l, h => by cases h
  | b + 1, m, l, h => by
    unfold ct_rs at h
    cases q : ct_rs H b with
    | none =>
      rw [q, Option.none_or, Option.map_eq_some_iff] at h
      obtain ⟨l2, e1, e2⟩ := h
      cases e2
      exact ⟨by omega, e1, ct_rs_none.mp q⟩
    | some x =>
      rw [q, Option.some_or] at h
      cases h
      obtain ⟨h1, h2⟩ := ct_rs_some q
      exact ⟨by omega, h2⟩
def ct_nx (x : Option (Nat × List Nat)) (K : Nat → Option (List Nat)) (b : Nat) : Option (Nat × List Nat) := match x with
  | none => ct_rs K b
  | some (m, l) => match ct_rs K m with
    | some z => some z
    | none => some (m, l)
/-- two kinds of rows, the first ahead: one behind the other -/
theorem ct_rs_or {H K : Nat → Option (List Nat)} {b : Nat} : ct_rs (fun m => (H m).or (K m)) b = ct_nx (ct_rs H b) K b := by
  cases q : ct_rs H b with
  | none =>
    have hn := ct_rs_none.mp q
    show _ = ct_rs K b
    cases p : ct_rs K b with
    | none =>
      rw [ct_rs_none]
      intro m hm
      rw [hn m hm, ct_rs_none.mp p m hm]; rfl
    | some z =>
      obtain ⟨m, l⟩ := z
      obtain ⟨h1, h2, h3⟩ := ct_rs_some p
      exact ct_rs_at (by rw [hn m h1, h2]; rfl) (fun i hi => by rw [hn i (by omega), h3 i hi]; rfl) h1
  | some x =>
    obtain ⟨m, l⟩ := x
    obtain ⟨h1, h2, h3⟩ := ct_rs_some q
    show _ = (match ct_rs K m with | some z => some z | none => some (m, l))
    cases p : ct_rs K m with
    | none =>
      have hk := ct_rs_none.mp p
      exact ct_rs_at (by rw [h2]; rfl) (fun i hi => by rw [h3 i hi, hk i hi]; rfl) h1
    | some z =>
      obtain ⟨m2, l2⟩ := z
      obtain ⟨g1, g2, g3⟩ := ct_rs_some p
      exact ct_rs_at (by rw [h3 m2 g1, g2]; rfl) (fun i hi => by rw [h3 i (by omega), g3 i hi]; rfl) (by omega)
theorem ct_rs_shift {G : Nat → Option (List Nat)} {c : Nat} : ∀ {b : Nat}, ct_rs (fun m => if m = 0 then none else (G (m - 1)).map (fun l => c :: l)) b = (ct_rs G (b - 1)).map (fun z => (z.1 + 1, c :: z.2)) := by
  intro b
  cases q : ct_rs G (b - 1) with
  | none =>
    have hn := ct_rs_none.mp q
    show _ = none
    rw [ct_rs_none]
    intro m hm
    by_cases z : m = 0
    · rw [if_pos z]
    · rw [if_neg z, hn (m - 1) (by omega)]; rfl
  | some x =>
    obtain ⟨m, l⟩ := x
    obtain ⟨h1, h2, h3⟩ := ct_rs_some q
    show _ = some (m + 1, c :: l)
    refine ct_rs_at (by rw [if_neg (by omega), Nat.add_sub_cancel, h2]; rfl) (fun i hi => ?_) (by omega)
    by_cases z : i = 0
    · rw [if_pos z]
    · rw [if_neg z, h3 (i - 1) (by omega)]; rfl
/-- rows that begin with tale t and one of the first j tellers -/
def ct_H (E : Nat) (y : Nat → Nat → Nat → Nat) (r t : Nat) (need : Nat → Int) (j : Nat) : Nat → Option (List Nat) := fun m => if m = 0 then none else ct_fe (fun e => (ct_fn E y r (m - 1) (t + 1) (fun k => need k - (y t e k : Int))).map (fun l => (10 * t + e) :: l)) j
theorem ct_H_succ {E : Nat} {y : Nat → Nat → Nat → Nat} {r t : Nat} {need : Nat → Int} {j : Nat} : ct_H E y r t need (j + 1) = fun m => (ct_H E y r t need j m).or ((fun m => if m = 0 then none else (ct_fn E y r (m - 1) (t + 1) (fun k => need k - (y t j k : Int))).map (fun l => (10 * t + j) :: l)) m) := by
  funext m
  unfold ct_H
  by_cases z : m = 0
  · simp [z]
  · simp only [z, if_false]
    rfl
theorem ct_fe_some {g : Nat → Option (List Nat)} : ∀ {j e : Nat}, e < j → g e ≠ none → ct_fe g j ≠ none
  | 0, e, h, _ => absurd h (by omega)
  | j + 1, e, h, hg => by
    unfold ct_fe
    rw [Ne, Option.or_eq_none_iff]
    intro z
    rcases Nat.lt_or_ge e j with q | q
    · exact ct_fe_some q hg z.1
    · rw [show e = j by omega] at hg; exact hg z.2
theorem ct_fe_cong {f g : Nat → Option (List Nat)} : ∀ {j : Nat}, (∀ e, e < j → f e = g e) → ct_fe f j = ct_fe g j
  | 0, _ => rfl
  | j + 1, h => by unfold ct_fe; rw [ct_fe_cong (fun e he => h e (by omega)), h j (by omega)]
theorem ct_fn_need {E : Nat} {y : Nat → Nat → Nat → Nat} : ∀ {r m t : Nat} {n1 n2 : Nat → Int}, (∀ k, k < 4 → n1 k = n2 k) → ct_fn E y r m t n1 = ct_fn E y r m t n2
  | 0, m, t, n1, n2, h => by
    have e : ct_cov n1 = ct_cov n2 := by unfold ct_cov; rw [h 0 (by omega), h 1 (by omega), h 2 (by omega), h 3 (by omega)]
    unfold ct_fn
    rw [e]
  | r + 1, m, t, n1, n2, h => by
    have e : ct_cov n1 = ct_cov n2 := by unfold ct_cov; rw [h 0 (by omega), h 1 (by omega), h 2 (by omega), h 3 (by omega)]
    unfold ct_fn
    rw [e, ct_fn_need (r := r) h, ct_fe_cong (fun e _ => by rw [ct_fn_need (r := r) (n1 := fun k => n1 k - (y t e k : Int)) (n2 := fun k => n2 k - (y t e k : Int)) (fun k hk => by rw [h k hk])])]
/-- a teller by whom the tale gives what it gives by an earlier one adds nothing -/
theorem ct_H_old {E : Nat} {y : Nat → Nat → Nat → Nat} {r t : Nat} {need : Nat → Int} {j e : Nat} (he : e < j) (hy : ∀ k, k < 4 → y t e k = y t j k) : ct_H E y r t need (j + 1) = ct_H E y r t need j := by
  rw [ct_H_succ]
  funext m
  have hH : ct_H E y r t need j m = if m = 0 then none else ct_fe (fun e => (ct_fn E y r (m - 1) (t + 1) (fun k => need k - (y t e k : Int))).map (fun l => (10 * t + e) :: l)) j := rfl
  by_cases z : m = 0
  · simp [hH, z]
  · simp only [z, if_false] at hH ⊢
    cases q : ct_fn E y r (m - 1) (t + 1) (fun k => need k - (y t j k : Int)) with
    | none => simp
    | some l =>
      have h1 : ct_fe (fun e => (ct_fn E y r (m - 1) (t + 1) (fun k => need k - (y t e k : Int))).map (fun l => (10 * t + e) :: l)) j ≠ none := by
        refine ct_fe_some he ?_
        try dsimp only
        rw [ct_fn_need (n2 := fun k => need k - (y t j k : Int)) (fun k hk => by rw [hy k hk]), q]
        simp
      rw [hH]
      cases p : ct_fe (fun e => (ct_fn E y r (m - 1) (t + 1) (fun k => need k - (y t e k : Int))).map (fun l => (10 * t + e) :: l)) j with
      | none => exact absurd p h1
      | some x => rfl
theorem ct_H_0 {E : Nat} {y : Nat → Nat → Nat → Nat} {r t : Nat} {need : Nat → Int} {b : Nat} : ct_rs (ct_H E y r t need 0) b = none := by
  rw [ct_rs_none]
  intro m _
  unfold ct_H
  split <;> rfl
theorem ct_fn_split {E : Nat} {y : Nat → Nat → Nat → Nat} {r t : Nat} {need : Nat → Int} (hc : ct_cov need = false) : (fun m => ct_fn E y (r + 1) m t need) = fun m => (ct_H E y r t need E m).or (ct_fn E y r m (t + 1) need) := by
  funext m
  unfold ct_H
  by_cases z : m = 0
  · subst z
    have h1 : ct_fn E y r 0 (t + 1) need = none := by
      cases r with
      | zero => unfold ct_fn; rw [hc]; rfl
      | succ r => unfold ct_fn; rw [hc]; rfl
    rw [h1]
    show ct_fn E y (r + 1) 0 t need = _
    unfold ct_fn
    rw [hc]; rfl
  · rw [show ct_fn E y (r + 1) m t need = if m = 0 then (if ct_cov need = true then some [] else none) else (ct_fe (fun e => (ct_fn E y r (m - 1) (t + 1) (fun k => need k - (y t e k : Int))).map (fun l => (10 * t + e) :: l)) E).or (ct_fn E y r m (t + 1) need) from rfl]
    rw [if_neg z, if_neg z]
/-- the most of a sort that the r tales from t on could give -/
def ct_hp (E : Nat) (y : Nat → Nat → Nat → Nat) : Nat → Nat → Nat → Nat
  | 0, _, _ => 0
  | r + 1, t, k => ct_hp E y r (t + 1) k + sp_mx (fun e => y t e k) E
theorem ct_fe_ex {g : Nat → Option (List Nat)} : ∀ {j : Nat} {l : List Nat}, ct_fe g j = some l → ∃ e, e < j ∧ g e = some l
  | 0, l, h => by cases h
  | j + 1, l, h => by
    unfold ct_fe at h
    cases q : ct_fe g j with
    | none => rw [q, Option.none_or] at h; exact ⟨j, by omega, h⟩
    | some x =>
      rw [q, Option.some_or] at h
      obtain ⟨e, h1, h2⟩ := ct_fe_ex q
      exact ⟨e, by omega, by rw [h2]; exact h⟩
theorem ct_fn_hope {E : Nat} {y : Nat → Nat → Nat → Nat} : ∀ {r m t : Nat} {need : Nat → Int} {l : List Nat}, ct_fn E y r m t need = some l → (∀ k, k < 4 → need k ≤ (ct_hp E y r t k : Int)) ∧ l.length = m ∧ m ≤ r
  | 0, m, t, need, l, h => by
    unfold ct_fn at h
    split at h
    · next q =>
      cases h
      have hc := q.2
      simp only [ct_cov, decide_eq_true_eq] at hc
      refine ⟨fun k hk => ?_, q.1.symm, by omega⟩
      rcases (show k = 0 ∨ k = 1 ∨ k = 2 ∨ k = 3 by omega) with rfl | rfl | rfl | rfl <;> simp only [ct_hp] <;> omega
    · cases h
  | r + 1, m, t, need, l, h => by
    rw [show ct_fn E y (r + 1) m t need = if m = 0 then (if ct_cov need = true then some [] else none) else (ct_fe (fun e => (ct_fn E y r (m - 1) (t + 1) (fun k => need k - (y t e k : Int))).map (fun l => (10 * t + e) :: l)) E).or (ct_fn E y r m (t + 1) need) from rfl] at h
    have hpk : ∀ k, ct_hp E y (r + 1) t k = ct_hp E y r (t + 1) k + sp_mx (fun e => y t e k) E := fun k => rfl
    split at h
    · next z =>
      split at h
      · next q =>
        cases h
        simp only [ct_cov, decide_eq_true_eq] at q
        refine ⟨fun k hk => ?_, z.symm, by omega⟩
        rcases (show k = 0 ∨ k = 1 ∨ k = 2 ∨ k = 3 by omega) with rfl | rfl | rfl | rfl <;> omega
      · cases h
    · next z =>
      cases q : ct_fe (fun e => (ct_fn E y r (m - 1) (t + 1) (fun k => need k - (y t e k : Int))).map (fun l => (10 * t + e) :: l)) E with
      | none =>
        rw [q, Option.none_or] at h
        obtain ⟨h1, h2, h3⟩ := ct_fn_hope h
        exact ⟨fun k hk => by have := h1 k hk; rw [hpk]; omega, h2, by omega⟩
      | some x =>
        rw [q, Option.some_or] at h
        cases h
        obtain ⟨e, he, h1⟩ := ct_fe_ex q
        rw [Option.map_eq_some_iff] at h1
        obtain ⟨l2, h2, h3⟩ := h1
        subst h3
        obtain ⟨h4, h5, h6⟩ := ct_fn_hope h2
        refine ⟨fun k hk => ?_, by simp [h5]; omega, by omega⟩
        have h7 := h4 k hk
        have h8 := sp_mx_ge (f := fun e => y t e k) he
        try dsimp only at h7 h8
        rw [hpk]
        omega
