/-! the world behind the two constructors, in the layer's order -/
def lw_pi (i : Nat) : Nat := if i < 48 then i else if i < 56 then i + 71 else if i < 127 then i - 8 else i
def lw_ad (b z i : Nat) : Nat := if i = 142 then b else z + lw_pi i
def lw_cA (K4 : Nat → ClassId) (i : Nat) : ClassId := if (kx_sh i).1 = 0 then K4 1 else K4 (kx_sh i).1
def lw_h0 : kx_H := fun i => if i < 127 then hk_8 (lw_pi i) else hk_98 (i - 127)
theorem lw_pi_inj {i j : Nat} (hi : i < 142) (hj : j < 142) (h : lw_pi i = lw_pi j) : i = j := by
  unfold lw_pi at h
  split at h <;> split at h <;> (try split at h) <;> (try split at h) <;> (try split at h) <;> (try split at h) <;> omega
theorem lw_ad_o {b z i : Nat} (hi : i < 142) : lw_ad b z i = z + lw_pi i := if_neg (by omega)
theorem lw_ad_inj {b z : Nat} : ∀ i j, i < 142 → j < 142 → lw_ad b z i = lw_ad b z j → i = j := fun i j hi hj h => by
  rw [lw_ad_o hi, lw_ad_o hj] at h
  exact lw_pi_inj hi hj (by omega)
def lw_ck (w : Nat) (s s2 : kx_S) : Bool := decide (s2.1 = s.1) && (if s.1 = 0 then decide (s2.2.1 = s.2.1) && (decide (s2.2.2.2.2.map (Option.map (fun k => w + k)) = s.2.2.2.2.map (Option.map lw_pi)) && s.2.2.2.2.all (fun q => decide (q.getD 0 < 142))) else if s.1 = 1 ∨ s.1 = 2 then decide (s2.2.1 = s.2.1) else decide (s2.2.2.2.1 = s.2.2.2.1) && (List.range s.2.2.2.1).all (fun j => decide (w + (s2.2.1 + s2.2.2.1 * j) = lw_pi (s.2.1 + s.2.2.1 * j)) && decide (s.2.1 + s.2.2.1 * j < 142)))
theorem lw_ck8 : (List.range 127).all (fun i => lw_ck 0 (kx_sh i) (kz_at sh_8 (lw_pi i)) && decide (lw_pi i < 127)) = true := by decide +kernel
theorem lw_ck9 : (List.range 15).all (fun i => lw_ck 127 (kx_sh (127 + i)) (kz_at sh_9 i)) = true := by decide +kernel
theorem lw_fs {b z w : Nat} (f : Nat → Int32) : ∀ (k : Nat) (l l2 : List (Option Nat)), l2.map (Option.map (fun k => w + k)) = l.map (Option.map lw_pi) → l.all (fun q => decide (q.getD 0 < 142)) = true → kx_fs (fun k => z + (w + k)) f k l2 = kx_fs (lw_ad b z) f k l
  | _, [], [], _, _ => rfl
  | _, [], _ :: _, h, _ => by simp at h
  | _, _ :: _, [], h, _ => by simp at h
  | k, q :: l, q2 :: l2, h, ha => by
    rw [List.map_cons, List.map_cons, List.cons.injEq] at h
    rw [List.all_cons, Bool.and_eq_true, decide_eq_true_eq] at ha
    have ih := lw_fs (b := b) (z := z) (w := w) f (k + 1) l l2 h.2 ha.2
    cases q with
    | none => cases q2 with
      | none => simp only [kx_fs, ih]
      | some j2 => simp at h
    | some j => cases q2 with
      | none => simp at h
      | some j2 =>
        have e : w + j2 = lw_pi j := Option.some.inj h.1
        have hj : j < 142 := ha.1
        simp only [kx_fs, ih, lw_ad_o hj, e]
theorem lw_at {D : va_G} {b z w A : Nat} {K4 : Nat → ClassId} {f : Nat → Int32} {s s2 : kx_S} {H : Heap} (hc : lw_ck w s s2 = true) (h : va_at D vwCl (A, kx_cell (fun k => z + (w + k)) (K4 s2.1) f s2) H) : va_at D vwCl (A, kx_cell (lw_ad b z) (if s.1 = 0 then K4 1 else K4 s.1) f s) H := by
  unfold lw_ck at hc
  rw [Bool.and_eq_true, decide_eq_true_eq] at hc
  obtain ⟨h1, hc⟩ := hc
  by_cases z0 : s.1 = 0
  · rw [if_pos z0] at hc
    rw [Bool.and_eq_true, Bool.and_eq_true, decide_eq_true_eq, decide_eq_true_eq] at hc
    rw [kx_cell_o (h1.trans z0)] at h
    rw [kx_cell_o z0, ← hc.1, ← lw_fs f 0 _ _ hc.2.1 hc.2.2]
    exact h
  · rw [if_neg z0] at hc
    rw [if_neg z0]
    by_cases z1 : s.1 = 1 ∨ s.1 = 2
    · rw [if_pos z1, decide_eq_true_eq] at hc
      rw [kx_cell_i (by rw [h1]; exact z1), hc, h1] at h
      rw [kx_cell_i z1]
      exact h
    · rw [if_neg z1, Bool.and_eq_true, decide_eq_true_eq] at hc
      have e2 : kx_cell (lw_ad b z) (K4 s.1) f s = .inl (K4 s.1, s.2.2.2.1, .inr (.inr (.inr (.inr (fun j => some (lw_ad b z (s.2.1 + s.2.2.1 * j))))))) := by unfold kx_cell; rw [if_neg z0, if_neg z1]
      have e1 : kx_cell (fun k => z + (w + k)) (K4 s2.1) f s2 = .inl (K4 s.1, s.2.2.2.1, .inr (.inr (.inr (.inr (fun j => some (z + (w + (s2.2.1 + s2.2.2.1 * j)))))))) := by unfold kx_cell; rw [if_neg (by rw [h1]; exact z0), if_neg (by rw [h1]; exact z1), hc.1, h1]
      rw [e1] at h
      rw [e2]
      refine kz_refs h (fun j hj => ?_)
      have := List.all_eq_true.mp hc.2 j (List.mem_range.mpr hj)
      rw [Bool.and_eq_true, decide_eq_true_eq, decide_eq_true_eq] at this
      rw [lw_ad_o this.2, ← this.1]
theorem lw_kad (z w : Nat) : kz_ad (z + w) (z + w + 1) = fun k => z + (w + k) := funext fun k => by
  unfold kz_ad
  split <;> omega
theorem lw_wk {D : va_G} {z w n k : Nat} {K4 : Nat → ClassId} {h : kx_H} {sh : List kx_S} {H : Heap} (h9 : va_P D vwCl (kz_r (kz_ad (z + w) (z + w + 1)) K4 h sh 0 n) H) (hk : k < n) : va_at D vwCl (z + (w + k), kx_cell (fun k => z + (w + k)) (K4 (kz_at sh k).1) (h k) (kz_at sh k)) H := by
  have e0 := h9 k _ (kz_r_at hk)
  have ea : kz_ad (z + w) (z + w + 1) k = z + (w + k) := by unfold kz_ad; split <;> omega
  unfold kz_c at e0
  rw [Nat.zero_add, ea, lw_kad z w] at e0
  exact e0
theorem lw_h0_8 {i : Nat} (h : i < 127) : lw_h0 i = hk_8 (lw_pi i) := if_pos h
theorem lw_h0_9 {w k : Nat} (h : w = 127) : lw_h0 (w + k) = hk_98 k := by
  unfold lw_h0
  rw [if_neg (by omega), show w + k - 127 = k by omega]
theorem lw_pi_9 {w k : Nat} (h : w = 127) : lw_pi (w + k) = w + k := by unfold lw_pi; rw [if_neg (by omega), if_neg (by omega), if_neg (by omega)]
theorem lw_wl9 {D : va_G} {b z w k : Nat} {K4 : Nat → ClassId} {H : Heap} (hw : w = 127) (hk : k < 15) (h9 : va_P D vwCl (kz_r (kz_ad (z + w) (z + w + 1)) K4 hk_98 sh_9 0 15) H) : va_at D vwCl (z + lw_pi (w + k), kx_cell (lw_ad b z) (lw_cA K4 (w + k)) (lw_h0 (w + k)) (kx_sh (w + k))) H := by
  have hc : lw_ck w (kx_sh (w + k)) (kz_at sh_9 k) = true := by rw [hw]; exact List.all_eq_true.mp lw_ck9 k (List.mem_range.mpr hk)
  rw [lw_pi_9 hw, lw_h0_9 hw]
  exact lw_at (b := b) hc (lw_wk h9 hk)
theorem lw_wl8 {D : va_G} {b z i : Nat} {K4 : Nat → ClassId} {H : Heap} (hi : i < 127) (h8 : va_P D vwCl (kz_r (kz_ad (z + 0) (z + 0 + 1)) K4 hk_8 sh_8 0 127) H) : va_at D vwCl (z + lw_pi i, kx_cell (lw_ad b z) (lw_cA K4 i) (lw_h0 i) (kx_sh i)) H := by
  have hc := List.all_eq_true.mp lw_ck8 i (List.mem_range.mpr hi)
  rw [Bool.and_eq_true, decide_eq_true_eq] at hc
  have e := lw_wk h8 hc.2
  have e2 := lw_at (b := b) hc.1 e
  rw [show z + (0 + lw_pi i) = z + lw_pi i by omega] at e2
  rw [lw_h0_8 hi]
  exact e2
theorem lw_world {D : va_G} {b z w : Nat} {K4 : Nat → ClassId} {H : Heap} (hw : w = 127) (h8 : va_P D vwCl (kz_r (kz_ad z (z + 1)) K4 hk_8 sh_8 0 127) H) (h9 : va_P D vwCl (kz_r (kz_ad (z + w) (z + w + 1)) K4 hk_98 sh_9 0 15) H) : va_P D vwCl (kx_wl (lw_ad b z) (lw_cA K4) lw_h0) H := by
  intro i q hq
  have hi : i < 142 := by
    have := (List.getElem?_eq_some_iff.mp hq).1
    simpa [kx_wl] using this
  rw [kx_wl_at hi] at hq
  cases hq
  rw [lw_ad_o hi]
  rcases Nat.lt_or_ge i 127 with z1 | z1
  · exact lw_wl8 z1 h8
  · obtain ⟨k, rfl⟩ : ∃ k, i = w + k := ⟨i - w, by omega⟩
    exact lw_wl9 hw (by omega) h9
theorem lw_kinds : (List.range 142).all (fun i => decide ((kx_sh i).1 ≤ 4)) = true := by decide +kernel
theorem lw_tys {D : va_G} {K4 : Nat → ClassId} {s : State} (hK : va_K D vwCl (kz_K K4) s) : va_K D vwCl (kx_tys (lw_cA K4)) s := by
  refine ⟨hK.1, fun i q hq => ?_⟩
  have hi : i < 142 := by
    have := (List.getElem?_eq_some_iff.mp hq).1
    simpa [kx_tys] using this
  rw [kx_tys_at hi] at hq
  cases hq
  have h4 := of_decide_eq_true (List.all_eq_true.mp lw_kinds i (List.mem_range.mpr hi))
  unfold lw_cA kx_ty
  rcases (show (kx_sh i).1 = 0 ∨ (kx_sh i).1 = 1 ∨ (kx_sh i).1 = 2 ∨ (kx_sh i).1 = 3 ∨ (kx_sh i).1 = 4 by omega) with e | e | e | e | e
  · rw [e]; exact hK.2 0 _ rfl
  · rw [e]; exact hK.2 0 _ rfl
  · rw [e]; exact hK.2 1 _ rfl
  · rw [e]; exact hK.2 2 _ rfl
  · rw [e]; exact hK.2 3 _ rfl
/-! the invariant at the start -/
def lw_a0 (k : Nat) : Nat := if k = 8 then 20 else 0
theorem lw_a0_o {k : Nat} (h : k ≠ 8) : lw_a0 k = 0 := if_neg h
theorem lw_h0_c {d j : Nat} (h : d < 48) (h1 : d ≠ 1 ∨ (j ≠ 4 ∧ j ≠ 10)) (h2 : d ≠ 23 ∨ (j ≠ 4 ∧ j ≠ 10)) : lw_h0 d j = 0 := by
  have e : lw_h0 d = hk_8 (lw_pi d) := if_pos (by omega)
  have hp : lw_pi d = d := if_pos h
  rw [e, hp]
  unfold hk_8
  rw [if_neg (by omega), if_neg (by omega), if_neg (by omega)]
theorem lw_h0_s {d j : Nat} (h : 48 ≤ d) (h2 : d < 56) : lw_h0 d j = if d % 2 = 0 ∧ j = 0 then -1 else 0 := by
  have e : lw_h0 d = hk_8 (lw_pi d) := if_pos (by omega)
  have hp : lw_pi d = d + 71 := by unfold lw_pi; rw [if_neg (by omega), if_pos h2]
  rw [e, hp]
  unfold hk_8
  rw [if_neg (by omega), if_neg (by omega)]
  exact kx_ifx (by omega) _ _
theorem lw_h0_m {d : Nat} (h : 127 ≤ d) : lw_h0 d = hk_98 (d - 127) := if_neg (by omega)
theorem lw_hk {d j : Nat} (h1 : d ≠ 1 ∨ (j ≠ 4 ∧ j ≠ 5 ∧ j ≠ 6 ∧ j ≠ 8)) (h2 : d ≠ 4 ∨ 4 ≤ j) : hk_98 d j = 0 := by
  simp only [hk_98, hk_97, hk_96, hk_95, hk_94, hk_93, hk_92, hk_91, hk_90, kx_up]
  rw [if_neg (by omega), if_neg (by omega), if_neg (by omega), if_neg (by omega), if_neg (by omega), if_neg (by omega), if_neg (by omega), if_neg (by omega)]
theorem lw_B0 : st_B lw_a0 := by
  have e : ∀ k, k ≠ 8 → lw_a0 k = 0 := fun k hk => lw_a0_o hk
  refine ⟨⟨?_, ?_, ?_, ?_, ?_, ?_⟩, ⟨fun u hu => ?_, fun u j hu hj => ?_, fun u hu => ?_⟩, fun u hu => ?_, fun s2 k2 hs2 hk2 => ?_, fun s2 u hs2 hu => ?_, fun s2 h1 h2 => ⟨fun k2 hk2 => ?_, fun u hu => ?_⟩, fun h4 => ?_⟩
  · decide
  · decide
  · decide
  · decide
  · decide
  · decide
  · rw [e _ (by omega)]; omega
  · rw [e _ (by omega)]; omega
  · rw [e _ (by omega)]; omega
  · rw [e 0 (by omega)] at hu; omega
  · rw [e _ (by omega)]; omega
  · rw [e _ (by omega)]; omega
  · exact e _ (by omega)
  · exact e _ (by omega)
  · rw [e 4 (by omega)] at h4; omega
theorem lw_I0 : iv_I lw_h0 := by
  refine ⟨lw_a0, none, 0, fun _ => 0, fun _ => 0, fun _ => 0, fun _ _ => 0, lw_B0, trivial, ⟨⟨⟨?_, ?_, ?_, ?_, ?_⟩, ⟨fun t ht => ?_, fun t i ht hi => ?_, fun u hu => ?_⟩, fun s k hs hk => ?_, fun s t hs ht => ?_, ?_⟩, ?_, ⟨?_, by omega, fun k hk => ?_, fun k hk => (by decide : (0 : Nat) < 128)⟩, fun j hj => ⟨Or.inl ⟨rfl, ?_⟩, ⟨?_, (by decide : (0 : Nat) ≤ 24)⟩, fun k hk => ?_⟩⟩, ⟨fun k hk k4 k5 k6 => ?_, Or.inl ⟨rfl, ?_, ?_, ?_⟩⟩, ?_, ⟨?_, by omega, fun k hk => ?_, fun k hk => (by decide : (0 : Nat) < 128)⟩, fun j hj => ⟨Or.inl ⟨rfl, ?_⟩, (by decide : (0 : Nat) ≤ 24), fun k hk => ?_⟩⟩
  · exact lw_h0_c (by omega) (by omega) (by omega)
  · exact lw_h0_c (by omega) (by omega) (by omega)
  · exact lw_h0_c (by omega) (by omega) (by omega)
  · exact lw_h0_c (by omega) (by omega) (by omega)
  · decide
  · rw [lw_a0_o (by omega)]; exact lw_h0_c (by omega) (by omega) (by omega)
  · rw [lw_a0_o (by omega)]; exact lw_h0_c (by omega) (by omega) (by omega)
  · rw [lw_a0_o (by omega)]; exact lw_h0_c (by omega) (by omega) (by omega)
  · rw [lw_a0_o (by omega)]; exact lw_h0_c (by omega) (by omega) (by omega)
  · rw [lw_a0_o (by omega)]; exact lw_h0_c (by omega) (by omega) (by omega)
  · exact Or.inl ⟨rfl, by decide⟩
  · exact lw_h0_c (by omega) (by omega) (by omega)
  · exact lw_h0_c (by omega) (by omega) (by omega)
  · exact lw_h0_c (by omega) (by omega) (by omega)
  · rw [lw_h0_s (by omega) (by omega), if_pos (by omega)]
  · rw [lw_h0_s (by omega) (by omega), if_neg (by omega)]; rfl
  · rw [lw_h0_s (by omega) (by omega), if_neg (by omega)]
  · rw [lw_h0_m (by omega)]
    by_cases z : k = 8
    · subst z; decide
    · rw [lw_a0_o z]; exact lw_hk (by omega) (by omega)
  · decide
  · decide
  · decide
  · exact (congrFun (lw_h0_m (by omega)) 2).trans (lw_hk (by omega) (by omega))
  · rw [lw_h0_m (by omega)]; exact lw_hk (by omega) (by omega)
  · rw [lw_h0_m (by omega)]; exact lw_hk (by omega) (by omega)
  · rcases (show j = 0 ∨ j = 1 ∨ j = 2 ∨ j = 3 by omega) with rfl | rfl | rfl | rfl <;> decide
  · rw [lw_h0_m (by omega)]; exact lw_hk (by omega) (by omega)
theorem lw_nst : ∀ q ∈ kx_nest, Cond.methodLinkNest q.1 q.2.1 q.2.2.1 q.2.2.2 ∈ lw_tbl := by decide +kernel
theorem lw_nst8 : ∀ q ∈ kz_nest8, Cond.methodLinkNest q.1 q.2.1 q.2.2.1 q.2.2.2 ∈ lw_tbl := by decide +kernel
