/-! passed on: rows of k tellers as numbers -/
def sp_dg (E k x s : Nat) : Nat := x / E ^ (k - 1 - s) % E
def sp_pv (E : Nat) (dg : Nat → Nat) : Nat → Nat
  | 0 => 0
  | s + 1 => sp_pv E dg s * E + dg s
theorem sp_dg_pv {E : Nat} {dg : Nat → Nat} (hE : 0 < E) : ∀ {k : Nat}, (∀ s, s < k → dg s < E) → ∀ s, s < k → sp_dg E k (sp_pv E dg k) s = dg s
  | 0, _, s, hs => absurd hs (by omega)
  | k + 1, h, s, hs => by
    unfold sp_dg
    rcases Nat.lt_or_ge s k with q | q
    · have ih := sp_dg_pv hE (k := k) (fun s hs => h s (by omega)) s q
      unfold sp_dg at ih
      rw [show k + 1 - 1 - s = (k - 1 - s) + 1 by omega, Nat.pow_succ, Nat.mul_comm, ← Nat.div_div_eq_div_mul]
      rw [show sp_pv E dg (k + 1) / E = sp_pv E dg k by
        show (sp_pv E dg k * E + dg k) / E = _
        rw [Nat.mul_comm, Nat.mul_add_div hE, Nat.div_eq_of_lt (h k (by omega)), Nat.add_zero]]
      exact ih
    · rw [show k + 1 - 1 - s = 0 by omega, Nat.pow_zero, Nat.div_one, show s = k by omega]
      show (sp_pv E dg k * E + dg k) % E = _
      rw [Nat.mul_comm, Nat.mul_add_mod, Nat.mod_eq_of_lt (h k (by omega))]
theorem sp_pv_cong {E : Nat} {dg dg2 : Nat → Nat} : ∀ {k : Nat}, (∀ s, s < k → dg s = dg2 s) → sp_pv E dg k = sp_pv E dg2 k
  | 0, _ => rfl
  | k + 1, h => by
    show sp_pv E dg k * E + dg k = sp_pv E dg2 k * E + dg2 k
    rw [sp_pv_cong (fun s hs => h s (by omega)), h k (by omega)]
def sp_vr (a : Nat → Nat) (t n : Nat) (dg : Nat → Nat) : Nat → Nat → Nat
  | 0, i => a (9 + 9 * t + i)
  | s + 1, i => sp_by (a (89 + dg s)) (sp_vr a t n dg s (sp_ix (a (89 + dg s)) n i))
theorem sp_vr_cong {a : Nat → Nat} {t n : Nat} {dg dg2 : Nat → Nat} : ∀ {k : Nat}, (∀ s, s < k → dg s = dg2 s) → ∀ i, sp_vr a t n dg k i = sp_vr a t n dg2 k i
  | 0, _, _ => rfl
  | k + 1, h, i => by
    show sp_by (a (89 + dg k)) (sp_vr a t n dg k (sp_ix (a (89 + dg k)) n i)) = sp_by (a (89 + dg2 k)) (sp_vr a t n dg2 k (sp_ix (a (89 + dg2 k)) n i))
    rw [h k (by omega), sp_vr_cong (fun s hs => h s (by omega))]
theorem sp_ix_lt {k n i : Nat} (h : i < n) : sp_ix k n i < n := by unfold sp_ix; split <;> omega
theorem sp_vr_le {a : Nat → Nat} (hB : st_RB a) {t n : Nat} (ht : t < 8) (hn : n ≤ 9) {dg : Nat → Nat} : ∀ {k i : Nat}, i < n → sp_vr a t n dg k i ≤ 9
  | 0, i, hi => hB.2.1 t i ht (by omega)
  | k + 1, i, hi => sp_by_le (sp_vr_le hB ht hn (sp_ix_lt hi))
def sp_Px (a : Nat → Nat) (t k n : Nat) (v : Nat → Nat) (x : Nat) : Bool := sp_all (fun i => decide (sp_vr a t n (sp_dg (a 1) k x) k i = v i)) n
/-- what the passing holds while it searches -/
def st_PS (h : kx_H) (a v : Nat → Nat) (k n : Nat) : Prop := h 115 5 = nI (a 1) ∧ h 115 6 = nI n ∧ h 115 7 = nI k ∧ (∀ e, e < a 1 → h 121 e = nI (a (89 + e))) ∧ ∀ i, i < n → h 122 i = nI (v i)
def st_PC (h : kx_H) (a v : Nat → Nat) (t k n X : Nat) : Prop := h 115 8 = nI (sp_ct (sp_Px a t k n v) X) ∧ (0 < sp_ct (sp_Px a t k n v) X → ∀ s, s < k → h 124 s = nI (sp_dg (a 1) k (sp_fst (sp_Px a t k n v) X) s))
theorem st_PS.kept {h g : kx_H} {a v : Nat → Nat} {k n : Nat} (hs : st_PS h a v k n) (h1 : ∀ j, j ≠ 8 → g 115 j = h 115 j) (h2 : ∀ j, g 121 j = h 121 j) (h3 : ∀ j, g 122 j = h 122 j) : st_PS g a v k n := by
  obtain ⟨a1, a2, a3, a4, a5⟩ := hs
  exact ⟨by rw [h1 5 (by omega)]; exact a1, by rw [h1 6 (by omega)]; exact a2, by rw [h1 7 (by omega)]; exact a3, fun e he => by rw [h2]; exact a4 e he, fun i hi => by rw [h3]; exact a5 i hi⟩
set_option maxHeartbeats 4000000 in
set_option maxRecDepth 100000 in
theorem m_X3_keepRow {h : kx_H} {c k : Nat} (hc : h 115 8 = nI c) (hc2 : c < 1000) (hk : h 115 7 = nI k) (hk3 : k ≤ 3) : kx_MV 2 yX3_keepRow cX3_keepRow 1 [.ref 115] h (fun h1 => h1 115 8 = nI (c + 1) ∧ (∀ s, s < k → h1 124 s = if c = 0 then h 123 s else h 124 s) ∧ (∀ j, j ≠ 8 → h1 115 j = h 115 j) ∧ ∀ d j, d ≠ 115 → d ≠ 124 → h1 d j = h d j) := by
  refine kx_mkV (own := RX3) (L0 := [some (.ref 115)]) rfl (by decide +kernel) (Nat.le_of_ble_eq_true rfl) rfl (fun F C hR => ?_)
  refine kx_ald0 (pc := 0) C dX3_keepRow_0 ?_
  refine kx_geti (pc := 1) C fl_X3_29 fd_115_8 (by first | assumption | rfl) dX3_keepRow_1 ?_
  refine kx_if_neN (pc := 4) C 24 (by omega) dX3_keepRow_4 (by decide) (fun c4 => ?_) (fun c4 => ?_)
  · refine kx_ald0 (pc := 24) C dX3_keepRow_24 ?_
    refine kx_dup (pc := 25) C dX3_keepRow_25 rfl ?_
    refine kx_geti (pc := 26) C fl_X3_29 fd_115_8 (show _ = nI c by first | exact hc | (rw [kx_cp, if_neg (by omega)]; exact hc)) dX3_keepRow_26 ?_
    refine kx_iconst (pc := 29) C (v := nI 1) dX3_keepRow_29 (by decide) ?_
    first | refine kx_iaddN (pc := 30) C dX3_keepRow_30 ?_ | refine kx_iadd (pc := 30) C dX3_keepRow_30 ?_
    refine kx_puti (pc := 31) C fl_X3_29 fp_X3_8 fd_115_8 rfl rfl dX3_keepRow_31 ?_
    first
      | exact hR dX3_keepRow_34 ⟨by simp [kx_up], fun s hs => by rw [if_pos c4, kx_up, if_neg (by omega), kx_cp, if_pos (by omega), show 0 + (s - 0) = s by omega], fun j hj => by rw [kx_up, if_neg (by omega), kx_cp, if_neg (by omega)], fun d j h1 h2 => by rw [kx_up, if_neg (by omega), kx_cp, if_neg (by omega)]⟩
      | exact hR dX3_keepRow_34 ⟨by simp [kx_up], fun s hs => by rw [if_neg (by omega), kx_up, if_neg (by omega)], fun j hj => by rw [kx_up, if_neg (by omega)], fun d j h1 h2 => by rw [kx_up, if_neg (by omega)]⟩
  · refine kx_ald0 (pc := 7) C dX3_keepRow_7 ?_
    refine kx_getr (pc := 8) C fl_X3_23 fd_115_3 dX3_keepRow_8 ?_
    refine kx_iconst (pc := 11) C (v := nI 0) dX3_keepRow_11 (by decide) ?_
    refine kx_ald0 (pc := 12) C dX3_keepRow_12 ?_
    refine kx_getr (pc := 13) C fl_X3_26 fd_115_4 dX3_keepRow_13 ?_
    refine kx_iconst (pc := 16) C (v := nI 0) dX3_keepRow_16 (by decide) ?_
    refine kx_ald0 (pc := 17) C dX3_keepRow_17 ?_
    refine kx_geti (pc := 18) C fl_X3_45 fd_115_7 (by first | assumption | rfl) dX3_keepRow_18 ?_
    refine kx_cpy (pc := 21) C ac_X3_49 ia_123 ia_124 (by decide) (by omega) (by omega) (Nat.le_of_ble_eq_true rfl) dX3_keepRow_21 ?_
    refine kx_ald0 (pc := 24) C dX3_keepRow_24 ?_
    refine kx_dup (pc := 25) C dX3_keepRow_25 rfl ?_
    refine kx_geti (pc := 26) C fl_X3_29 fd_115_8 (show _ = nI c by first | exact hc | (rw [kx_cp, if_neg (by omega)]; exact hc)) dX3_keepRow_26 ?_
    refine kx_iconst (pc := 29) C (v := nI 1) dX3_keepRow_29 (by decide) ?_
    first | refine kx_iaddN (pc := 30) C dX3_keepRow_30 ?_ | refine kx_iadd (pc := 30) C dX3_keepRow_30 ?_
    refine kx_puti (pc := 31) C fl_X3_29 fp_X3_8 fd_115_8 rfl rfl dX3_keepRow_31 ?_
    first
      | exact hR dX3_keepRow_34 ⟨by simp [kx_up], fun s hs => by rw [if_pos c4, kx_up, if_neg (by omega), kx_cp, if_pos (by omega), show 0 + (s - 0) = s by omega], fun j hj => by rw [kx_up, if_neg (by omega), kx_cp, if_neg (by omega)], fun d j h1 h2 => by rw [kx_up, if_neg (by omega), kx_cp, if_neg (by omega)]⟩
      | exact hR dX3_keepRow_34 ⟨by simp [kx_up], fun s hs => by rw [if_neg (by omega), kx_up, if_neg (by omega)], fun j hj => by rw [kx_up, if_neg (by omega)], fun d j h1 h2 => by rw [kx_up, if_neg (by omega)]⟩
theorem sp_pw {E k : Nat} (hE : E ≤ 4) (hk : k ≤ 3) : E ^ k ≤ 64 := by
  rcases (show k = 0 ∨ k = 1 ∨ k = 2 ∨ k = 3 by omega) with rfl | rfl | rfl | rfl <;> rcases (show E = 0 ∨ E = 1 ∨ E = 2 ∨ E = 3 ∨ E = 4 by omega) with rfl | rfl | rfl | rfl | rfl <;> decide
theorem sp_pv_lt {E : Nat} {dg : Nat → Nat} : ∀ {s : Nat}, (∀ i, i < s → dg i < E) → sp_pv E dg s < E ^ s
  | 0, _ => by simp [sp_pv]
  | s + 1, h => by
    have h1 := sp_pv_lt (E := E) (dg := dg) (s := s) (fun i hi => h i (by omega))
    have h2 := h s (by omega)
    show sp_pv E dg s * E + dg s < E ^ s * E
    have h3 : (sp_pv E dg s + 1) * E ≤ E ^ s * E := Nat.mul_le_mul_right E h1
    rw [Nat.add_mul, Nat.one_mul] at h3
    omega
set_option maxHeartbeats 4000000 in
set_option maxRecDepth 100000 in
theorem m_X3_search {a v : Nat → Nat} {t k n : Nat} (hRB : st_RB a) (hE4 : a 1 ≤ 4) (ht : t < 8) (hk3 : k ≤ 3) (hn9 : n ≤ 9) (hv9 : ∀ i, i < n → v i ≤ 9) : ∀ (d step : Nat) (h : kx_H) (dg : Nat → Nat), step + d = k → (st_PS h a v k n) → (∀ s, s < step → dg s < a 1) → (∀ s, s < step → h 123 s = nI (dg s)) → (∀ i, i < n → h (117 + step) i = nI (sp_vr a t n dg step i)) → (st_PC h a v t k n (sp_pv (a 1) dg step * (a 1) ^ d)) → kx_MV (5 + d) yX3_search cX3_search 3 [.ref 115, .int (nI step)] h (fun h1 => st_PC h1 a v t k n ((sp_pv (a 1) dg step + 1) * (a 1) ^ d) ∧ (∀ s j, s ≤ step → h1 (117 + s) j = h (117 + s) j) ∧ (∀ s, s < step → h1 123 s = h 123 s) ∧ (∀ j, j ≠ 8 → h1 115 j = h 115 j) ∧ ∀ d j, d ≠ 115 → (d < 117 ∨ 120 < d) → d ≠ 123 → d ≠ 124 → h1 d j = h d j) := by
  intro d
  induction d with
  | zero =>
    intro step h dg hsd hPS hdg hrow hver hPC
    obtain ⟨p1, p2, p3, p4, p5⟩ := id hPS
    have ek : step = k := by omega
    subst ek
    rw [Nat.pow_zero, Nat.mul_one] at hPC
    have hx := sp_pv_lt hdg
    have hpw := sp_pw hE4 hk3
    have hct := sp_ct_le (sp_Px a t step n v) (sp_pv (a 1) dg step)
    have hE0 : 0 < step → 0 < a 1 := fun z => by have := hdg 0 z; omega
    have hdd : ∀ s, s < step → sp_dg (a 1) step (sp_pv (a 1) dg step) s = dg s := fun s hs => sp_dg_pv (hE0 (by omega)) hdg s hs
    have hP : sp_Px a t step n v (sp_pv (a 1) dg step) = true ↔ ∀ i, i < n → h (117 + step) i = h 122 i := by
      unfold sp_Px
      rw [sp_all_iff]
      constructor
      · intro z i hi
        have := z i hi
        simp only [decide_eq_true_eq] at this
        rw [hver i hi, p5 i hi, ← this, sp_vr_cong (dg2 := dg) hdd]
      · intro z i hi
        have := z i hi
        rw [hver i hi, p5 i hi, nI_eq (by have := sp_vr_le hRB ht hn9 (dg := dg) (k := step) hi; omega) (by have := hv9 i hi; omega)] at this
        simp only [decide_eq_true_eq]
        rw [← this, sp_vr_cong (dg2 := dg) hdd]
    refine kx_mkV (own := RX3) (L0 := [some (.ref 115), some (.int (nI step)), none]) rfl (by decide +kernel) (Nat.le_of_ble_eq_true rfl) rfl (fun F C hR => ?_)
    refine kx_ild1 (pc := 0) C dX3_search_0 ?_
    refine kx_ald0 (pc := 1) C dX3_search_1 ?_
    refine kx_geti (pc := 2) C fl_X3_45 fd_115_7 (by first | assumption | rfl) dX3_search_2 ?_
    refine kx_icmp_ltN (pc := 5) C 36 (by omega) (by omega) dX3_search_5 (by decide) (fun c5 => ?_) (fun c5 => ?_)
    · omega
    · refine kx_ald0 (pc := 8) C dX3_search_8 ?_
      refine kx_getr (pc := 9) C fl_X3_11 fd_115_0 dX3_search_9 ?_
      refine kx_ald0 (pc := 12) C dX3_search_12 ?_
      refine kx_geti (pc := 13) C fl_X3_45 fd_115_7 (by first | assumption | rfl) dX3_search_13 ?_
      refine kx_aald1 (pc := 16) C ra_116 (by omega) dX3_search_16 ?_
      refine kx_ald0 (pc := 17) C dX3_search_17 ?_
      refine kx_getr (pc := 18) C fl_X3_20 fd_115_2 dX3_search_18 ?_
      refine kx_ald0 (pc := 21) C dX3_search_21 ?_
      refine kx_geti (pc := 22) C fl_X3_38 fd_115_6 (by first | assumption | rfl) dX3_search_22 ?_
      refine kx_callNI3 (pc := 25) C cs_X3_62 (m_X8_areSame (if_vers step (by omega)) ia_122 (by omega) (by omega)) (by decide) dX3_search_25 (Nat.le_of_ble_eq_true rfl) (fun r25 h25 q25 => ?_)
      obtain ⟨z25, rfl⟩ := q25
      have z25 := z25.symm
      subst z25
      refine kx_if_eq (pc := 28) C 35 dX3_search_28 (by decide) (fun c28 => ?_) (fun c28 => ?_)
      · have c28 := kx_if0 c28
        rw [Nat.pow_zero, Nat.mul_one] at hR
        first
          | (have hp := hP.mpr c28
             have e1 := sp_ct_yes hp
             have e2 := sp_ct_pos (p := sp_Px a t step n v) (n := sp_pv (a 1) dg step)
             refine hR dX3_search_35 ⟨⟨by rw [k1, e1], fun _ s hs => ?_⟩, fun s j hs => k4 _ _ (by omega) (by omega), fun s hs => k4 _ _ (by omega) (by omega), k3, fun d j h1 h2 h3 h4 => k4 d j h1 h4⟩
             rw [k2 s hs, sp_fst_s]
             by_cases z : sp_ct (sp_Px a t step n v) (sp_pv (a 1) dg step) = 0
             · rw [if_pos z, if_neg (fun y => by have := e2.mpr y; omega), if_pos hp, hdd s hs]
               exact hrow s hs
             · rw [if_neg z, if_pos (e2.mp (by omega))]
               exact hPC.2 (by omega) s hs)
          | (have hp : sp_Px a t step n v (sp_pv (a 1) dg step) = false := Bool.eq_false_iff.mpr (fun z => c28 (hP.mp z))
             have e1 := sp_ct_nope hp
             have e2 := sp_ct_pos (p := sp_Px a t step n v) (n := sp_pv (a 1) dg step)
             refine hR dX3_search_35 ⟨⟨by rw [e1]; exact hPC.1, fun z s hs => ?_⟩, fun s j hs => rfl, fun s hs => rfl, fun j _ => rfl, fun d j h1 h2 h3 h4 => rfl⟩
             rw [e1] at z
             rw [sp_fst_s, if_pos (e2.mp z)]
             exact hPC.2 z s hs)
      · have c28 := kx_if1 c28
        refine kx_ald0 (pc := 31) C dX3_search_31 ?_
        refine kx_callVV0 (pc := 32) C cs_X3_66 ob_115 (m_X3_keepRow hPC.1 (by omega) p3 (by omega)) (by decide) dX3_search_32 (Nat.le_of_ble_eq_true rfl) (fun h32 q32 => ?_)
        obtain ⟨k1, k2, k3, k4⟩ := q32
        rw [Nat.pow_zero, Nat.mul_one] at hR
        first
          | (have hp := hP.mpr c28
             have e1 := sp_ct_yes hp
             have e2 := sp_ct_pos (p := sp_Px a t step n v) (n := sp_pv (a 1) dg step)
             refine hR dX3_search_35 ⟨⟨by rw [k1, e1], fun _ s hs => ?_⟩, fun s j hs => k4 _ _ (by omega) (by omega), fun s hs => k4 _ _ (by omega) (by omega), k3, fun d j h1 h2 h3 h4 => k4 d j h1 h4⟩
             rw [k2 s hs, sp_fst_s]
             by_cases z : sp_ct (sp_Px a t step n v) (sp_pv (a 1) dg step) = 0
             · rw [if_pos z, if_neg (fun y => by have := e2.mpr y; omega), if_pos hp, hdd s hs]
               exact hrow s hs
             · rw [if_neg z, if_pos (e2.mp (by omega))]
               exact hPC.2 (by omega) s hs)
          | (have hp : sp_Px a t step n v (sp_pv (a 1) dg step) = false := Bool.eq_false_iff.mpr (fun z => c28 (hP.mp z))
             have e1 := sp_ct_nope hp
             have e2 := sp_ct_pos (p := sp_Px a t step n v) (n := sp_pv (a 1) dg step)
             refine hR dX3_search_35 ⟨⟨by rw [e1]; exact hPC.1, fun z s hs => ?_⟩, fun s j hs => rfl, fun s hs => rfl, fun j _ => rfl, fun d j h1 h2 h3 h4 => rfl⟩
             rw [e1] at z
             rw [sp_fst_s, if_pos (e2.mp z)]
             exact hPC.2 z s hs)
  | succ d ih =>
    intro step h dg hsd hPS hdg hrow hver hPC
    have hE1 : ∀ e, e < a 1 → a (89 + e) ≤ 3 := fun e he => hRB.2.2 e (by omega)
    refine kx_mkV (own := RX3) (L0 := [some (.ref 115), some (.int (nI step)), none]) rfl (by decide +kernel) (Nat.le_of_ble_eq_true rfl) rfl (fun F C hR => ?_)
    have loop : ∀ (q e : Nat) (g : kx_H), a 1 - e = q → e ≤ a 1 → st_PC g a v t k n ((sp_pv (a 1) dg step * a 1 + e) * (a 1) ^ d) → (∀ s j, s ≤ step → g (117 + s) j = h (117 + s) j) → (∀ s, s < step → g 123 s = h 123 s) → (∀ j, j ≠ 8 → g 115 j = h 115 j) → (∀ d j, d ≠ 115 → (d < 117 ∨ 120 < d) → d ≠ 123 → d ≠ 124 → g d j = h d j) → F 38 [some (.ref 115), some (.int (nI step)), some (.int (nI e))] [] g := by
      intro q
      induction q with
      | zero =>
        intro e g hq he g1 g2 g3 g4 g5
        obtain ⟨p1, p2, p3, p4, p5⟩ := hPS.kept g4 (fun j => g5 121 j (by omega) (by omega) (by omega) (by omega)) (fun j => g5 122 j (by omega) (by omega) (by omega) (by omega))
        refine kx_ild2 (pc := 38) C dX3_search_38 ?_
        refine kx_ald0 (pc := 39) C dX3_search_39 ?_
        refine kx_geti (pc := 40) C fl_X3_44 fd_115_5 (by first | assumption | rfl) dX3_search_40 ?_
        refine kx_icmp_geN (pc := 43) C 93 (by omega) (by omega) dX3_search_43 (by decide) (fun c43 => ?_) (fun c43 => ?_)
        · refine hR dX3_search_93 ⟨?_, g2, g3, g4, g5⟩
          rw [show (sp_pv (a 1) dg step + 1) * (a 1) ^ (d + 1) = (sp_pv (a 1) dg step * a 1 + e) * (a 1) ^ d by
            rw [Nat.pow_succ, show e = a 1 by omega, Nat.mul_comm ((a 1) ^ d) (a 1), ← Nat.mul_assoc, Nat.add_mul, Nat.one_mul]]
          exact g1
        · omega
      | succ q ihq =>
        intro e g hq he g1 g2 g3 g4 g5
        have hps := hPS.kept g4 (fun j => g5 121 j (by omega) (by omega) (by omega) (by omega)) (fun j => g5 122 j (by omega) (by omega) (by omega) (by omega))
        obtain ⟨p1, p2, p3, p4, p5⟩ := id hps
        have hk2 := hE1 e (by omega)
        have hv1 : ∀ i, i < n → kx_up g 123 step (nI e) (117 + step) i = nI (sp_vr a t n dg step i) := fun i hi => by rw [kx_up, if_neg (by omega), g2 step i (by omega)]; exact hver i hi
        have u115 : ∀ j, kx_up g 123 step (nI e) 115 j = g 115 j := fun j => by rw [kx_up, if_neg (by omega)]
        refine kx_ild2 (pc := 38) C dX3_search_38 ?_
        refine kx_ald0 (pc := 39) C dX3_search_39 ?_
        refine kx_geti (pc := 40) C fl_X3_44 fd_115_5 (by first | assumption | rfl) dX3_search_40 ?_
        refine kx_icmp_geN (pc := 43) C 93 (by omega) (by omega) dX3_search_43 (by decide) (fun c43 => ?_) (fun c43 => ?_)
        · omega
        · refine kx_ald0 (pc := 46) C dX3_search_46 ?_
          refine kx_getr (pc := 47) C fl_X3_23 fd_115_3 dX3_search_47 ?_
          refine kx_ild1 (pc := 50) C dX3_search_50 ?_
          refine kx_ild2 (pc := 51) C dX3_search_51 ?_
          refine kx_iast (pc := 52) C ia_123 (by omega) dX3_search_52 ?_
          refine kx_ald0 (pc := 53) C dX3_search_53 ?_
          refine kx_getr (pc := 54) C fl_X3_16 fd_115_1 dX3_search_54 ?_
          refine kx_ild2 (pc := 57) C dX3_search_57 ?_
          refine kx_iald (pc := 58) C ia_121 (by omega) (show _ = nI (a (89 + e)) by rw [kx_up, if_neg (by omega)]; exact p4 e (by omega)) dX3_search_58 ?_
          refine kx_ald0 (pc := 59) C dX3_search_59 ?_
          refine kx_getr (pc := 60) C fl_X3_11 fd_115_0 dX3_search_60 ?_
          refine kx_ild1 (pc := 63) C dX3_search_63 ?_
          refine kx_aald1 (pc := 64) C ra_116 (by omega) dX3_search_64 ?_
          refine kx_ald0 (pc := 65) C dX3_search_65 ?_
          refine kx_getr (pc := 66) C fl_X3_11 fd_115_0 dX3_search_66 ?_
          refine kx_ild1 (pc := 69) C dX3_search_69 ?_
          refine kx_iconst (pc := 70) C (v := nI 1) dX3_search_70 (by decide) ?_
          first | refine kx_iaddN (pc := 71) C dX3_search_71 ?_ | refine kx_iadd (pc := 71) C dX3_search_71 ?_
          refine kx_aald1 (pc := 72) C ra_116 (by omega) dX3_search_72 ?_
          refine kx_ald0 (pc := 73) C dX3_search_73 ?_
          refine kx_geti (pc := 74) C fl_X3_38 fd_115_6 (show _ = nI n by rw [u115]; exact p2) dX3_search_74 ?_
          refine kx_callNV4 (pc := 77) C cs_X3_69 (m_X8_retell (f := sp_vr a t n dg step) hk2 (if_vers step (by omega)) (if_vers (step + 1) (by omega)) (by omega) (by omega) (by omega) hv1 (fun j hj => sp_vr_le hRB ht hn9 hj)) (by omega) dX3_search_77 (Nat.le_of_ble_eq_true rfl) (fun h77 q77 => ?_)
          obtain ⟨k1, k2⟩ := q77
          have dg2 : ∀ s, s < step → (fun s => if s = step then e else dg s) s = dg s := fun s hs => if_neg (by omega)
          have dgs : (fun s => if s = step then e else dg s) step = e := if_pos rfl
          have epv : sp_pv (a 1) (fun s => if s = step then e else dg s) (step + 1) = sp_pv (a 1) dg step * a 1 + e := by
            show sp_pv (a 1) (fun s => if s = step then e else dg s) step * a 1 + (fun s => if s = step then e else dg s) step = _
            rw [dgs, sp_pv_cong dg2]
          have fr : ∀ c j, c ≠ 117 + (step + 1) → c ≠ 123 → h77 c j = g c j := fun c j h1 h2 => by rw [k2 c j (Or.inl h1), kx_up, if_neg (by omega)]
          refine kx_ald0 (pc := 80) C dX3_search_80 ?_
          refine kx_ild1 (pc := 81) C dX3_search_81 ?_
          refine kx_iconst (pc := 82) C (v := nI 1) dX3_search_82 (by decide) ?_
          first | refine kx_iaddN (pc := 83) C dX3_search_83 ?_ | refine kx_iadd (pc := 83) C dX3_search_83 ?_
          refine kx_callVV1 (pc := 84) C cs_X3_58 ob_115 (ih (step + 1) h77 (fun s => if s = step then e else dg s) (by omega) (hps.kept (fun j _ => fr _ _ (by omega) (by omega)) (fun j => fr _ _ (by omega) (by omega)) (fun j => fr _ _ (by omega) (by omega))) (fun s hs => by
                by_cases z : s = step
                · simp only [z, if_true]; omega
                · simp only [z, if_false]; exact hdg s (by omega)) (fun s hs => by
                rw [k2 123 s (Or.inl (by omega))]
                by_cases z : s = step
                · rw [z, kx_up, if_pos ⟨rfl, rfl⟩]; simp only [if_true]
                · rw [kx_up, if_neg (by omega), g3 s (by omega), hrow s (by omega)]; simp only [z, if_false]) (fun i hi => by
                rw [k1 i hi]
                show _ = nI (sp_by (a (89 + (fun s => if s = step then e else dg s) step)) (sp_vr a t n (fun s => if s = step then e else dg s) step (sp_ix (a (89 + (fun s => if s = step then e else dg s) step)) n i)))
                rw [dgs, sp_vr_cong dg2]) (by
                rw [epv]
                exact ⟨by rw [fr _ _ (by omega) (by omega)]; exact g1.1, fun z s hs => by rw [fr _ _ (by omega) (by omega)]; exact g1.2 z s hs⟩)) (by omega) dX3_search_84 (Nat.le_of_ble_eq_true rfl) (fun h84 q84 => ?_)
          rw [epv] at q84
          obtain ⟨l1, l2, l3, l4, l5⟩ := q84
          first | refine kx_inc2 (pc := 87) C (v := nI (_ + 1)) dX3_search_87 (by decide) rfl (nI_1 _) ?_ | refine kx_inc2 (pc := 87) C dX3_search_87 (by decide) rfl rfl ?_
          refine kx_goto (pc := 90) C 38 dX3_search_90 (by decide) ?_
          refine ihq (e + 1) h84 (by omega) (by omega) (by rw [← Nat.add_assoc]; exact l1) (fun s j hs => by rw [l2 s j (by omega), fr _ _ (by omega) (by omega)]; exact g2 s j hs) (fun s hs => by rw [l3 s (by omega), k2 123 s (Or.inl (by omega)), kx_up, if_neg (by omega)]; exact g3 s hs) (fun j hj => by rw [l4 j hj, fr _ _ (by omega) (by omega)]; exact g4 j hj) (fun c j h1 h2 h3 h4 => by rw [l5 c j h1 h2 h3 h4, fr _ _ (by omega) (by omega)]; exact g5 c j h1 h2 h3 h4)
    obtain ⟨p1, p2, p3, p4, p5⟩ := id hPS
    refine kx_ild1 (pc := 0) C dX3_search_0 ?_
    refine kx_ald0 (pc := 1) C dX3_search_1 ?_
    refine kx_geti (pc := 2) C fl_X3_45 fd_115_7 (by first | assumption | rfl) dX3_search_2 ?_
    refine kx_icmp_ltN (pc := 5) C 36 (by omega) (by omega) dX3_search_5 (by decide) (fun c5 => ?_) (fun c5 => ?_)
    · refine kx_iconst (pc := 36) C (v := nI 0) dX3_search_36 (by decide) ?_
      refine kx_ist2 (pc := 37) C dX3_search_37 (by decide) rfl ?_
      refine loop (a 1) 0 h (by omega) (by omega) ?_ (fun s j _ => rfl) (fun s _ => rfl) (fun j _ => rfl) (fun d j _ _ _ _ => rfl)
      rw [show (sp_pv (a 1) dg step * a 1 + 0) * (a 1) ^ d = sp_pv (a 1) dg step * (a 1) ^ (d + 1) by rw [Nat.add_zero, Nat.pow_succ, Nat.mul_assoc, Nat.mul_comm (a 1)]]
      exact hPC
    · omega
