/-! a store of tales: rows of n tales as numbers -/
def sp_sw (m : Nat) (f : Nat → Nat) : Nat → Nat
  | 0 => 0
  | n + 1 => sp_sw m f n + sp_so m (f n)
def sp_wg (a : Nat → Nat) (m t : Nat) : Nat := sp_sw m (fun i => a (9 + 9 * t + i)) (a (81 + t))
theorem sp_sw_le {f : Nat → Nat} {m : Nat} : ∀ {n : Nat}, (∀ i, i < n → f i ≤ 9) → sp_sw m f n ≤ 3 * n
  | 0, _ => by simp [sp_sw]
  | n + 1, h => by
    have h1 := sp_sw_le (f := f) (m := m) (n := n) (fun i hi => h i (by omega))
    have h2 := sp_so_lt (m := m) (h n (by omega))
    unfold sp_sw
    omega
theorem sp_sw_mono {f : Nat → Nat} {m : Nat} : ∀ {n : Nat}, sp_sw m f n ≤ sp_sw 0 f n
  | 0 => Nat.le_refl _
  | n + 1 => by
    have h1 := sp_sw_mono (f := f) (m := m) (n := n)
    have h2 : sp_so m (f n) ≤ sp_so 0 (f n) := by unfold sp_so; split <;> simp
    unfold sp_sw
    omega
theorem sp_wg_le {a : Nat → Nat} (hB : st_RB a) {m t : Nat} (ht : t < 8) : sp_wg a m t ≤ 27 := by
  have h1 := hB.1 t ht
  have h2 := sp_sw_le (f := fun i => a (9 + 9 * t + i)) (m := m) (n := a (81 + t)) (fun i hi => hB.2.1 t i ht (by omega))
  unfold sp_wg
  omega
def sp_mx (f : Nat → Nat) : Nat → Nat
  | 0 => 0
  | n + 1 => max (sp_mx f n) (f n)
theorem sp_mx_ge {f : Nat → Nat} : ∀ {n i : Nat}, i < n → f i ≤ sp_mx f n
  | 0, i, h => absurd h (by omega)
  | n + 1, i, h => by
    unfold sp_mx
    rcases Nat.lt_or_ge i n with q | q
    · have := sp_mx_ge (f := f) q; omega
    · rw [show i = n by omega]; omega
theorem sp_mx_le {f : Nat → Nat} {b : Nat} : ∀ {n : Nat}, (∀ i, i < n → f i ≤ b) → sp_mx f n ≤ b
  | 0, _ => by simp [sp_mx]
  | n + 1, h => by
    have h1 := sp_mx_le (f := f) (b := b) (n := n) (fun i hi => h i (by omega))
    have h2 := h n (by omega)
    unfold sp_mx
    omega
def sp_hv (a : Nat → Nat) (s : Nat) (dg : Nat → Nat) : Nat → Nat → Nat
  | 0, t => a (109 + 8 * s + t)
  | e + 1, t => if t = dg e then a 3 + 1 + e else sp_hv a s dg e t
theorem sp_hv_le {a : Nat → Nat} {s : Nat} {dg : Nat → Nat} (h : ∀ t, t < 8 → a (109 + 8 * s + t) ≤ a 3) : ∀ {e t : Nat}, t < 8 → sp_hv a s dg e t ≤ a 3 + e
  | 0, t, ht => h t ht
  | e + 1, t, ht => by
    have := sp_hv_le (dg := dg) h (e := e) ht
    unfold sp_hv
    split <;> omega
theorem sp_hv_cong {a : Nat → Nat} {s : Nat} {dg dg2 : Nat → Nat} : ∀ {e : Nat}, (∀ i, i < e → dg i = dg2 i) → ∀ t, sp_hv a s dg e t = sp_hv a s dg2 e t
  | 0, _, _ => rfl
  | e + 1, h, t => by
    unfold sp_hv
    rw [h e (by omega), sp_hv_cong (fun i hi => h i (by omega))]
def sp_im (a : Nat → Nat) (s : Nat) (dg : Nat → Nat) (e t : Nat) : Nat := if 0 < sp_hv a s dg e t ∧ a 3 + 1 + e ≤ sp_hv a s dg e t + a 8 then 1 else 0
def sp_su (a : Nat → Nat) (s : Nat) (dg : Nat → Nat) : Nat → Nat
  | 0 => 0
  | e + 1 => sp_su a s dg e + sp_wg a (sp_im a s dg e (dg e)) (dg e)
theorem sp_su_cong {a : Nat → Nat} {s : Nat} {dg dg2 : Nat → Nat} : ∀ {e : Nat}, (∀ i, i < e → dg i = dg2 i) → sp_su a s dg e = sp_su a s dg2 e
  | 0, _ => rfl
  | e + 1, h => by
    have hh := sp_hv_cong (a := a) (s := s) (dg := dg) (dg2 := dg2) (e := e) (fun i hi => h i (by omega))
    unfold sp_su sp_im
    rw [sp_su_cong (fun i hi => h i (by omega)), h e (by omega), hh]
theorem sp_su_le {a : Nat → Nat} (hB : st_RB a) {s : Nat} {dg : Nat → Nat} {T : Nat} (hT : T ≤ 8) {e : Nat} : ∀ {d : Nat}, (∀ i, i < e + d → dg i < T) → sp_su a s dg (e + d) ≤ sp_su a s dg e + d * sp_mx (sp_wg a 0) T
  | 0, _ => by simp
  | d + 1, h => by
    have h1 := sp_su_le hB hT (s := s) (e := e) (d := d) (fun i hi => h i (by omega))
    have h2 : sp_wg a (sp_im a s dg (e + d) (dg (e + d))) (dg (e + d)) ≤ sp_mx (sp_wg a 0) T := Nat.le_trans sp_sw_mono (sp_mx_ge (f := sp_wg a 0) (h (e + d) (by omega)))
    show sp_su a s dg (e + d) + sp_wg a (sp_im a s dg (e + d) (dg (e + d))) (dg (e + d)) ≤ _
    rw [Nat.add_mul]
    omega
theorem sp_su_b {a : Nat → Nat} (hB : st_RB a) {s : Nat} {dg : Nat → Nat} {T : Nat} (hT : T ≤ 8) {e : Nat} (h : ∀ i, i < e → dg i < T) : sp_su a s dg e ≤ 27 * e := by
  have h1 := sp_su_le hB hT (s := s) (e := 0) (d := e) (fun i hi => h i (by omega))
  have h2 : sp_mx (sp_wg a 0) T ≤ 27 := sp_mx_le (fun i hi => sp_wg_le hB (by omega))
  have h3 : e * sp_mx (sp_wg a 0) T ≤ e * 27 := Nat.mul_le_mul_left e h2
  rw [Nat.zero_add] at h1
  simp only [sp_su] at h1
  omega
def sp_sx (a : Nat → Nat) (s n x : Nat) : Nat := sp_su a s (sp_dg (a 0) n x) n
/-- the most so far (1 more than it, 0: none), and the first number with it -/
def sp_bv (S : Nat → Nat) : Nat → Nat
  | 0 => 0
  | x + 1 => if sp_bv S x < S x + 1 then S x + 1 else sp_bv S x
def sp_ba (S : Nat → Nat) : Nat → Nat
  | 0 => 0
  | x + 1 => if sp_bv S x < S x + 1 then x else sp_ba S x
theorem sp_b_run {S : Nat → Nat} {X : Nat} : ∀ {k : Nat}, (∀ x, X ≤ x → x < X + k → S x + 1 ≤ sp_bv S X) → sp_bv S (X + k) = sp_bv S X ∧ sp_ba S (X + k) = sp_ba S X
  | 0, _ => ⟨rfl, rfl⟩
  | k + 1, h => by
    have h1 := sp_b_run (S := S) (X := X) (k := k) (fun x hx hk => h x hx (by omega))
    have h2 := h (X + k) (by omega) (by omega)
    show (if sp_bv S (X + k) < S (X + k) + 1 then S (X + k) + 1 else sp_bv S (X + k)) = _ ∧ (if sp_bv S (X + k) < S (X + k) + 1 then X + k else sp_ba S (X + k)) = _
    rw [if_neg (by omega), if_neg (by omega)]
    exact h1
theorem sp_dg_pre {E k d x s : Nat} (hs : s < k) : sp_dg E (k + d) x s = sp_dg E k (x / E ^ d) s := by
  unfold sp_dg
  rw [Nat.div_div_eq_div_mul, ← Nat.pow_add, show d + (k - 1 - s) = k + d - 1 - s by omega]
theorem sp_bv_le {S : Nat → Nat} {b : Nat} : ∀ {X : Nat}, (∀ x, x < X → S x ≤ b) → sp_bv S X ≤ b + 1
  | 0, _ => by simp [sp_bv]
  | X + 1, h => by
    have h1 := sp_bv_le (S := S) (b := b) (X := X) (fun x hx => h x (by omega))
    have h2 := h X (by omega)
    unfold sp_bv
    split <;> omega
set_option maxHeartbeats 4000000 in
set_option maxRecDepth 100000 in
theorem m_X6_weigh {h : kx_H} {a : Nat → Nat} {t : Nat} (hRD : st_RD 2 4 12 h a) (hRB : st_RB a) (ht : t < 8) : kx_MV 2 yX6_weigh cX6_weigh 5 [.ref 58, .ref 1, .int (nI t)] h (fun h1 => h1 59 t = nI (sp_wg a 0 t) ∧ h1 60 t = nI (sp_wg a 1 t) ∧ ∀ d j, (d ≠ 59 ∧ d ≠ 60) ∨ j ≠ t → h1 d j = h d j) := by
  refine kx_mkV (own := RX6) (L0 := [some (.ref 58), some (.ref 1), some (.int (nI t)), none, none]) rfl (by decide +kernel) (Nat.le_of_ble_eq_true rfl) rfl (fun F C hR => ?_)
  obtain ⟨hlen, hten, hkd⟩ := id hRD
  have l1 := hRB.1 t ht
  have loop : ∀ (q i : Nat) (g : kx_H) (z : Option Value), a (81 + t) - i = q → i ≤ a (81 + t) → g 59 t = nI (sp_sw 0 (fun i => a (9 + 9 * t + i)) i) → g 60 t = nI (sp_sw 1 (fun i => a (9 + 9 * t + i)) i) → (∀ d j, (d ≠ 59 ∧ d ≠ 60) ∨ j ≠ t → g d j = h d j) → F 16 [some (.ref 58), some (.ref 1), some (.int (nI t)), some (.int (nI i)), z] [] g := by
    intro q
    induction q with
    | zero =>
      intro i g z hq hi g1 g2 g3
      have e2 : g 2 t = nI (a (81 + t)) := by rw [g3 2 t (by omega)]; exact hlen t ht
      refine kx_ild3 (pc := 16) C dX6_weigh_16 ?_
      refine kx_ald1 (pc := 17) C dX6_weigh_17 ?_
      refine kx_getr (pc := 18) C fl_X6_68 fd_1_5 dX6_weigh_18 ?_
      refine kx_ild2 (pc := 21) C dX6_weigh_21 ?_
      refine kx_iald (pc := 22) C ia_2 (by omega) (by first | assumption | rfl) dX6_weigh_22 ?_
      refine kx_icmp_geN (pc := 23) C 70 (by omega) (by omega) dX6_weigh_23 (by decide) (fun c23 => ?_) (fun c23 => ?_)
      · exact hR dX6_weigh_70 ⟨by rw [g1, show i = a (81 + t) by omega]; rfl, by rw [g2, show i = a (81 + t) by omega]; rfl, g3⟩
      · omega
    | succ q ih =>
      intro i g z hq hi g1 g2 g3
      have e2 : g 2 t = nI (a (81 + t)) := by rw [g3 2 t (by omega)]; exact hlen t ht
      have e3 : g (4 + t) i = nI (a (9 + 9 * t + i)) := by rw [g3 (4 + t) i (by omega)]; exact hten t i ht (by omega)
      have b3 := hRB.2.1 t i ht (by omega)
      refine kx_ild3 (pc := 16) C dX6_weigh_16 ?_
      refine kx_ald1 (pc := 17) C dX6_weigh_17 ?_
      refine kx_getr (pc := 18) C fl_X6_68 fd_1_5 dX6_weigh_18 ?_
      refine kx_ild2 (pc := 21) C dX6_weigh_21 ?_
      refine kx_iald (pc := 22) C ia_2 (by omega) (by first | assumption | rfl) dX6_weigh_22 ?_
      refine kx_icmp_geN (pc := 23) C 70 (by omega) (by omega) dX6_weigh_23 (by decide) (fun c23 => ?_) (fun c23 => ?_)
      · omega
      · refine kx_ald1 (pc := 26) C dX6_weigh_26 ?_
        refine kx_getr (pc := 27) C fl_X6_71 fd_1_6 dX6_weigh_27 ?_
        refine kx_ild2 (pc := 30) C dX6_weigh_30 ?_
        refine kx_aald1 (pc := 31) C ra_3 (by omega) dX6_weigh_31 ?_
        refine kx_ild3 (pc := 32) C dX6_weigh_32 ?_
        refine kx_iald (pc := 33) C (if_ten _ (by omega)) (by omega) (by first | assumption | rfl) dX6_weigh_33 ?_
        refine kx_callNI1 (pc := 34) C cs_X6_74 (m_X8_sortOf (by omega)) (by decide) dX6_weigh_34 (Nat.le_of_ble_eq_true rfl) (fun r34 h34 q34 => ?_)
        obtain ⟨z34, rfl⟩ := q34
        have z34 := z34.symm
        subst z34
        refine kx_ist4 (pc := 37) C dX6_weigh_37 (by decide) rfl ?_
        refine kx_ald0 (pc := 39) C dX6_weigh_39 ?_
        refine kx_getr (pc := 40) C fl_X6_9 fd_58_0 dX6_weigh_40 ?_
        refine kx_ild2 (pc := 43) C dX6_weigh_43 ?_
        refine kx_dup2 (pc := 44) C dX6_weigh_44 rfl rfl ?_
        refine kx_iald (pc := 45) C ia_59 (by omega) (by first | assumption | rfl) dX6_weigh_45 ?_
        refine kx_ild4 (pc := 46) C dX6_weigh_46 ?_
        first | refine kx_iaddN (pc := 48) C dX6_weigh_48 ?_ | refine kx_iadd (pc := 48) C dX6_weigh_48 ?_
        refine kx_iast (pc := 49) C ia_59 (by omega) dX6_weigh_49 ?_
        refine kx_ald0 (pc := 50) C dX6_weigh_50 ?_
        refine kx_getr (pc := 51) C fl_X6_15 fd_58_1 dX6_weigh_51 ?_
        refine kx_ild2 (pc := 54) C dX6_weigh_54 ?_
        refine kx_dup2 (pc := 55) C dX6_weigh_55 rfl rfl ?_
        refine kx_iald (pc := 56) C ia_60 (by omega) (show _ = nI (sp_sw 1 (fun i => a (9 + 9 * t + i)) i) by rw [kx_up, if_neg (by omega)]; exact g2) dX6_weigh_56 ?_
        refine kx_ild4 (pc := 57) C dX6_weigh_57 ?_
        refine kx_callNI1 (pc := 59) C cs_X6_78 (m_X8_duller (by omega)) (by decide) dX6_weigh_59 (Nat.le_of_ble_eq_true rfl) (fun r59 h59 q59 => ?_)
        obtain ⟨z59, rfl⟩ := q59
        have z59 := z59.symm
        subst z59
        first | refine kx_iaddN (pc := 62) C dX6_weigh_62 ?_ | refine kx_iadd (pc := 62) C dX6_weigh_62 ?_
        refine kx_iast (pc := 63) C ia_60 (by omega) dX6_weigh_63 ?_
        first | refine kx_inc3 (pc := 64) C (v := nI (_ + 1)) dX6_weigh_64 (by decide) rfl (nI_1 _) ?_ | refine kx_inc3 (pc := 64) C dX6_weigh_64 (by decide) rfl rfl ?_
        refine kx_goto (pc := 67) C 16 dX6_weigh_67 (by decide) ?_
        refine ih (i + 1) _ _ (by omega) (by omega) ?_ ?_ (fun d j hd => by rw [kx_up, if_neg (by omega), kx_up, if_neg (by omega)]; exact g3 d j hd)
        · rw [kx_up, if_neg (by omega), kx_up, if_pos ⟨rfl, rfl⟩]; rfl
        · rw [kx_up, if_pos ⟨rfl, rfl⟩]; rfl
  refine kx_ald0 (pc := 0) C dX6_weigh_0 ?_
  refine kx_getr (pc := 1) C fl_X6_9 fd_58_0 dX6_weigh_1 ?_
  refine kx_ild2 (pc := 4) C dX6_weigh_4 ?_
  refine kx_iconst (pc := 5) C (v := nI 0) dX6_weigh_5 (by decide) ?_
  refine kx_iast (pc := 6) C ia_59 (by omega) dX6_weigh_6 ?_
  refine kx_ald0 (pc := 7) C dX6_weigh_7 ?_
  refine kx_getr (pc := 8) C fl_X6_15 fd_58_1 dX6_weigh_8 ?_
  refine kx_ild2 (pc := 11) C dX6_weigh_11 ?_
  refine kx_iconst (pc := 12) C (v := nI 0) dX6_weigh_12 (by decide) ?_
  refine kx_iast (pc := 13) C ia_60 (by omega) dX6_weigh_13 ?_
  refine kx_iconst (pc := 14) C (v := nI 0) dX6_weigh_14 (by decide) ?_
  refine kx_ist3 (pc := 15) C dX6_weigh_15 (by decide) rfl ?_
  exact loop _ 0 _ none rfl (by omega) (by simp [kx_up, sp_sw]) (by simp [kx_up, sp_sw]) (fun d j hd => by rw [kx_up, if_neg (by omega), kx_up, if_neg (by omega)])
def st_SS (h : kx_H) (a : Nat → Nat) (n : Nat) : Prop := h 58 5 = nI (a 0) ∧ h 58 6 = nI n ∧ h 58 7 = nI (a 3 + 1) ∧ h 58 8 = nI (a 8) ∧ h 58 9 = nI (sp_mx (sp_wg a 0) (a 0)) ∧ (∀ t, t < a 0 → h 59 t = nI (sp_wg a 0 t)) ∧ ∀ t, t < a 0 → h 60 t = nI (sp_wg a 1 t)
theorem st_SS.kept {h g : kx_H} {a : Nat → Nat} {n : Nat} (hs : st_SS h a n) (h1 : ∀ j, j ≠ 10 → g 58 j = h 58 j) (h2 : ∀ d j, d = 59 ∨ d = 60 → g d j = h d j) : st_SS g a n := by
  obtain ⟨a1, a2, a3, a4, a5, a6, a7⟩ := hs
  exact ⟨by rw [h1 5 (by omega)]; exact a1, by rw [h1 6 (by omega)]; exact a2, by rw [h1 7 (by omega)]; exact a3, by rw [h1 8 (by omega)]; exact a4, by rw [h1 9 (by omega)]; exact a5, fun t ht => by rw [h2 59 t (by omega)]; exact a6 t ht, fun t ht => by rw [h2 60 t (by omega)]; exact a7 t ht⟩
def st_SB (h : kx_H) (a : Nat → Nat) (s n X : Nat) : Prop := h 58 10 = iI ((sp_bv (sp_sx a s n) X : Int) - 1) ∧ (0 < sp_bv (sp_sx a s n) X → ∀ e, e < n → h 63 e = nI (sp_dg (a 0) n (sp_ba (sp_sx a s n) X) e))
theorem sp_sx_le {a : Nat → Nat} (hB : st_B a) {s n x : Nat} (h0 : 0 < a 0) (hn : n ≤ 5) : sp_sx a s n x ≤ 135 := by
  have h1 := sp_su_b hB.2.1 hB.1.1 (s := s) (dg := sp_dg (a 0) n x) (e := n) (fun i _ => sp_dg_lt h0)
  unfold sp_sx
  omega
set_option maxHeartbeats 4000000 in
set_option maxRecDepth 100000 in
theorem m_X6_search {a : Nat → Nat} {s n : Nat} (hB : st_B a) (h0 : 0 < a 0) (hs : s < 4) (hn5 : n ≤ 5) : ∀ (d at_ : Nat) (h : kx_H) (dg : Nat → Nat), at_ + d = n → (st_SS h a n) → (∀ e, e < at_ → dg e < a 0) → (∀ e, e < at_ → h 62 e = nI (dg e)) → (∀ t, t < a 0 → h 61 t = nI (sp_hv a s dg at_ t)) → (st_SB h a s n (sp_pv (a 0) dg at_ * (a 0) ^ d)) → kx_MV (3 + d) yX6_search cX6_search 7 [.ref 58, .int (nI at_), .int (nI (sp_su a s dg at_))] h (fun h1 => st_SB h1 a s n ((sp_pv (a 0) dg at_ + 1) * (a 0) ^ d) ∧ (∀ j, h1 61 j = h 61 j) ∧ (∀ e, e < at_ → h1 62 e = h 62 e) ∧ (∀ j, j ≠ 10 → h1 58 j = h 58 j) ∧ ∀ c j, c ≠ 58 → (c < 61 ∨ 63 < c) → h1 c j = h c j) := by
  obtain ⟨⟨b0, b1, b2, b3, b8, b8'⟩, hRB, bl, byy, bh, bz, bb⟩ := id hB
  have prune : ∀ (d at_ : Nat) (dg : Nat → Nat), at_ + d = n → (∀ e, e < at_ → dg e < a 0) → sp_su a s dg at_ + d * sp_mx (sp_wg a 0) (a 0) + 1 ≤ sp_bv (sp_sx a s n) (sp_pv (a 0) dg at_ * (a 0) ^ d) → sp_bv (sp_sx a s n) ((sp_pv (a 0) dg at_ + 1) * (a 0) ^ d) = sp_bv (sp_sx a s n) (sp_pv (a 0) dg at_ * (a 0) ^ d) ∧ sp_ba (sp_sx a s n) ((sp_pv (a 0) dg at_ + 1) * (a 0) ^ d) = sp_ba (sp_sx a s n) (sp_pv (a 0) dg at_ * (a 0) ^ d) := by
    intro d at_ dg hd hdg hle
    rw [Nat.add_mul, Nat.one_mul]
    refine sp_b_run (fun x h1 h2 => Nat.le_trans (Nat.succ_le_succ ?_) hle)
    have hpos : 0 < (a 0) ^ d := Nat.pow_pos h0
    have hq : x / (a 0) ^ d = sp_pv (a 0) dg at_ := by
      rw [Nat.div_eq_iff hpos]
      rw [Nat.mul_comm] at h1
      rw [Nat.mul_comm] at h2
      constructor
      · rw [Nat.mul_comm]; exact h1
      · rw [Nat.mul_comm]; omega
    unfold sp_sx
    subst hd
    have hdd : ∀ e, e < at_ → sp_dg (a 0) (at_ + d) x e = dg e := fun e he => by rw [sp_dg_pre he, hq]; exact sp_dg_pv h0 hdg e he
    have := sp_su_le hRB b0 (s := s) (dg := sp_dg (a 0) (at_ + d) x) (e := at_) (d := d) (fun i _ => sp_dg_lt h0)
    rw [sp_su_cong hdd] at this
    exact this
  intro d
  induction d with
  | zero =>
    intro at_ h dg hsd hSS hdg hrow hhv hSB
    have en : at_ = n := by omega
    subst en
    obtain ⟨p1, p2, p3, p4, p5, p6, p7⟩ := id hSS
    have hsu := sp_su_b hRB b0 (s := s) hdg
    have hfr : sp_mx (sp_wg a 0) (a 0) ≤ 27 := sp_mx_le (fun i hi => sp_wg_le hRB (by omega))
    have hbv := sp_bv_le (S := sp_sx a s at_) (b := 135) (X := sp_pv (a 0) dg at_ * (a 0) ^ 0) (fun x _ => sp_sx_le hB h0 hn5)
    have hpr := prune 0 at_ dg rfl hdg
    rw [Nat.pow_zero, Nat.mul_one, Nat.mul_one, Nat.zero_mul] at hpr
    rw [Nat.pow_zero, Nat.mul_one] at hSB hbv
    have hdd : ∀ e, e < at_ → sp_dg (a 0) at_ (sp_pv (a 0) dg at_) e = dg e := fun e he => sp_dg_pv h0 hdg e he
    have hsx : sp_sx a s at_ (sp_pv (a 0) dg at_) = sp_su a s dg at_ := sp_su_cong hdd
    refine kx_mkV (own := RX6) (L0 := [some (.ref 58), some (.int (nI at_)), some (.int (nI (sp_su a s dg at_))), none, none, none, none]) rfl (by decide +kernel) (Nat.le_of_ble_eq_true rfl) rfl (fun F C hR => ?_)
    rw [Nat.pow_zero, Nat.mul_one] at hR
    refine kx_ild2 (pc := 0) C dX6_search_0 ?_
    refine kx_ald0 (pc := 1) C dX6_search_1 ?_
    refine kx_geti (pc := 2) C fl_X6_34 fd_58_6 (by first | assumption | rfl) dX6_search_2 ?_
    refine kx_ild1 (pc := 5) C dX6_search_5 ?_
    refine kx_isubN (pc := 6) C (by omega) dX6_search_6 ?_
    refine kx_ald0 (pc := 7) C dX6_search_7 ?_
    refine kx_geti (pc := 8) C fl_X6_45 fd_58_9 (by first | assumption | rfl) dX6_search_8 ?_
    refine kx_imulN (pc := 11) C dX6_search_11 ?_
    refine kx_iaddN (pc := 12) C dX6_search_12 ?_
    rw [Nat.sub_self, Nat.zero_mul, Nat.add_zero]
    refine kx_ald0 (pc := 13) C dX6_search_13 ?_
    refine kx_geti (pc := 14) C fl_X6_48 fd_58_10 hSB.1 dX6_search_14 ?_
    refine kx_icmp_gtI (pc := 17) C 21 dX6_search_17 (by decide) (fun c17 => ?_) (fun c17 => ?_)
    · rw [iI_T (by omega) (by omega), kx_T (by omega)] at c17
      refine kx_ild1 (pc := 21) C dX6_search_21 ?_
      refine kx_ald0 (pc := 22) C dX6_search_22 ?_
      refine kx_geti (pc := 23) C fl_X6_34 fd_58_6 (by first | assumption | rfl) dX6_search_23 ?_
      first | refine kx_icmp_ltN (pc := 26) C 52 (by omega) (by omega) dX6_search_26 (by decide) (fun c26 => ?_) (fun c26 => ?_) | refine kx_icmp_ltI (pc := 26) C 52 dX6_search_26 (by decide) (fun c26 => ?_) (fun c26 => ?_)
      · omega
      · refine kx_ald0 (pc := 29) C dX6_search_29 ?_
        refine kx_ild2 (pc := 30) C dX6_search_30 ?_
        refine kx_puti (pc := 31) C fl_X6_48 fp_X6_10 fd_58_10 rfl rfl dX6_search_31 ?_
        refine kx_ald0 (pc := 34) C dX6_search_34 ?_
        refine kx_getr (pc := 35) C fl_X6_21 fd_58_3 dX6_search_35 ?_
        refine kx_iconst (pc := 38) C (v := nI 0) dX6_search_38 (by decide) ?_
        refine kx_ald0 (pc := 39) C dX6_search_39 ?_
        refine kx_getr (pc := 40) C fl_X6_24 fd_58_4 dX6_search_40 ?_
        refine kx_iconst (pc := 43) C (v := nI 0) dX6_search_43 (by decide) ?_
        refine kx_ald0 (pc := 44) C dX6_search_44 ?_
        refine kx_geti (pc := 45) C fl_X6_34 fd_58_6 (by first | assumption | rfl) dX6_search_45 ?_
        refine kx_cpy (pc := 48) C ac_X6_81 ia_62 ia_63 (by omega) (by omega) (by omega) (Nat.le_of_ble_eq_true rfl) dX6_search_48 ?_
        have e1 : sp_bv (sp_sx a s at_) (sp_pv (a 0) dg at_ + 1) = sp_su a s dg at_ + 1 := by
          show (if _ < _ then _ else _) = _
          rw [hsx, if_pos (by omega)]
        have e2 : sp_ba (sp_sx a s at_) (sp_pv (a 0) dg at_ + 1) = sp_pv (a 0) dg at_ := by
          show (if _ < _ then _ else _) = _
          rw [hsx, if_pos (by omega)]
        refine hR dX6_search_51 ⟨⟨?_, fun _ e he => ?_⟩, fun j => ?_, fun e he => ?_, fun j hj => ?_, fun c j h1 h2 => ?_⟩
        · rw [e1, kx_cp, if_neg (by omega), kx_up, if_pos ⟨rfl, rfl⟩, iI_nI]
          congr 1
          omega
        · rw [e2, kx_cp, if_pos (by omega), show 0 + (e - 0) = e by omega, kx_up, if_neg (by omega), hdd e he]
          exact hrow e he
        · rw [kx_cp, if_neg (by omega), kx_up, if_neg (by omega)]
        · rw [kx_cp, if_neg (by omega), kx_up, if_neg (by omega)]
        · rw [kx_cp, if_neg (by omega), kx_up, if_neg (by omega)]
        · rw [kx_cp, if_neg (by omega), kx_up, if_neg (by omega)]
    · rw [iI_T (by omega) (by omega), kx_T (by omega)] at c17
      have hp := hpr (by omega)
      exact hR dX6_search_20 ⟨⟨by rw [hp.1]; exact hSB.1, fun z e he => by rw [hp.2]; exact hSB.2 (by omega) e he⟩, fun j => rfl, fun e _ => rfl, fun j _ => rfl, fun c j _ _ => rfl⟩
  | succ d ih =>
    intro at_ h dg hsd hSS hdg hrow hhv hSB
    obtain ⟨p1, p2, p3, p4, p5, p6, p7⟩ := id hSS
    have hsu := sp_su_b hRB b0 (s := s) hdg
    have hfr : sp_mx (sp_wg a 0) (a 0) ≤ 27 := sp_mx_le (fun i hi => sp_wg_le hRB (by omega))
    have hbv := sp_bv_le (S := sp_sx a s n) (b := 135) (X := sp_pv (a 0) dg at_ * (a 0) ^ (d + 1)) (fun x _ => sp_sx_le hB h0 hn5)
    have hpr := prune (d + 1) at_ dg hsd hdg
    have hmul : (d + 1) * sp_mx (sp_wg a 0) (a 0) ≤ 5 * 27 := Nat.mul_le_mul (by omega) hfr
    refine kx_mkV (own := RX6) (L0 := [some (.ref 58), some (.int (nI at_)), some (.int (nI (sp_su a s dg at_))), none, none, none, none]) rfl (by decide +kernel) (Nat.le_of_ble_eq_true rfl) rfl (fun F C hR => ?_)
    have loop : ∀ (q t : Nat) (g : kx_H) (z5 z6 : Option Value), a 0 - t = q → t ≤ a 0 → st_SB g a s n ((sp_pv (a 0) dg at_ * a 0 + t) * (a 0) ^ d) → (∀ j, g 61 j = h 61 j) → (∀ e, e < at_ → g 62 e = h 62 e) → (∀ j, j ≠ 10 → g 58 j = h 58 j) → (∀ c j, c ≠ 58 → (c < 61 ∨ 63 < c) → g c j = h c j) → F 62 [some (.ref 58), some (.int (nI at_)), some (.int (nI (sp_su a s dg at_))), some (.int (nI (a 3 + 1 + at_))), some (.int (nI t)), z5, z6] [] g := by
      intro q
      induction q with
      | zero =>
        intro t g z5 z6 hq ht g1 g2 g3 g4 g5
        have q1 : g 58 5 = nI (a 0) := by rw [g4 5 (by omega)]; exact p1
        refine kx_ild4 (pc := 62) C dX6_search_62 ?_
        refine kx_ald0 (pc := 64) C dX6_search_64 ?_
        refine kx_geti (pc := 65) C fl_X6_33 fd_58_5 (by first | assumption | rfl) dX6_search_65 ?_
        refine kx_icmp_geN (pc := 68) C 154 (by omega) (by omega) dX6_search_68 (by decide) (fun c68 => ?_) (fun c68 => ?_)
        · refine hR dX6_search_154 ⟨?_, g2, g3, g4, g5⟩
          rw [show (sp_pv (a 0) dg at_ + 1) * (a 0) ^ (d + 1) = (sp_pv (a 0) dg at_ * a 0 + t) * (a 0) ^ d by
            rw [Nat.pow_succ, show t = a 0 by omega, Nat.mul_comm ((a 0) ^ d) (a 0), ← Nat.mul_assoc, Nat.add_mul, Nat.one_mul]]
          exact g1
        · omega
      | succ q ihq =>
        intro t g z5 z6 hq ht g1 g2 g3 g4 g5
        have hss : st_SS g a n := hSS.kept g4 (fun c j hc => g5 c j (by omega) (by omega))
        obtain ⟨q1, q2, q3, q4, q5, q6, q7⟩ := id hss
        have eh : g 61 t = nI (sp_hv a s dg at_ t) := by rw [g2]; exact hhv t (by omega)
        have bhv := sp_hv_le (dg := dg) (fun t ht => bh s t hs ht) (e := at_) (t := t) (by omega)
        have w0 := sp_wg_le hRB (m := 0) (t := t) (by omega)
        have w1 := sp_wg_le hRB (m := 1) (t := t) (by omega)
        have dg2 : ∀ e, e < at_ → (fun e => if e = at_ then t else dg e) e = dg e := fun e he => if_neg (by omega)
        have dgs : (fun e => if e = at_ then t else dg e) at_ = t := if_pos rfl
        have epv : sp_pv (a 0) (fun e => if e = at_ then t else dg e) (at_ + 1) = sp_pv (a 0) dg at_ * a 0 + t := by
          show sp_pv (a 0) (fun e => if e = at_ then t else dg e) at_ * a 0 + (fun e => if e = at_ then t else dg e) at_ = _
          rw [dgs, sp_pv_cong dg2]
        have esu : sp_su a s (fun e => if e = at_ then t else dg e) (at_ + 1) = sp_su a s dg at_ + sp_wg a (sp_im a s dg at_ t) t := by
          show sp_su a s (fun e => if e = at_ then t else dg e) at_ + sp_wg a (sp_im a s (fun e => if e = at_ then t else dg e) at_ ((fun e => if e = at_ then t else dg e) at_)) ((fun e => if e = at_ then t else dg e) at_) = _
          rw [dgs, sp_su_cong dg2]
          unfold sp_im
          rw [sp_hv_cong dg2]
        have key : ∀ (x : Nat) (z6 : Option Value), x = sp_su a s (fun e => if e = at_ then t else dg e) (at_ + 1) → F 136 [some (.ref 58), some (.int (nI at_)), some (.int (nI (sp_su a s dg at_))), some (.int (nI (a 3 + 1 + at_))), some (.int (nI t)), some (.int (nI (sp_hv a s dg at_ t))), z6] [.int (nI x), .int (nI (at_ + 1)), .ref 58] (kx_up (kx_up g 62 at_ (nI t)) 61 t (nI (a 3 + 1 + at_))) := by
          intro x z6 ex
          subst ex
          have fr : ∀ c j, c ≠ 61 → c ≠ 62 → kx_up (kx_up g 62 at_ (nI t)) 61 t (nI (a 3 + 1 + at_)) c j = g c j := fun c j h1 h2 => by rw [kx_up, if_neg (by omega), kx_up, if_neg (by omega)]
          refine kx_callVV2 (pc := 136) C cs_X6_64 ob_58 (ih (at_ + 1) _ (fun e => if e = at_ then t else dg e) (by omega) (hss.kept (fun j _ => fr _ _ (by omega) (by omega)) (fun c j hc => fr _ _ (by omega) (by omega))) (fun e he => by
                by_cases z : e = at_
                · simp only [z, if_true]; omega
                · simp only [z, if_false]; exact hdg e (by omega)) (fun e he => by
                rw [kx_up, if_neg (by omega)]
                by_cases z : e = at_
                · rw [z, kx_up, if_pos ⟨rfl, rfl⟩]; simp only [if_true]
                · rw [kx_up, if_neg (by omega), g3 e (by omega), hrow e (by omega)]; simp only [z, if_false]) (fun u hu => by
                show _ = nI (if u = (fun e => if e = at_ then t else dg e) at_ then a 3 + 1 + at_ else sp_hv a s (fun e => if e = at_ then t else dg e) at_ u)
                rw [dgs, sp_hv_cong dg2]
                by_cases z : u = t
                · rw [z, kx_up, if_pos ⟨rfl, rfl⟩, if_pos rfl]
                · rw [kx_up, if_neg (by omega), kx_up, if_neg (by omega), if_neg z, g2 u]
                  exact hhv u hu) (by
                rw [epv]
                exact ⟨by rw [fr _ _ (by omega) (by omega)]; exact g1.1, fun z e he => by rw [fr _ _ (by omega) (by omega)]; exact g1.2 z e he⟩)) (by omega) dX6_search_136 (Nat.le_of_ble_eq_true rfl) (fun h136 q136 => ?_)
          rw [epv] at q136
          obtain ⟨l1, l2, l3, l4, l5⟩ := q136
          refine kx_ald0 (pc := 139) C dX6_search_139 ?_
          refine kx_getr (pc := 140) C fl_X6_18 fd_58_2 dX6_search_140 ?_
          refine kx_ild4 (pc := 143) C dX6_search_143 ?_
          refine kx_ild5 (pc := 145) C dX6_search_145 ?_
          refine kx_iast (pc := 147) C ia_61 (by omega) dX6_search_147 ?_
          first | refine kx_inc4 (pc := 148) C (v := nI (_ + 1)) dX6_search_148 (by decide) rfl (nI_1 _) ?_ | refine kx_inc4 (pc := 148) C dX6_search_148 (by decide) rfl rfl ?_
          refine kx_goto (pc := 151) C 62 dX6_search_151 (by decide) ?_
          have fs : ∀ c j, c ≠ 61 → kx_up h136 61 t (nI (sp_hv a s dg at_ t)) c j = h136 c j := fun c j hc => by rw [kx_up, if_neg (by omega)]
          refine ihq (t + 1) _ _ _ (by omega) (by omega) ⟨by rw [fs _ _ (by omega), ← Nat.add_assoc]; exact l1.1, fun z e he => by rw [fs _ _ (by omega), ← Nat.add_assoc]; exact l1.2 (by rw [← Nat.add_assoc] at z; exact z) e he⟩ (fun j => ?_) (fun e he => by rw [fs _ _ (by omega), l3 e (by omega), kx_up, if_neg (by omega), kx_up, if_neg (by omega)]; exact g3 e he) (fun j hj => by rw [fs _ _ (by omega), l4 j hj, fr _ _ (by omega) (by omega)]; exact g4 j hj) (fun c j h1 h2 => by rw [fs _ _ (by omega), l5 c j h1 h2, fr _ _ (by omega) (by omega)]; exact g5 c j h1 h2)
          by_cases z : j = t
          · rw [z, kx_up, if_pos ⟨rfl, rfl⟩, ← g2 t]; exact eh.symm
          · rw [kx_up, if_neg (by omega), l2 j, kx_up, if_neg (by omega), kx_up, if_neg (by omega)]
            exact g2 j
        refine kx_ild4 (pc := 62) C dX6_search_62 ?_
        refine kx_ald0 (pc := 64) C dX6_search_64 ?_
        refine kx_geti (pc := 65) C fl_X6_33 fd_58_5 (by first | assumption | rfl) dX6_search_65 ?_
        refine kx_icmp_geN (pc := 68) C 154 (by omega) (by omega) dX6_search_68 (by decide) (fun c68 => ?_) (fun c68 => ?_)
        · omega
        · refine kx_ald0 (pc := 71) C dX6_search_71 ?_
          refine kx_getr (pc := 72) C fl_X6_18 fd_58_2 dX6_search_72 ?_
          refine kx_ild4 (pc := 75) C dX6_search_75 ?_
          refine kx_iald (pc := 77) C ia_61 (by omega) (by first | assumption | rfl) dX6_search_77 ?_
          refine kx_ist5 (pc := 78) C dX6_search_78 (by decide) rfl ?_
          refine kx_ild5 (pc := 80) C dX6_search_80 ?_
          refine kx_ild3 (pc := 82) C dX6_search_82 ?_
          refine kx_ald0 (pc := 83) C dX6_search_83 ?_
          refine kx_geti (pc := 84) C fl_X6_44 fd_58_8 (by first | assumption | rfl) dX6_search_84 ?_
          refine kx_callNI3 (pc := 87) C cs_X6_87 (m_X8_isRemembered (by omega) (by omega) (by omega)) (by omega) dX6_search_87 (Nat.le_of_ble_eq_true rfl) (fun r87 h87 q87 => ?_)
          obtain ⟨z87, rfl⟩ := q87
          have z87 := z87.symm
          subst z87
          refine kx_ist6 (pc := 90) C dX6_search_90 (by decide) rfl ?_
          refine kx_ald0 (pc := 92) C dX6_search_92 ?_
          refine kx_getr (pc := 93) C fl_X6_21 fd_58_3 dX6_search_93 ?_
          refine kx_ild1 (pc := 96) C dX6_search_96 ?_
          refine kx_ild4 (pc := 97) C dX6_search_97 ?_
          refine kx_iast (pc := 99) C ia_62 (by omega) dX6_search_99 ?_
          refine kx_ald0 (pc := 100) C dX6_search_100 ?_
          refine kx_getr (pc := 101) C fl_X6_18 fd_58_2 dX6_search_101 ?_
          refine kx_ild4 (pc := 104) C dX6_search_104 ?_
          refine kx_ild3 (pc := 106) C dX6_search_106 ?_
          refine kx_iast (pc := 107) C ia_61 (by omega) dX6_search_107 ?_
          refine kx_ald0 (pc := 108) C dX6_search_108 ?_
          refine kx_ild1 (pc := 109) C dX6_search_109 ?_
          refine kx_iconst (pc := 110) C (v := nI 1) dX6_search_110 (by decide) ?_
          refine kx_iaddN (pc := 111) C dX6_search_111 ?_
          refine kx_ild2 (pc := 112) C dX6_search_112 ?_
          refine kx_ild6 (pc := 113) C dX6_search_113 ?_
          refine kx_if_eq (pc := 115) C 128 dX6_search_115 (by decide) (fun c115 => ?_) (fun c115 => ?_)
          · have c115 := kx_if0 c115
            refine kx_ald0 (pc := 128) C dX6_search_128 ?_
            refine kx_getr (pc := 129) C fl_X6_9 fd_58_0 dX6_search_129 ?_
            refine kx_ild4 (pc := 132) C dX6_search_132 ?_
            refine kx_iald (pc := 134) C ia_59 (by omega) (show _ = nI (sp_wg a 0 t) by rw [kx_up, if_neg (by omega), kx_up, if_neg (by omega)]; exact q6 t (by omega)) dX6_search_134 ?_
            first | refine kx_iaddN (pc := 135) C dX6_search_135 ?_ | refine kx_iadd (pc := 135) C dX6_search_135 ?_
            exact key _ _ (by rw [esu, sp_im]; first | rw [if_pos c115] | rw [if_neg c115])
          · have c115 := kx_if1 c115
            refine kx_ald0 (pc := 118) C dX6_search_118 ?_
            refine kx_getr (pc := 119) C fl_X6_15 fd_58_1 dX6_search_119 ?_
            refine kx_ild4 (pc := 122) C dX6_search_122 ?_
            refine kx_iald (pc := 124) C ia_60 (by omega) (show _ = nI (sp_wg a 1 t) by rw [kx_up, if_neg (by omega), kx_up, if_neg (by omega)]; exact q7 t (by omega)) dX6_search_124 ?_
            refine kx_goto (pc := 125) C 135 dX6_search_125 (by decide) ?_
            first | refine kx_iaddN (pc := 135) C dX6_search_135 ?_ | refine kx_iadd (pc := 135) C dX6_search_135 ?_
            exact key _ _ (by rw [esu, sp_im]; first | rw [if_pos c115] | rw [if_neg c115])
    refine kx_ild2 (pc := 0) C dX6_search_0 ?_
    refine kx_ald0 (pc := 1) C dX6_search_1 ?_
    refine kx_geti (pc := 2) C fl_X6_34 fd_58_6 (by first | assumption | rfl) dX6_search_2 ?_
    refine kx_ild1 (pc := 5) C dX6_search_5 ?_
    refine kx_isubN (pc := 6) C (by omega) dX6_search_6 ?_
    rw [show n - at_ = d + 1 by omega]
    refine kx_ald0 (pc := 7) C dX6_search_7 ?_
    refine kx_geti (pc := 8) C fl_X6_45 fd_58_9 (by first | assumption | rfl) dX6_search_8 ?_
    refine kx_imulN (pc := 11) C dX6_search_11 ?_
    refine kx_iaddN (pc := 12) C dX6_search_12 ?_
    refine kx_ald0 (pc := 13) C dX6_search_13 ?_
    refine kx_geti (pc := 14) C fl_X6_48 fd_58_10 hSB.1 dX6_search_14 ?_
    refine kx_icmp_gtI (pc := 17) C 21 dX6_search_17 (by decide) (fun c17 => ?_) (fun c17 => ?_)
    · rw [iI_T (by omega) (by omega), kx_T (by omega)] at c17
      refine kx_ild1 (pc := 21) C dX6_search_21 ?_
      refine kx_ald0 (pc := 22) C dX6_search_22 ?_
      refine kx_geti (pc := 23) C fl_X6_34 fd_58_6 (by first | assumption | rfl) dX6_search_23 ?_
      refine kx_icmp_ltN (pc := 26) C 52 (by omega) (by omega) dX6_search_26 (by decide) (fun c26 => ?_) (fun c26 => ?_)
      · refine kx_ald0 (pc := 52) C dX6_search_52 ?_
        refine kx_geti (pc := 53) C fl_X6_38 fd_58_7 (by first | assumption | rfl) dX6_search_53 ?_
        refine kx_ild1 (pc := 56) C dX6_search_56 ?_
        refine kx_iaddN (pc := 57) C dX6_search_57 ?_
        refine kx_ist3 (pc := 58) C dX6_search_58 (by decide) rfl ?_
        refine kx_iconst (pc := 59) C (v := nI 0) dX6_search_59 (by decide) ?_
        refine kx_ist4 (pc := 60) C dX6_search_60 (by decide) rfl ?_
        refine loop (a 0) 0 h none none (by omega) (by omega) ?_ (fun j => rfl) (fun e _ => rfl) (fun j _ => rfl) (fun c j _ _ => rfl)
        rw [show (sp_pv (a 0) dg at_ * a 0 + 0) * (a 0) ^ d = sp_pv (a 0) dg at_ * (a 0) ^ (d + 1) by rw [Nat.add_zero, Nat.pow_succ, Nat.mul_assoc, Nat.mul_comm (a 0)]]
        exact hSB
      · omega
    · rw [iI_T (by omega) (by omega), kx_T (by omega)] at c17
      have hp := hpr (by omega)
      exact hR dX6_search_20 ⟨⟨by rw [hp.1]; exact hSB.1, fun z e he => by rw [hp.2]; exact hSB.2 (by omega) e he⟩, fun j => rfl, fun e _ => rfl, fun j _ => rfl, fun c j _ _ => rfl⟩
