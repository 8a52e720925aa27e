def sp_y (a : Nat → Nat) (s t e k : Nat) : Nat := sp_cn (fun i => sp_so (sp_m a s t (a 3 + 1)) (sp_te a e t i)) k 0 (a (81 + t))
theorem sp_y_le {a : Nat → Nat} (hB : st_RB a) {s t e k : Nat} (ht : t < 8) : sp_y a s t e k ≤ 9 := Nat.le_trans (sp_cn_le _ _ _ _) (hB.1 t ht)
/-- by a teller unlike all earlier ones -/
def ct_new (y : Nat → Nat → Nat → Nat) (t e : Nat) : Bool := sp_all (fun i => !(sp_all (fun k => decide (y t i k = y t e k)) 4)) e
/-- what the search of coats holds: tales, tellers, what tales give -/
def st_CS (h : kx_H) (T E : Nat) (y : Nat → Nat → Nat → Nat) : Prop := h 64 6 = nI T ∧ h 64 7 = nI E ∧ (∀ t e k, t < T → e < E → k < 4 → h (66 + (t * 4 + e)) k = nI (y t e k)) ∧ (∀ t k, t ≤ T → k < 4 → h (100 + t) k = nI (ct_hp E y (T - t) t k)) ∧ ∀ t e, t < T → e < E → h 98 (t * 4 + e) = if ct_new y t e = true then 1 else 0
theorem st_CS.kept {h g : kx_H} {T E : Nat} {y : Nat → Nat → Nat → Nat} (hs : st_CS h T E y) (hT : T ≤ 8) (hE : E ≤ 4) (h1 : ∀ j, j ≠ 8 → g 64 j = h 64 j) (h2 : ∀ d j, 66 ≤ d → d < 109 → g d j = h d j) : st_CS g T E y := by
  obtain ⟨a1, a2, a3, a4, a5⟩ := hs
  exact ⟨by rw [h1 6 (by omega)]; exact a1, by rw [h1 7 (by omega)]; exact a2, fun t e k ht he hk => by rw [h2 _ k (by omega) (by omega)]; exact a3 t e k ht he hk, fun t k ht hk => by rw [h2 _ k (by omega) (by omega)]; exact a4 t k ht hk, fun t e ht he => by rw [h2 98 _ (by omega) (by omega)]; exact a5 t e ht he⟩
set_option maxHeartbeats 4000000 in
set_option maxRecDepth 100000 in
theorem m_X0_place {h : kx_H} {t e : Nat}  : kx_MI 1 yX0_place cX0_place 2 .int [.int (nI t), .int (nI e)] h (fun r h1 => h1 = h ∧ r = nI (t * 4 + e)) := by
  refine kx_mkI (own := RX0) (L0 := [some (.int (nI t)), some (.int (nI e))]) rfl (by decide +kernel) (Nat.le_of_ble_eq_true rfl) rfl (fun F C hR => ?_)
  refine kx_ild0 (pc := 0) C dX0_place_0 ?_
  refine kx_iconst (pc := 1) C (v := nI 4) dX0_place_1 (by decide) ?_
  refine kx_imulN (pc := 2) C dX0_place_2 ?_
  refine kx_ild1 (pc := 3) C dX0_place_3 ?_
  refine kx_iaddN (pc := 4) C dX0_place_4 ?_
  exact hR dX0_place_5 rfl (⟨rfl, rfl⟩)
def ct_cv (need : Nat → Int) (b : Nat → Nat) : Bool := decide (need 0 ≤ (b 0 : Int) ∧ need 1 ≤ (b 1 : Int) ∧ need 2 ≤ (b 2 : Int) ∧ need 3 ≤ (b 3 : Int))
theorem ct_cv_iff {need : Nat → Int} {b : Nat → Nat} : ct_cv need b = true ↔ ∀ k, k < 4 → need k ≤ (b k : Int) := by
  simp only [ct_cv, decide_eq_true_eq]
  constructor
  · intro h k hk
    rcases (show k = 0 ∨ k = 1 ∨ k = 2 ∨ k = 3 by omega) with rfl | rfl | rfl | rfl <;> omega
  · intro h
    exact ⟨h 0 (by omega), h 1 (by omega), h 2 (by omega), h 3 (by omega)⟩
theorem ct_cov_iff {need : Nat → Int} : ct_cov need = true ↔ ∀ k, k < 4 → need k ≤ 0 := by
  simp only [ct_cov, decide_eq_true_eq]
  constructor
  · intro h k hk
    rcases (show k = 0 ∨ k = 1 ∨ k = 2 ∨ k = 3 by omega) with rfl | rfl | rfl | rfl <;> omega
  · intro h
    exact ⟨h 0 (by omega), h 1 (by omega), h 2 (by omega), h 3 (by omega)⟩
set_option maxHeartbeats 4000000 in
set_option maxRecDepth 100000 in
theorem m_X0_isCovered {h : kx_H} {c : Nat} {need : Nat → Int} {b : Nat → Nat} (hc : kx_ia c 4) (hm : ∀ k, k < 4 → h 109 k = iI (need k)) (hmb : ∀ k, k < 4 → -1000 ≤ need k ∧ need k ≤ 1000) (hb : ∀ k, k < 4 → h c k = nI (b k)) (hbb : ∀ k, k < 4 → b k ≤ 1000) : kx_MI 1 yX0_isCovered cX0_isCovered 3 .boolean [.ref 64, .ref c] h (fun r h1 => h1 = h ∧ r = if ct_cv need b = true then 1 else 0) := by
  refine kx_mkI (own := RX0) (L0 := [some (.ref 64), some (.ref c), none]) rfl (by decide +kernel) (Nat.le_of_ble_eq_true rfl) rfl (fun F C hR => ?_)
  have loop : ∀ (q k : Nat), 4 - k = q → k ≤ 4 → (∀ j, j < k → need j ≤ (b j : Int)) → F 2 [some (.ref 64), some (.ref c), some (.int (nI k))] [] h := by
    intro q
    induction q with
    | zero =>
      intro k hq hk hj
      refine kx_ild2 (pc := 2) C dX0_isCovered_2 ?_
      refine kx_iconst (pc := 3) C (v := nI 4) dX0_isCovered_3 (by decide) ?_
      refine kx_icmp_geN (pc := 4) C 27 (by omega) (by omega) dX0_isCovered_4 (by decide) (fun c4 => ?_) (fun c4 => ?_)
      · refine kx_iconst (pc := 27) C (v := nI 1) dX0_isCovered_27 (by decide) ?_
        exact hR dX0_isCovered_28 rfl ⟨rfl, by rw [if_pos (ct_cv_iff.mpr (fun j hj2 => hj j (by omega)))]; rfl⟩
      · omega
    | succ q ih =>
      intro k hq hk hj
      have e1 := hmb k (by omega)
      have e2 := hbb k (by omega)
      refine kx_ild2 (pc := 2) C dX0_isCovered_2 ?_
      refine kx_iconst (pc := 3) C (v := nI 4) dX0_isCovered_3 (by decide) ?_
      refine kx_icmp_geN (pc := 4) C 27 (by omega) (by omega) dX0_isCovered_4 (by decide) (fun c4 => ?_) (fun c4 => ?_)
      · omega
      · refine kx_ald0 (pc := 7) C dX0_isCovered_7 ?_
        refine kx_getr (pc := 8) C fl_X0_23 fd_64_3 dX0_isCovered_8 ?_
        refine kx_ild2 (pc := 11) C dX0_isCovered_11 ?_
        refine kx_iald (pc := 12) C ia_109 (by omega) (hm _ (by omega)) dX0_isCovered_12 ?_
        refine kx_ald1 (pc := 13) C dX0_isCovered_13 ?_
        refine kx_ild2 (pc := 14) C dX0_isCovered_14 ?_
        refine kx_iald (pc := 15) C hc (by omega) (hb _ (by omega)) dX0_isCovered_15 ?_
        refine kx_icmp_leI (pc := 16) C 21 dX0_isCovered_16 (by decide) (fun c16 => ?_) (fun c16 => ?_)
        · rw [iI_T (by omega) (by omega), kx_T (by omega)] at c16
          first | refine kx_inc2 (pc := 21) C (v := nI (_ + 1)) dX0_isCovered_21 (by decide) rfl (nI_1 _) ?_ | refine kx_inc2 (pc := 21) C dX0_isCovered_21 (by decide) rfl rfl ?_
          refine kx_goto (pc := 24) C 2 dX0_isCovered_24 (by decide) ?_
          exact ih (k + 1) (by omega) (by omega) (fun j hj2 => by rcases Nat.lt_or_ge j k with y | y; exact hj j y; rw [show j = k by omega]; exact c16)
        · rw [iI_T (by omega) (by omega), kx_T (by omega)] at c16
          refine kx_iconst (pc := 19) C (v := nI 0) dX0_isCovered_19 (by decide) ?_
          exact hR dX0_isCovered_20 rfl ⟨rfl, by rw [if_neg (fun z => by have := ct_cv_iff.mp z k (by omega); omega)]; rfl⟩
  refine kx_iconst (pc := 0) C (v := nI 0) dX0_isCovered_0 (by decide) ?_
  refine kx_ist2 (pc := 1) C dX0_isCovered_1 (by decide) rfl ?_
  exact loop 4 0 (by omega) (by omega) (fun j hj => absurd hj (by omega))
theorem ct_m1 (x : Int) (w : Nat) : iI x - nI 1 * nI w = iI (x - (w : Int)) := by
  rw [pk_mul, Nat.one_mul, iI_nI w, iI_sub]
theorem ct_m2 (x : Int) (w : Nat) : iI x - (-1) * nI w = iI (x + (w : Int)) := by
  rw [← iI_add, ← iI_nI, Int32.neg_mul, Int32.one_mul, Int32.sub_neg]
set_option maxHeartbeats 4000000 in
set_option maxRecDepth 100000 in
theorem m_X0_take1 {h : kx_H} {p : Nat} {need : Nat → Int} {w : Nat → Nat} (hp : p < 32) (hm : ∀ k, k < 4 → h 109 k = iI (need k)) (hw : ∀ k, k < 4 → h (66 + p) k = nI (w k)) : kx_MV 1 yX0_take cX0_take 4 [.ref 64, .int (nI p), .int (nI 1)] h (fun h1 => (∀ k, k < 4 → h1 109 k = iI (need k - (w k : Int))) ∧ ∀ d j, d ≠ 109 → h1 d j = h d j) := by
  refine kx_mkV (own := RX0) (L0 := [some (.ref 64), some (.int (nI p)), some (.int (nI 1)), none]) rfl (by decide +kernel) (Nat.le_of_ble_eq_true rfl) rfl (fun F C hR => ?_)
  have loop : ∀ (q k : Nat) (g : kx_H), 4 - k = q → k ≤ 4 → (∀ j, j < k → g 109 j = iI (need j - (w j : Int))) → (∀ j, k ≤ j → g 109 j = h 109 j) → (∀ d j, d ≠ 109 → g d j = h d j) → F 2 [some (.ref 64), some (.int (nI p)), some (.int (nI 1)), some (.int (nI k))] [] g := by
    intro q
    induction q with
    | zero =>
      intro k g hq hk g1 g2 g3
      refine kx_ild3 (pc := 2) C dX0_take_2 ?_
      refine kx_iconst (pc := 3) C (v := nI 4) dX0_take_3 (by decide) ?_
      refine kx_icmp_geN (pc := 4) C 32 (by omega) (by omega) dX0_take_4 (by decide) (fun c4 => ?_) (fun c4 => ?_)
      · exact hR dX0_take_32 ⟨fun j hj => g1 j (by omega), g3⟩
      · omega
    | succ q ih =>
      intro k g hq hk g1 g2 g3
      have e1 : g 109 k = iI (need k) := by rw [g2 k (by omega)]; exact hm k (by omega)
      have e2 : g (66 + p) k = nI (w k) := by rw [g3 _ _ (by omega)]; exact hw k (by omega)
      refine kx_ild3 (pc := 2) C dX0_take_2 ?_
      refine kx_iconst (pc := 3) C (v := nI 4) dX0_take_3 (by decide) ?_
      refine kx_icmp_geN (pc := 4) C 32 (by omega) (by omega) dX0_take_4 (by decide) (fun c4 => ?_) (fun c4 => ?_)
      · omega
      · refine kx_ald0 (pc := 7) C dX0_take_7 ?_
        refine kx_getr (pc := 8) C fl_X0_23 fd_64_3 dX0_take_8 ?_
        refine kx_ild3 (pc := 11) C dX0_take_11 ?_
        refine kx_dup2 (pc := 12) C dX0_take_12 rfl rfl ?_
        refine kx_iald (pc := 13) C ia_109 (by omega) e1 dX0_take_13 ?_
        refine kx_ild2 (pc := 14) C dX0_take_14 ?_
        refine kx_ald0 (pc := 15) C dX0_take_15 ?_
        refine kx_getr (pc := 16) C fl_X0_11 fd_64_0 dX0_take_16 ?_
        refine kx_ild1 (pc := 19) C dX0_take_19 ?_
        refine kx_aald1 (pc := 20) C ra_65 (by omega) dX0_take_20 ?_
        refine kx_ild3 (pc := 21) C dX0_take_21 ?_
        refine kx_iald (pc := 22) C (if_spun _ (by omega)) (by omega) e2 dX0_take_22 ?_
        refine kx_imul (pc := 23) C dX0_take_23 ?_
        refine kx_isub (pc := 24) C dX0_take_24 ?_
        rw [ct_m1]
        refine kx_iast (pc := 25) C ia_109 (by omega) dX0_take_25 ?_
        first | refine kx_inc3 (pc := 26) C (v := nI (_ + 1)) dX0_take_26 (by decide) rfl (nI_1 _) ?_ | refine kx_inc3 (pc := 26) C dX0_take_26 (by decide) rfl rfl ?_
        refine kx_goto (pc := 29) C 2 dX0_take_29 (by decide) ?_
        refine ih (k + 1) _ (by omega) (by omega) (fun j hj => ?_) (fun j hj => by rw [kx_up, if_neg (by omega)]; exact g2 j (by omega)) (fun d j hd => by rw [kx_up, if_neg (by omega)]; exact g3 d j hd)
        by_cases z : j = k
        · rw [z, kx_up, if_pos ⟨rfl, rfl⟩]
        · rw [kx_up, if_neg (by omega)]; exact g1 j (by omega)
  refine kx_iconst (pc := 0) C (v := nI 0) dX0_take_0 (by decide) ?_
  refine kx_ist3 (pc := 1) C dX0_take_1 (by decide) rfl ?_
  exact loop 4 0 h (by omega) (by omega) (fun j hj => absurd hj (by omega)) (fun j _ => rfl) (fun d j _ => rfl)
set_option maxHeartbeats 4000000 in
set_option maxRecDepth 100000 in
theorem m_X0_take2 {h : kx_H} {p : Nat} {need : Nat → Int} {w : Nat → Nat} (hp : p < 32) (hm : ∀ k, k < 4 → h 109 k = iI (need k)) (hw : ∀ k, k < 4 → h (66 + p) k = nI (w k)) : kx_MV 1 yX0_take cX0_take 4 [.ref 64, .int (nI p), .int (-1)] h (fun h1 => (∀ k, k < 4 → h1 109 k = iI (need k + (w k : Int))) ∧ ∀ d j, d ≠ 109 → h1 d j = h d j) := by
  refine kx_mkV (own := RX0) (L0 := [some (.ref 64), some (.int (nI p)), some (.int (-1)), none]) rfl (by decide +kernel) (Nat.le_of_ble_eq_true rfl) rfl (fun F C hR => ?_)
  have loop : ∀ (q k : Nat) (g : kx_H), 4 - k = q → k ≤ 4 → (∀ j, j < k → g 109 j = iI (need j + (w j : Int))) → (∀ j, k ≤ j → g 109 j = h 109 j) → (∀ d j, d ≠ 109 → g d j = h d j) → F 2 [some (.ref 64), some (.int (nI p)), some (.int (-1)), some (.int (nI k))] [] g := by
    intro q
    induction q with
    | zero =>
      intro k g hq hk g1 g2 g3
      refine kx_ild3 (pc := 2) C dX0_take_2 ?_
      refine kx_iconst (pc := 3) C (v := nI 4) dX0_take_3 (by decide) ?_
      refine kx_icmp_geN (pc := 4) C 32 (by omega) (by omega) dX0_take_4 (by decide) (fun c4 => ?_) (fun c4 => ?_)
      · exact hR dX0_take_32 ⟨fun j hj => g1 j (by omega), g3⟩
      · omega
    | succ q ih =>
      intro k g hq hk g1 g2 g3
      have e1 : g 109 k = iI (need k) := by rw [g2 k (by omega)]; exact hm k (by omega)
      have e2 : g (66 + p) k = nI (w k) := by rw [g3 _ _ (by omega)]; exact hw k (by omega)
      refine kx_ild3 (pc := 2) C dX0_take_2 ?_
      refine kx_iconst (pc := 3) C (v := nI 4) dX0_take_3 (by decide) ?_
      refine kx_icmp_geN (pc := 4) C 32 (by omega) (by omega) dX0_take_4 (by decide) (fun c4 => ?_) (fun c4 => ?_)
      · omega
      · refine kx_ald0 (pc := 7) C dX0_take_7 ?_
        refine kx_getr (pc := 8) C fl_X0_23 fd_64_3 dX0_take_8 ?_
        refine kx_ild3 (pc := 11) C dX0_take_11 ?_
        refine kx_dup2 (pc := 12) C dX0_take_12 rfl rfl ?_
        refine kx_iald (pc := 13) C ia_109 (by omega) e1 dX0_take_13 ?_
        refine kx_ild2 (pc := 14) C dX0_take_14 ?_
        refine kx_ald0 (pc := 15) C dX0_take_15 ?_
        refine kx_getr (pc := 16) C fl_X0_11 fd_64_0 dX0_take_16 ?_
        refine kx_ild1 (pc := 19) C dX0_take_19 ?_
        refine kx_aald1 (pc := 20) C ra_65 (by omega) dX0_take_20 ?_
        refine kx_ild3 (pc := 21) C dX0_take_21 ?_
        refine kx_iald (pc := 22) C (if_spun _ (by omega)) (by omega) e2 dX0_take_22 ?_
        refine kx_imul (pc := 23) C dX0_take_23 ?_
        refine kx_isub (pc := 24) C dX0_take_24 ?_
        rw [ct_m2]
        refine kx_iast (pc := 25) C ia_109 (by omega) dX0_take_25 ?_
        first | refine kx_inc3 (pc := 26) C (v := nI (_ + 1)) dX0_take_26 (by decide) rfl (nI_1 _) ?_ | refine kx_inc3 (pc := 26) C dX0_take_26 (by decide) rfl rfl ?_
        refine kx_goto (pc := 29) C 2 dX0_take_29 (by decide) ?_
        refine ih (k + 1) _ (by omega) (by omega) (fun j hj => ?_) (fun j hj => by rw [kx_up, if_neg (by omega)]; exact g2 j (by omega)) (fun d j hd => by rw [kx_up, if_neg (by omega)]; exact g3 d j hd)
        by_cases z : j = k
        · rw [z, kx_up, if_pos ⟨rfl, rfl⟩]
        · rw [kx_up, if_neg (by omega)]; exact g1 j (by omega)
  refine kx_iconst (pc := 0) C (v := nI 0) dX0_take_0 (by decide) ?_
  refine kx_ist3 (pc := 1) C dX0_take_1 (by decide) rfl ?_
  exact loop 4 0 h (by omega) (by omega) (fun j hj => absurd hj (by omega)) (fun j _ => rfl) (fun d j _ => rfl)
set_option maxHeartbeats 4000000 in
set_option maxRecDepth 100000 in
theorem m_X0_isUnlikeEarlier {h : kx_H} {t e : Nat} {y : Nat → Nat → Nat → Nat} (ht : t < 8) (he : e < 4) (hy : ∀ i k, i ≤ e → k < 4 → h (66 + (t * 4 + i)) k = nI (y t i k)) (hy9 : ∀ i k, i ≤ e → k < 4 → y t i k ≤ 9) : kx_MI 2 yX0_isUnlikeEarlier cX0_isUnlikeEarlier 4 .boolean [.ref 64, .int (nI t), .int (nI e)] h (fun r h1 => h1 = h ∧ r = if ct_new y t e = true then 1 else 0) := by
  refine kx_mkI (own := RX0) (L0 := [some (.ref 64), some (.int (nI t)), some (.int (nI e)), none]) rfl (by decide +kernel) (Nat.le_of_ble_eq_true rfl) rfl (fun F C hR => ?_)
  have same : ∀ i, i ≤ e → ((∀ k, k < 4 → h (66 + (t * 4 + i)) k = h (66 + (t * 4 + e)) k) ↔ sp_all (fun k => decide (y t i k = y t e k)) 4 = true) := by
    intro i hi
    rw [sp_all_iff]
    constructor
    · intro z k hk
      have := z k hk
      rw [hy i k hi hk, hy e k (by omega) hk, nI_eq (by have := hy9 i k hi hk; omega) (by have := hy9 e k (by omega) hk; omega)] at this
      exact decide_eq_true this
    · intro z k hk
      have := z k hk
      simp only [decide_eq_true_eq] at this
      rw [hy i k hi hk, hy e k (by omega) hk, this]
  have loop : ∀ (q i : Nat), e - i = q → i ≤ e → (∀ j, j < i → (!(sp_all (fun k => decide (y t j k = y t e k)) 4)) = true) → F 2 [some (.ref 64), some (.int (nI t)), some (.int (nI e)), some (.int (nI i))] [] h := by
    intro q
    induction q with
    | zero =>
      intro i hq hi hj
      refine kx_ild3 (pc := 2) C dX0_isUnlikeEarlier_2 ?_
      refine kx_ild2 (pc := 3) C dX0_isUnlikeEarlier_3 ?_
      refine kx_icmp_geN (pc := 4) C 42 (by omega) (by omega) dX0_isUnlikeEarlier_4 (by decide) (fun c4 => ?_) (fun c4 => ?_)
      · refine kx_iconst (pc := 42) C (v := nI 1) dX0_isUnlikeEarlier_42 (by decide) ?_
        exact hR dX0_isUnlikeEarlier_43 rfl ⟨rfl, by rw [if_pos (show ct_new y t e = true from sp_all_iff.mpr (fun j hj2 => hj j (by omega)))]; rfl⟩
      · omega
    | succ q ih =>
      intro i hq hi hj
      refine kx_ild3 (pc := 2) C dX0_isUnlikeEarlier_2 ?_
      refine kx_ild2 (pc := 3) C dX0_isUnlikeEarlier_3 ?_
      refine kx_icmp_geN (pc := 4) C 42 (by omega) (by omega) dX0_isUnlikeEarlier_4 (by decide) (fun c4 => ?_) (fun c4 => ?_)
      · omega
      · refine kx_ald0 (pc := 7) C dX0_isUnlikeEarlier_7 ?_
        refine kx_getr (pc := 8) C fl_X0_11 fd_64_0 dX0_isUnlikeEarlier_8 ?_
        refine kx_ild1 (pc := 11) C dX0_isUnlikeEarlier_11 ?_
        refine kx_ild3 (pc := 12) C dX0_isUnlikeEarlier_12 ?_
        refine kx_callSI2 (pc := 13) C cs_X0_66 (m_X0_place) (by decide) dX0_isUnlikeEarlier_13 (Nat.le_of_ble_eq_true rfl) (fun r13 h13 q13 => ?_)
        obtain ⟨z13, rfl⟩ := q13
        have z13 := z13.symm
        subst z13
        refine kx_aald1 (pc := 16) C ra_65 (by omega) dX0_isUnlikeEarlier_16 ?_
        refine kx_ald0 (pc := 17) C dX0_isUnlikeEarlier_17 ?_
        refine kx_getr (pc := 18) C fl_X0_11 fd_64_0 dX0_isUnlikeEarlier_18 ?_
        refine kx_ild1 (pc := 21) C dX0_isUnlikeEarlier_21 ?_
        refine kx_ild2 (pc := 22) C dX0_isUnlikeEarlier_22 ?_
        refine kx_callSI2 (pc := 23) C cs_X0_66 (m_X0_place) (by decide) dX0_isUnlikeEarlier_23 (Nat.le_of_ble_eq_true rfl) (fun r23 h23 q23 => ?_)
        obtain ⟨z23, rfl⟩ := q23
        have z23 := z23.symm
        subst z23
        refine kx_aald1 (pc := 26) C ra_65 (by omega) dX0_isUnlikeEarlier_26 ?_
        refine kx_iconst (pc := 27) C (v := nI 4) dX0_isUnlikeEarlier_27 (by decide) ?_
        refine kx_callNI3 (pc := 28) C cs_X0_81 (m_X8_areSame (if_spun _ (by omega)) (if_spun _ (by omega)) (by omega) (by omega)) (by decide) dX0_isUnlikeEarlier_28 (Nat.le_of_ble_eq_true rfl) (fun r28 h28 q28 => ?_)
        obtain ⟨z28, rfl⟩ := q28
        have z28 := z28.symm
        subst z28
        refine kx_if_eq (pc := 31) C 36 dX0_isUnlikeEarlier_31 (by decide) (fun c31 => ?_) (fun c31 => ?_)
        · first | refine kx_inc3 (pc := 36) C (v := nI (_ + 1)) dX0_isUnlikeEarlier_36 (by decide) rfl (nI_1 _) ?_ | refine kx_inc3 (pc := 36) C dX0_isUnlikeEarlier_36 (by decide) rfl rfl ?_
          refine kx_goto (pc := 39) C 2 dX0_isUnlikeEarlier_39 (by decide) ?_
          have no := fun z => kx_if0 c31 ((same i (by omega)).mpr z)
          exact ih (i + 1) (by omega) (by omega) (fun j hj2 => by
            rcases Nat.lt_or_ge j i with w | w
            · exact hj j w
            · rw [show j = i by omega, Bool.eq_false_iff.mpr no]; rfl)
        · refine kx_iconst (pc := 34) C (v := nI 0) dX0_isUnlikeEarlier_34 (by decide) ?_
          have yes := (same i (by omega)).mp (kx_if1 c31)
          exact hR dX0_isUnlikeEarlier_35 rfl ⟨rfl, by rw [if_neg (show ¬ ct_new y t e = true from fun z => by have := sp_all_iff.mp z i (by omega); rw [yes] at this; exact absurd this (by decide))]; rfl⟩
  refine kx_iconst (pc := 0) C (v := nI 0) dX0_isUnlikeEarlier_0 (by decide) ?_
  refine kx_ist3 (pc := 1) C dX0_isUnlikeEarlier_1 (by decide) rfl ?_
  exact loop e 0 (by omega) (by omega) (fun j hj => absurd hj (by omega))
set_option maxHeartbeats 4000000 in
set_option maxRecDepth 100000 in
theorem m_X0_spinAll {h : kx_H} {a : Nat → Nat} {s t : Nat} (hRD : st_RD 2 4 12 h a) (hHD : st_HD 19 h a) (hev : h 1 3 = nI (a 3)) (hme : h 1 4 = nI (a 8)) (hB : st_B a) (hs : s < 4) (ht : t < 8) (hE : h 64 7 = nI (a 1)) : kx_MV 5 yX0_spinAll cX0_spinAll 8 [.ref 64, .ref 1, .int (nI s), .int (nI t)] h (fun g => (∀ i k, i < a 1 → k < 4 → g (66 + (t * 4 + i)) k = nI (sp_y a s t i k)) ∧ (∀ i, i < a 1 → g 98 (t * 4 + i) = if ct_new (sp_y a s) t i = true then 1 else 0) ∧ (∀ d j, (d < 66 + t * 4 ∨ 66 + t * 4 + a 1 ≤ d) → (d ≠ 98 ∨ j < t * 4 ∨ t * 4 + a 1 ≤ j) → g d j = h d j)) := by
  refine kx_mkV (own := RX0) (L0 := [some (.ref 64), some (.ref 1), some (.int (nI s)), some (.int (nI t)), none, none, none, none]) rfl (by decide +kernel) (Nat.le_of_ble_eq_true rfl) rfl (fun F C hR => ?_)
  obtain ⟨⟨b0, b1, b2, b3, b8, b8'⟩, hRB, bl, byy, bh, bz, bb⟩ := id hB
  have l1 := hRB.1 t ht
  have hml := sp_m_le a s t (a 3 + 1)
  have hb2 := bh s t hs ht
  have loop : ∀ (q e : Nat) (g : kx_H) (z6 z7 : Option Value), a 1 - e = q → e ≤ a 1 → (∀ i k, i < e → k < 4 → g (66 + (t * 4 + i)) k = nI (sp_y a s t i k)) → (∀ i, i < e → g 98 (t * 4 + i) = if ct_new (sp_y a s) t i = true then 1 else 0) → (∀ d j, (d < 66 + t * 4 ∨ 66 + t * 4 + a 1 ≤ d) → (d ≠ 98 ∨ j < t * 4 ∨ t * 4 + a 1 ≤ j) → g d j = h d j) → F 17 [some (.ref 64), some (.ref 1), some (.int (nI s)), some (.int (nI t)), some (.int (nI (sp_m a s t (a 3 + 1)))), some (.int (nI e)), z6, z7] [] g := by
    intro q
    induction q with
    | zero =>
      intro e g z6 z7 hq he g1 g2 g3
      have e7 : g 64 7 = nI (a 1) := by rw [g3 64 7 (by omega) (by omega)]; exact hE
      refine kx_ild5 (pc := 17) C dX0_spinAll_17 ?_
      refine kx_ald0 (pc := 19) C dX0_spinAll_19 ?_
      refine kx_geti (pc := 20) C fl_X0_43 fd_64_7 (by first | assumption | rfl) dX0_spinAll_20 ?_
      refine kx_icmp_geN (pc := 23) C 102 (by omega) (by omega) dX0_spinAll_23 (by decide) (fun c23 => ?_) (fun c23 => ?_)
      · exact hR dX0_spinAll_102 ⟨fun i k hi hk => g1 i k (by omega) hk, fun i hi => g2 i (by omega), g3⟩
      · omega
    | succ q ih =>
      intro e g z6 z7 hq he g1 g2 g3
      have e7 : g 64 7 = nI (a 1) := by rw [g3 64 7 (by omega) (by omega)]; exact hE
      have zero : ∀ (q2 k : Nat) (g2 : kx_H), 4 - k = q2 → k ≤ 4 → (∀ j, j < k → g2 (66 + (t * 4 + e)) j = 0) → (∀ d j, d ≠ 66 + (t * 4 + e) → g2 d j = g d j) → F 42 [some (.ref 64), some (.ref 1), some (.int (nI s)), some (.int (nI t)), some (.int (nI (sp_m a s t (a 3 + 1)))), some (.int (nI e)), some (.ref (66 + (t * 4 + e))), some (.int (nI k))] [] g2 := by
        intro q2
        induction q2 with
        | zero =>
          intro k g4 hq2 hk f1 f2
          have hr2 : st_RD 2 4 12 g4 a := hRD.kept2 (fun j => by rw [f2 _ _ (by omega), g3 _ _ (by omega) (by omega)]) (fun d j h1 h2 => by rw [f2 _ _ (by omega), g3 _ _ (by omega) (by omega)]) (fun j => by rw [f2 _ _ (by omega), g3 _ _ (by omega) (by omega)])
          refine kx_ild7 (pc := 42) C dX0_spinAll_42 ?_
          refine kx_iconst (pc := 44) C (v := nI 4) dX0_spinAll_44 (by decide) ?_
          refine kx_icmp_geN (pc := 45) C 60 (by omega) (by omega) dX0_spinAll_45 (by decide) (fun c45 => ?_) (fun c45 => ?_)
          · refine kx_ald1 (pc := 60) C dX0_spinAll_60 ?_
            refine kx_ald6 (pc := 61) C dX0_spinAll_61 ?_
            refine kx_ild5 (pc := 63) C dX0_spinAll_63 ?_
            refine kx_ild3 (pc := 65) C dX0_spinAll_65 ?_
            refine kx_iconst (pc := 66) C (v := nI 0) dX0_spinAll_66 (by decide) ?_
            refine kx_ald1 (pc := 67) C dX0_spinAll_67 ?_
            refine kx_getr (pc := 68) C fl_X0_70 fd_1_5 dX0_spinAll_68 ?_
            refine kx_ild3 (pc := 71) C dX0_spinAll_71 ?_
            refine kx_iald (pc := 72) C ia_2 (by omega) (hr2.1 _ (by omega)) dX0_spinAll_72 ?_
            refine kx_ild4 (pc := 73) C dX0_spinAll_73 ?_
            refine kx_callVV6 (pc := 75) C cs_X0_73 ob_1 (m_X2_spin hr2 hRB (if_spun _ (by omega)) (by omega) (by omega) (by omega) (by omega) (by omega) hml) (by decide) dX0_spinAll_75 (Nat.le_of_ble_eq_true rfl) (fun h75 q75 => ?_)
            obtain ⟨k1, k2⟩ := q75
            have ky : ∀ k, k < 4 → h75 (66 + (t * 4 + e)) k = nI (sp_y a s t e k) := fun k hk => by
              rw [k1 k hk, f1 k (by omega), Int32.zero_add]; rfl
            have kall : ∀ i k, i ≤ e → k < 4 → h75 (66 + (t * 4 + i)) k = nI (sp_y a s t i k) := fun i k hi hk => by
              by_cases w : i = e
              · rw [w]; exact ky k hk
              · rw [k2 _ _ (by omega), f2 _ _ (by omega)]; exact g1 i k (by omega) hk
            refine kx_ald0 (pc := 78) C dX0_spinAll_78 ?_
            refine kx_getr (pc := 79) C fl_X0_16 fd_64_1 dX0_spinAll_79 ?_
            refine kx_ild3 (pc := 82) C dX0_spinAll_82 ?_
            refine kx_ild5 (pc := 83) C dX0_spinAll_83 ?_
            refine kx_callSI2 (pc := 85) C cs_X0_66 (m_X0_place) (by decide) dX0_spinAll_85 (Nat.le_of_ble_eq_true rfl) (fun r85 h85 q85 => ?_)
            obtain ⟨z85, rfl⟩ := q85
            have z85 := z85.symm
            subst z85
            refine kx_ald0 (pc := 88) C dX0_spinAll_88 ?_
            refine kx_ild3 (pc := 89) C dX0_spinAll_89 ?_
            refine kx_ild5 (pc := 90) C dX0_spinAll_90 ?_
            refine kx_callVI2 (pc := 92) C cs_X0_77 ob_64 (m_X0_isUnlikeEarlier (y := sp_y a s) ht (by omega) kall (fun i k _ _ => sp_y_le hRB ht)) (by decide) dX0_spinAll_92 (Nat.le_of_ble_eq_true rfl) (fun r92 h92 q92 => ?_)
            obtain ⟨z92, e92⟩ := q92
            have z92 := z92.symm
            subst z92
            have b92 : r92 = 0 ∨ r92 = 1 := by rw [e92]; split; exact Or.inr rfl; exact Or.inl rfl
            refine kx_zast (pc := 95) C za_98 (by omega) (b92) dX0_spinAll_95 ?_
            first | refine kx_inc5 (pc := 96) C (v := nI (_ + 1)) dX0_spinAll_96 (by decide) rfl (nI_1 _) ?_ | refine kx_inc5 (pc := 96) C dX0_spinAll_96 (by decide) rfl rfl ?_
            refine kx_goto (pc := 99) C 17 dX0_spinAll_99 (by decide) ?_
            refine ih (e + 1) _ _ _ (by omega) (by omega) (fun i k hi hk => by rw [kx_up, if_neg (by omega)]; exact kall i k (by omega) hk) (fun i hi => ?_) (fun d j h1 h2 => ?_)
            · by_cases w : i = e
              · rw [w, kx_up, if_pos ⟨rfl, rfl⟩, e92]
              · rw [kx_up, if_neg (by omega), k2 _ _ (by omega), f2 _ _ (by omega)]; exact g2 i (by omega)
            · rw [kx_up, if_neg (by omega), k2 _ _ (by omega), f2 _ _ (by omega)]; exact g3 d j h1 h2
          · omega
        | succ q2 ih2 =>
          intro k g4 hq2 hk f1 f2
          refine kx_ild7 (pc := 42) C dX0_spinAll_42 ?_
          refine kx_iconst (pc := 44) C (v := nI 4) dX0_spinAll_44 (by decide) ?_
          refine kx_icmp_geN (pc := 45) C 60 (by omega) (by omega) dX0_spinAll_45 (by decide) (fun c45 => ?_) (fun c45 => ?_)
          · omega
          · refine kx_ald6 (pc := 48) C dX0_spinAll_48 ?_
            refine kx_ild7 (pc := 50) C dX0_spinAll_50 ?_
            refine kx_iconst (pc := 52) C (v := nI 0) dX0_spinAll_52 (by decide) ?_
            refine kx_iast (pc := 53) C (if_spun _ (by omega)) (by omega) dX0_spinAll_53 ?_
            first | refine kx_inc7 (pc := 54) C (v := nI (_ + 1)) dX0_spinAll_54 (by decide) rfl (nI_1 _) ?_ | refine kx_inc7 (pc := 54) C dX0_spinAll_54 (by decide) rfl rfl ?_
            refine kx_goto (pc := 57) C 42 dX0_spinAll_57 (by decide) ?_
            refine ih2 (k + 1) _ (by omega) (by omega) (fun j hj => ?_) (fun d j hd => by rw [kx_up, if_neg (by omega)]; exact f2 d j hd)
            by_cases w : j = k
            · rw [w, kx_up, if_pos ⟨rfl, rfl⟩]; rfl
            · rw [kx_up, if_neg (by omega)]; exact f1 j (by omega)
      refine kx_ild5 (pc := 17) C dX0_spinAll_17 ?_
      refine kx_ald0 (pc := 19) C dX0_spinAll_19 ?_
      refine kx_geti (pc := 20) C fl_X0_43 fd_64_7 (by first | assumption | rfl) dX0_spinAll_20 ?_
      refine kx_icmp_geN (pc := 23) C 102 (by omega) (by omega) dX0_spinAll_23 (by decide) (fun c23 => ?_) (fun c23 => ?_)
      · omega
      · refine kx_ald0 (pc := 26) C dX0_spinAll_26 ?_
        refine kx_getr (pc := 27) C fl_X0_11 fd_64_0 dX0_spinAll_27 ?_
        refine kx_ild3 (pc := 30) C dX0_spinAll_30 ?_
        refine kx_ild5 (pc := 31) C dX0_spinAll_31 ?_
        refine kx_callSI2 (pc := 33) C cs_X0_66 (m_X0_place) (by decide) dX0_spinAll_33 (Nat.le_of_ble_eq_true rfl) (fun r33 h33 q33 => ?_)
        obtain ⟨z33, rfl⟩ := q33
        have z33 := z33.symm
        subst z33
        refine kx_aald1 (pc := 36) C ra_65 (by omega) dX0_spinAll_36 ?_
        refine kx_ast6 (pc := 37) C dX0_spinAll_37 (by decide) rfl ?_
        refine kx_iconst (pc := 39) C (v := nI 0) dX0_spinAll_39 (by decide) ?_
        refine kx_ist7 (pc := 40) C dX0_spinAll_40 (by decide) rfl ?_
        exact zero 4 0 g (by omega) (by omega) (fun j hj => absurd hj (by omega)) (fun d j _ => rfl)
  refine kx_ald1 (pc := 0) C dX0_spinAll_0 ?_
  refine kx_ild2 (pc := 1) C dX0_spinAll_1 ?_
  refine kx_ild3 (pc := 2) C dX0_spinAll_2 ?_
  refine kx_ald1 (pc := 3) C dX0_spinAll_3 ?_
  refine kx_geti (pc := 4) C fl_X0_59 fd_1_3 (by first | assumption | rfl) dX0_spinAll_4 ?_
  refine kx_iconst (pc := 7) C (v := nI 1) dX0_spinAll_7 (by decide) ?_
  first | refine kx_iaddN (pc := 8) C dX0_spinAll_8 ?_ | refine kx_iadd (pc := 8) C dX0_spinAll_8 ?_
  refine kx_callVI3 (pc := 9) C cs_X0_62 ob_1 (m_X2_isInMind hme (by omega) hHD (by omega) (by omega) (by omega) (by omega)) (by decide) dX0_spinAll_9 (Nat.le_of_ble_eq_true rfl) (fun r9 h9 q9 => ?_)
  obtain ⟨z9, rfl⟩ := q9
  have z9 := z9.symm
  subst z9
  rw [sp_m_eq]
  refine kx_ist4 (pc := 12) C dX0_spinAll_12 (by decide) rfl ?_
  refine kx_iconst (pc := 14) C (v := nI 0) dX0_spinAll_14 (by decide) ?_
  refine kx_ist5 (pc := 15) C dX0_spinAll_15 (by decide) rfl ?_
  exact loop (a 1) 0 h none none (by omega) (by omega) (fun i k hi _ => absurd hi (by omega)) (fun i hi => absurd hi (by omega)) (fun d j _ _ => rfl)
set_option maxHeartbeats 4000000 in
set_option maxRecDepth 100000 in
theorem m_X0_addHope {h : kx_H} {t E : Nat} {w f : Nat → Nat} {y : Nat → Nat → Nat → Nat} (ht : t < 8) (hE4 : E ≤ 4) (hE : h 64 7 = nI E) (hy : ∀ e k, e < E → k < 4 → h (66 + (t * 4 + e)) k = nI (y t e k)) (hy9 : ∀ e k, e < E → k < 4 → y t e k ≤ 9) (hf : ∀ k, k < 4 → h (100 + (t + 1)) k = nI (f k)) : kx_MV 2 yX0_addHope cX0_addHope 5 [.ref 64, .int (nI t)] h (fun g => (∀ k, k < 4 → g (100 + t) k = nI (f k + sp_mx (fun e => y t e k) E)) ∧ ∀ d j, d ≠ 100 + t → g d j = h d j) := by
  refine kx_mkV (own := RX0) (L0 := [some (.ref 64), some (.int (nI t)), none, none, none]) rfl (by decide +kernel) (Nat.le_of_ble_eq_true rfl) rfl (fun F C hR => ?_)
  have loop : ∀ (q k : Nat) (g : kx_H) (z3 z4 : Option Value), 4 - k = q → k ≤ 4 → (∀ j, j < k → g (100 + t) j = nI (f j + sp_mx (fun e => y t e j) E)) → (∀ d j, d ≠ 100 + t → g d j = h d j) → F 2 [some (.ref 64), some (.int (nI t)), some (.int (nI k)), z3, z4] [] g := by
    intro q
    induction q with
    | zero =>
      intro k g z3 z4 hq hk g1 g2
      refine kx_ild2 (pc := 2) C dX0_addHope_2 ?_
      refine kx_iconst (pc := 3) C (v := nI 4) dX0_addHope_3 (by decide) ?_
      refine kx_icmp_geN (pc := 4) C 71 (by omega) (by omega) dX0_addHope_4 (by decide) (fun c4 => ?_) (fun c4 => ?_)
      · exact hR dX0_addHope_71 ⟨fun j hj => g1 j (by omega), g2⟩
      · omega
    | succ q ih =>
      intro k g z3 z4 hq hk g1 g2
      have e7 : g 64 7 = nI E := by rw [g2 _ _ (by omega)]; exact hE
      have inner : ∀ (q2 e : Nat), E - e = q2 → e ≤ E → F 12 [some (.ref 64), some (.int (nI t)), some (.int (nI k)), some (.int (nI (sp_mx (fun e => y t e k) e))), some (.int (nI e))] [] g := by
        intro q2
        induction q2 with
        | zero =>
          intro e hq2 he
          have ee : e = E := by omega
          subst ee
          have ef : g (100 + (t + 1)) k = nI (f k) := by rw [g2 _ _ (by omega)]; exact hf k (by omega)
          refine kx_ild4 (pc := 12) C dX0_addHope_12 ?_
          refine kx_ald0 (pc := 14) C dX0_addHope_14 ?_
          refine kx_geti (pc := 15) C fl_X0_43 fd_64_7 (by first | assumption | rfl) dX0_addHope_15 ?_
          refine kx_icmp_geN (pc := 18) C 45 (by omega) (by omega) dX0_addHope_18 (by decide) (fun c18 => ?_) (fun c18 => ?_)
          · refine kx_ald0 (pc := 45) C dX0_addHope_45 ?_
            refine kx_getr (pc := 46) C fl_X0_20 fd_64_2 dX0_addHope_46 ?_
            refine kx_ild1 (pc := 49) C dX0_addHope_49 ?_
            refine kx_aald1 (pc := 50) C ra_99 (by omega) dX0_addHope_50 ?_
            refine kx_ild2 (pc := 51) C dX0_addHope_51 ?_
            refine kx_ald0 (pc := 52) C dX0_addHope_52 ?_
            refine kx_getr (pc := 53) C fl_X0_20 fd_64_2 dX0_addHope_53 ?_
            refine kx_ild1 (pc := 56) C dX0_addHope_56 ?_
            refine kx_iconst (pc := 57) C (v := nI 1) dX0_addHope_57 (by decide) ?_
            first | refine kx_iaddN (pc := 58) C dX0_addHope_58 ?_ | refine kx_iadd (pc := 58) C dX0_addHope_58 ?_
            refine kx_aald1 (pc := 59) C ra_99 (by omega) dX0_addHope_59 ?_
            refine kx_ild2 (pc := 60) C dX0_addHope_60 ?_
            refine kx_iald (pc := 61) C (if_hope _ (by omega)) (by omega) (by first | assumption | rfl) dX0_addHope_61 ?_
            refine kx_ild3 (pc := 62) C dX0_addHope_62 ?_
            first | refine kx_iaddN (pc := 63) C dX0_addHope_63 ?_ | refine kx_iadd (pc := 63) C dX0_addHope_63 ?_
            refine kx_iast (pc := 64) C (if_hope _ (by omega)) (by omega) dX0_addHope_64 ?_
            first | refine kx_inc2 (pc := 65) C (v := nI (_ + 1)) dX0_addHope_65 (by decide) rfl (nI_1 _) ?_ | refine kx_inc2 (pc := 65) C dX0_addHope_65 (by decide) rfl rfl ?_
            refine kx_goto (pc := 68) C 2 dX0_addHope_68 (by decide) ?_
            refine ih (k + 1) _ _ _ (by omega) (by omega) (fun j hj => ?_) (fun d j hd => by rw [kx_up, if_neg (by omega)]; exact g2 d j hd)
            by_cases w : j = k
            · rw [w, kx_up, if_pos ⟨rfl, rfl⟩]
            · rw [kx_up, if_neg (by omega)]; exact g1 j (by omega)
          · omega
        | succ q2 ih2 =>
          intro e hq2 he
          have ey : g (66 + (t * 4 + e)) k = nI (y t e k) := by rw [g2 _ _ (by omega)]; exact hy e k (by omega) (by omega)
          have e9 := hy9 e k (by omega) (by omega)
          have m9 : sp_mx (fun e => y t e k) e ≤ 9 := sp_mx_le (fun i hi => hy9 i k (by omega) (by omega))
          refine kx_ild4 (pc := 12) C dX0_addHope_12 ?_
          refine kx_ald0 (pc := 14) C dX0_addHope_14 ?_
          refine kx_geti (pc := 15) C fl_X0_43 fd_64_7 (by first | assumption | rfl) dX0_addHope_15 ?_
          refine kx_icmp_geN (pc := 18) C 45 (by omega) (by omega) dX0_addHope_18 (by decide) (fun c18 => ?_) (fun c18 => ?_)
          · omega
          · refine kx_ild3 (pc := 21) C dX0_addHope_21 ?_
            refine kx_ald0 (pc := 22) C dX0_addHope_22 ?_
            refine kx_getr (pc := 23) C fl_X0_11 fd_64_0 dX0_addHope_23 ?_
            refine kx_ild1 (pc := 26) C dX0_addHope_26 ?_
            refine kx_ild4 (pc := 27) C dX0_addHope_27 ?_
            refine kx_callSI2 (pc := 29) C cs_X0_66 (m_X0_place) (by decide) dX0_addHope_29 (Nat.le_of_ble_eq_true rfl) (fun r29 h29 q29 => ?_)
            obtain ⟨z29, rfl⟩ := q29
            have z29 := z29.symm
            subst z29
            refine kx_aald1 (pc := 32) C ra_65 (by omega) dX0_addHope_32 ?_
            refine kx_ild2 (pc := 33) C dX0_addHope_33 ?_
            refine kx_iald (pc := 34) C (if_spun _ (by omega)) (by omega) (by first | assumption | rfl) dX0_addHope_34 ?_
            refine kx_max (pc := 35) C mm_X0_85 (by decide) (Nat.le_of_ble_eq_true rfl) (sp_max (by omega) (by omega)) dX0_addHope_35 ?_
            refine kx_ist3 (pc := 38) C dX0_addHope_38 (by decide) rfl ?_
            first | refine kx_inc4 (pc := 39) C (v := nI (_ + 1)) dX0_addHope_39 (by decide) rfl (nI_1 _) ?_ | refine kx_inc4 (pc := 39) C dX0_addHope_39 (by decide) rfl rfl ?_
            refine kx_goto (pc := 42) C 12 dX0_addHope_42 (by decide) ?_
            exact ih2 (e + 1) (by omega) (by omega)
      refine kx_ild2 (pc := 2) C dX0_addHope_2 ?_
      refine kx_iconst (pc := 3) C (v := nI 4) dX0_addHope_3 (by decide) ?_
      refine kx_icmp_geN (pc := 4) C 71 (by omega) (by omega) dX0_addHope_4 (by decide) (fun c4 => ?_) (fun c4 => ?_)
      · omega
      · refine kx_iconst (pc := 7) C (v := nI 0) dX0_addHope_7 (by decide) ?_
        refine kx_ist3 (pc := 8) C dX0_addHope_8 (by decide) rfl ?_
        refine kx_iconst (pc := 9) C (v := nI 0) dX0_addHope_9 (by decide) ?_
        refine kx_ist4 (pc := 10) C dX0_addHope_10 (by decide) rfl ?_
        exact inner E 0 (by omega) (by omega)
  refine kx_iconst (pc := 0) C (v := nI 0) dX0_addHope_0 (by decide) ?_
  refine kx_ist2 (pc := 1) C dX0_addHope_1 (by decide) rfl ?_
  exact loop 4 0 h none none (by omega) (by omega) (fun j hj => absurd hj (by omega)) (fun d j _ => rfl)
