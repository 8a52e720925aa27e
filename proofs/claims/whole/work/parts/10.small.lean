def sp_by (k v : Nat) : Nat := if k = 2 then (if 7 < v then 9 else v + 2) else if k = 1 ∨ k = 3 then v - 1 else v
theorem sp_by_le {k v : Nat} (hv : v ≤ 9) : sp_by k v ≤ 9 := by
  unfold sp_by
  repeat' split
  all_goals omega
set_option maxHeartbeats 4000000 in
set_option maxRecDepth 100000 in
theorem m_X8_isWithin {h : kx_H} (v a b : Int32)  : kx_MI 1 yX8_isWithin cX8_isWithin 3 .boolean [.int v, .int a, .int b] h (fun r h1 => h1 = h ∧ r = if a.toInt ≤ v.toInt ∧ v.toInt ≤ b.toInt then 1 else 0) := by
  refine kx_mkI (own := RX8) (L0 := [some (.int v), some (.int a), some (.int b)]) rfl (by decide +kernel) (Nat.le_of_ble_eq_true rfl) rfl (fun F C hR => ?_)
  refine kx_ild0 (pc := 0) C dX8_isWithin_0 ?_
  refine kx_ild1 (pc := 1) C dX8_isWithin_1 ?_
  refine kx_icmp_ltI (pc := 2) C 14 dX8_isWithin_2 (by decide) (fun c2 => ?_) (fun c2 => ?_)
  · refine kx_iconst (pc := 14) C (v := nI 0) dX8_isWithin_14 (by decide) ?_
    exact hR dX8_isWithin_15 rfl ⟨rfl, by first | rw [if_neg (by omega)]; rfl | rw [if_pos (by omega)]; rfl⟩
  · refine kx_ild0 (pc := 5) C dX8_isWithin_5 ?_
    refine kx_ild2 (pc := 6) C dX8_isWithin_6 ?_
    refine kx_icmp_gtI (pc := 7) C 14 dX8_isWithin_7 (by decide) (fun c7 => ?_) (fun c7 => ?_)
    · refine kx_iconst (pc := 14) C (v := nI 0) dX8_isWithin_14 (by decide) ?_
      exact hR dX8_isWithin_15 rfl ⟨rfl, by first | rw [if_neg (by omega)]; rfl | rw [if_pos (by omega)]; rfl⟩
    · refine kx_iconst (pc := 10) C (v := nI 1) dX8_isWithin_10 (by decide) ?_
      refine kx_goto (pc := 11) C 15 dX8_isWithin_11 (by decide) ?_
      exact hR dX8_isWithin_15 rfl ⟨rfl, by first | rw [if_neg (by omega)]; rfl | rw [if_pos (by omega)]; rfl⟩
set_option maxHeartbeats 4000000 in
set_option maxRecDepth 100000 in
theorem m_X8_sortOf {h : kx_H} {v : Nat} (hv : v < 2 ^ 31) : kx_MI 1 yX8_sortOf cX8_sortOf 1 .int [.int (nI v)] h (fun r h1 => h1 = h ∧ r = nI (v / 3)) := by
  refine kx_mkI (own := RX8) (L0 := [some (.int (nI v))]) rfl (by decide +kernel) (Nat.le_of_ble_eq_true rfl) rfl (fun F C hR => ?_)
  refine kx_ild0 (pc := 0) C dX8_sortOf_0 ?_
  refine kx_iconst (pc := 1) C (v := nI 3) dX8_sortOf_1 (by decide) ?_
  refine kx_idivN (pc := 2) C (by omega) (by omega) (by omega) dX8_sortOf_2 ?_
  exact hR dX8_sortOf_3 rfl (⟨rfl, rfl⟩)
set_option maxHeartbeats 4000000 in
set_option maxRecDepth 100000 in
theorem m_X8_isSort {h : kx_H} (v : Int32)  : kx_MI 2 yX8_isSort cX8_isSort 1 .boolean [.int v] h (fun r h1 => h1 = h ∧ r = if 0 ≤ v.toInt ∧ v.toInt ≤ 3 then 1 else 0) := by
  refine kx_mkI (own := RX8) (L0 := [some (.int v)]) rfl (by decide +kernel) (Nat.le_of_ble_eq_true rfl) rfl (fun F C hR => ?_)
  refine kx_ild0 (pc := 0) C dX8_isSort_0 ?_
  refine kx_iconst (pc := 1) C (v := nI 0) dX8_isSort_1 (by decide) ?_
  refine kx_iconst (pc := 2) C (v := nI 3) dX8_isSort_2 (by decide) ?_
  refine kx_callSI3 (pc := 3) C cs_X8_75 (m_X8_isWithin _ _ _) (by decide) dX8_isSort_3 (Nat.le_of_ble_eq_true rfl) (fun r3 h3 q3 => ?_)
  obtain ⟨rfl, rfl⟩ := q3
  exact hR dX8_isSort_6 (kx_b01 _) ⟨rfl, rfl⟩
set_option maxHeartbeats 4000000 in
set_option maxRecDepth 100000 in
theorem m_X8_isSheet {h : kx_H} (v : Int32)  : kx_MI 2 yX8_isSheet cX8_isSheet 1 .boolean [.int v] h (fun r h1 => h1 = h ∧ r = if 0 ≤ v.toInt ∧ v.toInt ≤ 3 then 1 else 0) := by
  refine kx_mkI (own := RX8) (L0 := [some (.int v)]) rfl (by decide +kernel) (Nat.le_of_ble_eq_true rfl) rfl (fun F C hR => ?_)
  refine kx_ild0 (pc := 0) C dX8_isSheet_0 ?_
  refine kx_iconst (pc := 1) C (v := nI 0) dX8_isSheet_1 (by decide) ?_
  refine kx_iconst (pc := 2) C (v := nI 3) dX8_isSheet_2 (by decide) ?_
  refine kx_callSI3 (pc := 3) C cs_X8_75 (m_X8_isWithin _ _ _) (by decide) dX8_isSheet_3 (Nat.le_of_ble_eq_true rfl) (fun r3 h3 q3 => ?_)
  obtain ⟨rfl, rfl⟩ := q3
  exact hR dX8_isSheet_6 (kx_b01 _) ⟨rfl, rfl⟩
set_option maxHeartbeats 4000000 in
set_option maxRecDepth 100000 in
theorem m_X8_isSheetOfLane {h : kx_H} (v l : Int32)  : kx_MI 3 yX8_isSheetOfLane cX8_isSheetOfLane 2 .boolean [.int v, .int l] h (fun r h1 => h1 = h ∧ r = if (0 ≤ v.toInt ∧ v.toInt ≤ 3) ∧ 0 ≤ l.toInt ∧ l.toInt ≤ 2 then 1 else 0) := by
  refine kx_mkI (own := RX8) (L0 := [some (.int v), some (.int l)]) rfl (by decide +kernel) (Nat.le_of_ble_eq_true rfl) rfl (fun F C hR => ?_)
  refine kx_ild0 (pc := 0) C dX8_isSheetOfLane_0 ?_
  refine kx_callSI1 (pc := 1) C cs_X8_260 (m_X8_isSheet _) (by decide) dX8_isSheetOfLane_1 (Nat.le_of_ble_eq_true rfl) (fun r1 h1 q1 => ?_)
  obtain ⟨rfl, rfl⟩ := q1
  refine kx_if_eq (pc := 4) C 20 dX8_isSheetOfLane_4 (by decide) (fun c4 => ?_) (fun c4 => ?_)
  · refine kx_iconst (pc := 20) C (v := nI 0) dX8_isSheetOfLane_20 (by decide) ?_
    exact hR dX8_isSheetOfLane_21 rfl (⟨rfl, by first | rw [if_neg (fun q => kx_if0 c4 q.1)]; rfl | rw [if_neg (fun q => kx_if0 c13 q.2)]; rfl | rw [if_pos ⟨kx_if1 c4, kx_if1 c13⟩]; rfl⟩)
  · refine kx_ild1 (pc := 7) C dX8_isSheetOfLane_7 ?_
    refine kx_iconst (pc := 8) C (v := nI 0) dX8_isSheetOfLane_8 (by decide) ?_
    refine kx_iconst (pc := 9) C (v := nI 2) dX8_isSheetOfLane_9 (by decide) ?_
    refine kx_callSI3 (pc := 10) C cs_X8_75 (m_X8_isWithin _ _ _) (by decide) dX8_isSheetOfLane_10 (Nat.le_of_ble_eq_true rfl) (fun r10 h10 q10 => ?_)
    obtain ⟨rfl, rfl⟩ := q10
    refine kx_if_eq (pc := 13) C 20 dX8_isSheetOfLane_13 (by decide) (fun c13 => ?_) (fun c13 => ?_)
    · refine kx_iconst (pc := 20) C (v := nI 0) dX8_isSheetOfLane_20 (by decide) ?_
      exact hR dX8_isSheetOfLane_21 rfl (⟨rfl, by first | rw [if_neg (fun q => kx_if0 c4 q.1)]; rfl | rw [if_neg (fun q => kx_if0 c13 q.2)]; rfl | rw [if_pos ⟨kx_if1 c4, kx_if1 c13⟩]; rfl⟩)
    · refine kx_iconst (pc := 16) C (v := nI 1) dX8_isSheetOfLane_16 (by decide) ?_
      refine kx_goto (pc := 17) C 21 dX8_isSheetOfLane_17 (by decide) ?_
      exact hR dX8_isSheetOfLane_21 rfl (⟨rfl, by first | rw [if_neg (fun q => kx_if0 c4 q.1)]; rfl | rw [if_neg (fun q => kx_if0 c13 q.2)]; rfl | rw [if_pos ⟨kx_if1 c4, kx_if1 c13⟩]; rfl⟩)
set_option maxHeartbeats 4000000 in
set_option maxRecDepth 100000 in
theorem m_X8_duller {h : kx_H} {v : Nat} (hv : v < 2 ^ 31) : kx_MI 1 yX8_duller cX8_duller 1 .int [.int (nI v)] h (fun r h1 => h1 = h ∧ r = nI (v - 1)) := by
  refine kx_mkI (own := RX8) (L0 := [some (.int (nI v))]) rfl (by decide +kernel) (Nat.le_of_ble_eq_true rfl) rfl (fun F C hR => ?_)
  refine kx_ild0 (pc := 0) C dX8_duller_0 ?_
  first | refine kx_if_leN (pc := 1) C 10 (by omega) dX8_duller_1 (by decide) (fun c1 => ?_) (fun c1 => ?_) | refine kx_if_leI (pc := 1) C 10 dX8_duller_1 (by decide) (fun c1 => ?_) (fun c1 => ?_)
  · refine kx_iconst (pc := 10) C (v := nI 0) dX8_duller_10 (by decide) ?_
    exact hR dX8_duller_11 rfl (⟨rfl, by first | rfl | (subst c1; rfl)⟩)
  · refine kx_ild0 (pc := 4) C dX8_duller_4 ?_
    refine kx_iconst (pc := 5) C (v := nI 1) dX8_duller_5 (by decide) ?_
    first | refine kx_isubN (pc := 6) C (by omega) dX8_duller_6 ?_ | refine kx_isub (pc := 6) C dX8_duller_6 ?_
    refine kx_goto (pc := 7) C 11 dX8_duller_7 (by decide) ?_
    exact hR dX8_duller_11 rfl (⟨rfl, by first | rfl | (subst c1; rfl)⟩)
set_option maxHeartbeats 4000000 in
set_option maxRecDepth 100000 in
theorem m_X8_isRemembered {h : kx_H} {l e m : Nat} (hl : l ≤ e) (he : e < 2 ^ 31) (hm : m < 2 ^ 31) : kx_MI 1 yX8_isRemembered cX8_isRemembered 3 .boolean [.int (nI l), .int (nI e), .int (nI m)] h (fun r h1 => h1 = h ∧ r = if 0 < l ∧ e ≤ l + m then 1 else 0) := by
  refine kx_mkI (own := RX8) (L0 := [some (.int (nI l)), some (.int (nI e)), some (.int (nI m))]) rfl (by decide +kernel) (Nat.le_of_ble_eq_true rfl) rfl (fun F C hR => ?_)
  refine kx_ild0 (pc := 0) C dX8_isRemembered_0 ?_
  first | refine kx_if_leN (pc := 1) C 15 (by omega) dX8_isRemembered_1 (by decide) (fun c1 => ?_) (fun c1 => ?_) | refine kx_if_leI (pc := 1) C 15 dX8_isRemembered_1 (by decide) (fun c1 => ?_) (fun c1 => ?_)
  · refine kx_iconst (pc := 15) C (v := nI 0) dX8_isRemembered_15 (by decide) ?_
    exact hR dX8_isRemembered_16 rfl ⟨rfl, by first | rw [if_neg (by omega)]; rfl | rw [if_pos (by omega)]; rfl⟩
  · refine kx_ild1 (pc := 4) C dX8_isRemembered_4 ?_
    refine kx_ild0 (pc := 5) C dX8_isRemembered_5 ?_
    first | refine kx_isubN (pc := 6) C (by omega) dX8_isRemembered_6 ?_ | refine kx_isub (pc := 6) C dX8_isRemembered_6 ?_
    refine kx_ild2 (pc := 7) C dX8_isRemembered_7 ?_
    first | refine kx_icmp_gtN (pc := 8) C 15 (by omega) (by omega) dX8_isRemembered_8 (by decide) (fun c8 => ?_) (fun c8 => ?_) | refine kx_icmp_gtI (pc := 8) C 15 dX8_isRemembered_8 (by decide) (fun c8 => ?_) (fun c8 => ?_)
    · refine kx_iconst (pc := 15) C (v := nI 0) dX8_isRemembered_15 (by decide) ?_
      exact hR dX8_isRemembered_16 rfl ⟨rfl, by first | rw [if_neg (by omega)]; rfl | rw [if_pos (by omega)]; rfl⟩
    · refine kx_iconst (pc := 11) C (v := nI 1) dX8_isRemembered_11 (by decide) ?_
      refine kx_goto (pc := 12) C 16 dX8_isRemembered_12 (by decide) ?_
      exact hR dX8_isRemembered_16 rfl ⟨rfl, by first | rw [if_neg (by omega)]; rfl | rw [if_pos (by omega)]; rfl⟩
theorem sp_by_min {k v : Nat} (hv : v ≤ 9) (h : k = 2) : (if (nI (v + 2)).toInt < (nI 9).toInt then nI (v + 2) else nI 9) = nI (sp_by k v) := by
  rw [sp_min (by omega) (by omega), sp_by, if_pos h]
  congr 1
  split <;> omega
theorem sp_by_max {k v : Nat} (hv : v ≤ 9) (h0 : 0 < k) (hk : k ≤ 3) (h : ¬ k = 2) : (if (nI 0).toInt < (nI v - nI 1).toInt then nI v - nI 1 else nI 0) = nI (sp_by k v) := by
  rw [kx_Ts (by omega) (by omega), sp_by, if_neg h, if_pos (by omega : k = 1 ∨ k = 3), show (nI 0).toInt = 0 from rfl]
  split
  · rw [pk_sub (by omega)]
  · rw [show v - 1 = 0 by omega]
set_option maxHeartbeats 4000000 in
set_option maxRecDepth 100000 in
theorem m_X8_asToldBy {h : kx_H} {k v : Nat} (hk : k ≤ 3) (hv : v ≤ 9) : kx_MI 2 yX8_asToldBy cX8_asToldBy 2 .int [.int (nI k), .int (nI v)] h (fun r h1 => h1 = h ∧ r = nI (sp_by k v)) := by
  refine kx_mkI (own := RX8) (L0 := [some (.int (nI k)), some (.int (nI v))]) rfl (by decide +kernel) (Nat.le_of_ble_eq_true rfl) rfl (fun F C hR => ?_)
  refine kx_ild0 (pc := 0) C dX8_asToldBy_0 ?_
  refine kx_if_neN (pc := 1) C 6 (by omega) dX8_asToldBy_1 (by decide) (fun c1 => ?_) (fun c1 => ?_)
  · refine kx_ild0 (pc := 6) C dX8_asToldBy_6 ?_
    refine kx_iconst (pc := 7) C (v := nI 2) dX8_asToldBy_7 (by decide) ?_
    refine kx_icmp_neN (pc := 8) C 22 (by omega) (by omega) dX8_asToldBy_8 (by decide) (fun c8 => ?_) (fun c8 => ?_)
    · refine kx_iconst (pc := 22) C (v := nI 0) dX8_asToldBy_22 (by decide) ?_
      refine kx_ild1 (pc := 23) C dX8_asToldBy_23 ?_
      refine kx_iconst (pc := 24) C (v := nI 1) dX8_asToldBy_24 (by decide) ?_
      refine kx_isub (pc := 25) C dX8_asToldBy_25 ?_
      refine kx_max (pc := 26) C mm_X8_284 (by decide) (Nat.le_of_ble_eq_true rfl) (sp_by_max hv c1 hk c8) dX8_asToldBy_26 ?_
      exact hR dX8_asToldBy_29 rfl (⟨rfl, rfl⟩)
    · refine kx_bipush (pc := 11) C (v := nI 9) dX8_asToldBy_11 (by decide) ?_
      refine kx_ild1 (pc := 13) C dX8_asToldBy_13 ?_
      refine kx_iconst (pc := 14) C (v := nI 2) dX8_asToldBy_14 (by decide) ?_
      refine kx_iaddN (pc := 15) C dX8_asToldBy_15 ?_
      refine kx_min (pc := 16) C mm_X8_279 (by decide) (Nat.le_of_ble_eq_true rfl) (sp_by_min hv c8) dX8_asToldBy_16 ?_
      refine kx_goto (pc := 19) C 29 dX8_asToldBy_19 (by decide) ?_
      exact hR dX8_asToldBy_29 rfl (⟨rfl, rfl⟩)
  · refine kx_ild1 (pc := 4) C dX8_asToldBy_4 ?_
    exact hR dX8_asToldBy_5 rfl ⟨rfl, by subst c1; rfl⟩
set_option maxHeartbeats 4000000 in
set_option maxRecDepth 100000 in
theorem m_X8_firstOrCount {h : kx_H} (c f w : Int32)  : kx_MI 1 yX8_firstOrCount cX8_firstOrCount 3 .int [.int c, .int f, .int w] h (fun r h1 => h1 = h ∧ r = if w = 0 then c else if c = 0 then -4 else f) := by
  refine kx_mkI (own := RX8) (L0 := [some (.int c), some (.int f), some (.int w)]) rfl (by decide +kernel) (Nat.le_of_ble_eq_true rfl) rfl (fun F C hR => ?_)
  refine kx_ild2 (pc := 0) C dX8_firstOrCount_0 ?_
  refine kx_if_ne (pc := 1) C 6 dX8_firstOrCount_1 (by decide) (fun c1 => ?_) (fun c1 => ?_)
  · refine kx_ild0 (pc := 6) C dX8_firstOrCount_6 ?_
    refine kx_if_ne (pc := 7) C 15 dX8_firstOrCount_7 (by decide) (fun c7 => ?_) (fun c7 => ?_)
    · refine kx_ild1 (pc := 15) C dX8_firstOrCount_15 ?_
      exact hR dX8_firstOrCount_16 rfl (⟨rfl, by simp_all⟩)
    · refine kx_bipush (pc := 10) C (v := -4) dX8_firstOrCount_10 (by decide) ?_
      refine kx_goto (pc := 12) C 16 dX8_firstOrCount_12 (by decide) ?_
      exact hR dX8_firstOrCount_16 rfl (⟨rfl, by simp_all⟩)
  · refine kx_ild0 (pc := 4) C dX8_firstOrCount_4 ?_
    exact hR dX8_firstOrCount_5 rfl (⟨rfl, by simp_all⟩)
set_option maxHeartbeats 4000000 in
set_option maxRecDepth 100000 in
theorem m_X8_areSame {h : kx_H} {a b n na nb : Nat} (ha : kx_ia a na) (hb : kx_ia b nb) (h1 : n ≤ na) (h2 : n ≤ nb) : kx_MI 1 yX8_areSame cX8_areSame 4 .boolean [.ref a, .ref b, .int (nI n)] h (fun r h1 => h1 = h ∧ r = if ∀ i, i < n → h a i = h b i then 1 else 0) := by
  refine kx_mkI (own := RX8) (L0 := [some (.ref a), some (.ref b), some (.int (nI n)), none]) rfl (by decide +kernel) (Nat.le_of_ble_eq_true rfl) rfl (fun F C hR => ?_)
  have hn : n < 1000 := Nat.lt_of_le_of_lt h1 ha.2.2.2
  have loop : ∀ (k i : Nat), n - i = k → i ≤ n → (∀ j, j < i → h a j = h b j) → F 2 [some (.ref a), some (.ref b), some (.int (nI n)), some (.int (nI i))] [] h := by
    intro k
    induction k with
    | zero =>
      intro i hk hi hj
      refine kx_ild3 (pc := 2) C dX8_areSame_2 ?_
      refine kx_ild2 (pc := 3) C dX8_areSame_3 ?_
      refine kx_icmp_geN (pc := 4) C 24 (by omega) (by omega) dX8_areSame_4 (by decide) (fun c4 => ?_) (fun c4 => ?_)
      · refine kx_iconst (pc := 24) C (v := nI 1) dX8_areSame_24 (by decide) ?_
        exact hR dX8_areSame_25 rfl ⟨rfl, by rw [if_pos (fun j q => hj j (by omega))]; rfl⟩
      · omega
    | succ k ih =>
      intro i hk hi hj
      refine kx_ild3 (pc := 2) C dX8_areSame_2 ?_
      refine kx_ild2 (pc := 3) C dX8_areSame_3 ?_
      refine kx_icmp_geN (pc := 4) C 24 (by omega) (by omega) dX8_areSame_4 (by decide) (fun c4 => ?_) (fun c4 => ?_)
      · omega
      · refine kx_ald0 (pc := 7) C dX8_areSame_7 ?_
        refine kx_ild3 (pc := 8) C dX8_areSame_8 ?_
        refine kx_iald (pc := 9) C ha (by omega) (by first | assumption | rfl) dX8_areSame_9 ?_
        refine kx_ald1 (pc := 10) C dX8_areSame_10 ?_
        refine kx_ild3 (pc := 11) C dX8_areSame_11 ?_
        refine kx_iald (pc := 12) C hb (by omega) (by first | assumption | rfl) dX8_areSame_12 ?_
        refine kx_icmp_eq (pc := 13) C 18 dX8_areSame_13 (by decide) (fun c13 => ?_) (fun c13 => ?_)
        · first | refine kx_inc3 (pc := 18) C (v := nI (_ + 1)) dX8_areSame_18 (by decide) rfl (nI_1 _) ?_ | refine kx_inc3 (pc := 18) C dX8_areSame_18 (by decide) rfl rfl ?_
          refine kx_goto (pc := 21) C 2 dX8_areSame_21 (by decide) ?_
          exact ih (i + 1) (by omega) (by omega) (fun j q => by rcases Nat.lt_or_ge j i with z | z; exact hj j z; rw [show j = i by omega]; exact c13)
        · refine kx_iconst (pc := 16) C (v := nI 0) dX8_areSame_16 (by decide) ?_
          exact hR dX8_areSame_17 rfl ⟨rfl, by rw [if_neg (fun q => c13 (q i (by omega)))]; rfl⟩
  refine kx_iconst (pc := 0) C (v := nI 0) dX8_areSame_0 (by decide) ?_
  refine kx_ist3 (pc := 1) C dX8_areSame_1 (by decide) rfl ?_
  exact loop n 0 (by omega) (by omega) (fun j q => absurd q (by omega))
def sp_ix (k n i : Nat) : Nat := if k = 3 then n - 1 - i else i
set_option maxHeartbeats 4000000 in
set_option maxRecDepth 100000 in
theorem m_X8_retell {h : kx_H} {k a b n na nb : Nat} {f : Nat → Nat} (hk : k ≤ 3) (ha : kx_ia a na) (hb : kx_ia b nb) (h1 : n ≤ na) (h2 : n ≤ nb) (hab : a ≠ b) (hf : ∀ j, j < n → h a j = nI (f j)) (hf9 : ∀ j, j < n → f j ≤ 9) : kx_MV 3 yX8_retell cX8_retell 5 [.int (nI k), .ref a, .ref b, .int (nI n)] h (fun h1 => (∀ i, i < n → h1 b i = nI (sp_by k (f (sp_ix k n i)))) ∧ ∀ c j, (c ≠ b ∨ n ≤ j) → h1 c j = h c j) := by
  refine kx_mkV (own := RX8) (L0 := [some (.int (nI k)), some (.ref a), some (.ref b), some (.int (nI n)), none]) rfl (by decide +kernel) (Nat.le_of_ble_eq_true rfl) rfl (fun F C hR => ?_)
  have hn : n < 1000 := Nat.lt_of_le_of_lt h1 ha.2.2.2
  have loop : ∀ (q i : Nat) (g : kx_H), n - i = q → i ≤ n → (∀ j, j < i → g b j = nI (sp_by k (f (sp_ix k n j)))) → (∀ c j, (c ≠ b ∨ i ≤ j) → g c j = h c j) → F 3 [some (.int (nI k)), some (.ref a), some (.ref b), some (.int (nI n)), some (.int (nI i))] [] g := by
    intro q
    induction q with
    | zero =>
      intro i g hq hi hj hg
      refine kx_ild4 (pc := 3) C dX8_retell_3 ?_
      refine kx_ild3 (pc := 5) C dX8_retell_5 ?_
      refine kx_icmp_geN (pc := 6) C 41 (by omega) (by omega) dX8_retell_6 (by decide) (fun c6 => ?_) (fun c6 => ?_)
      · exact hR dX8_retell_41 ⟨fun j z => hj j (by omega), fun c j z => hg c j (by omega)⟩
      · omega
    | succ q ih =>
      intro i g hq hi hj hg
      have key : ∀ x, x < n → x = sp_ix k n i → F 30 [some (.int (nI k)), some (.ref a), some (.ref b), some (.int (nI n)), some (.int (nI i))] [.int (nI x), .ref a, .int (nI k), .int (nI i), .ref b] g := by
        intro x hx e
        have hv : g a x = nI (f x) := by rw [hg a x (Or.inl hab)]; exact hf x hx
        have hv9 := hf9 x hx
        refine kx_iald (pc := 30) C ha (by omega) (by first | assumption | rfl) dX8_retell_30 ?_
        refine kx_callSI2 (pc := 31) C cs_X8_287 (m_X8_asToldBy hk hv9) (by decide) dX8_retell_31 (Nat.le_of_ble_eq_true rfl) (fun r31 h31 q31 => ?_)
        obtain ⟨rfl, rfl⟩ := q31
        refine kx_iast (pc := 34) C hb (by omega) dX8_retell_34 ?_
        first | refine kx_inc4 (pc := 35) C (v := nI (_ + 1)) dX8_retell_35 (by decide) rfl (nI_1 _) ?_ | refine kx_inc4 (pc := 35) C dX8_retell_35 (by decide) rfl rfl ?_
        refine kx_goto (pc := 38) C 3 dX8_retell_38 (by decide) ?_
        refine ih (i + 1) _ (by omega) (by omega) (fun j z => ?_) (fun c j z => ?_)
        · by_cases hji : j = i
          · subst hji
            simp [kx_up, e]
          · simp only [kx_up, hji, and_false, if_false]
            exact hj j (by omega)
        · have : ¬ (c = b ∧ j = i) := by omega
          simp only [kx_up, this, if_false]
          exact hg c j (by omega)
      refine kx_ild4 (pc := 3) C dX8_retell_3 ?_
      refine kx_ild3 (pc := 5) C dX8_retell_5 ?_
      refine kx_icmp_geN (pc := 6) C 41 (by omega) (by omega) dX8_retell_6 (by decide) (fun c6 => ?_) (fun c6 => ?_)
      · omega
      · refine kx_ald2 (pc := 9) C dX8_retell_9 ?_
        refine kx_ild4 (pc := 10) C dX8_retell_10 ?_
        refine kx_ild0 (pc := 12) C dX8_retell_12 ?_
        refine kx_ald1 (pc := 13) C dX8_retell_13 ?_
        refine kx_ild0 (pc := 14) C dX8_retell_14 ?_
        refine kx_iconst (pc := 15) C (v := nI 3) dX8_retell_15 (by decide) ?_
        refine kx_icmp_neN (pc := 16) C 28 (by omega) (by omega) dX8_retell_16 (by decide) (fun c16 => ?_) (fun c16 => ?_)
        · refine kx_ild4 (pc := 28) C dX8_retell_28 ?_
          exact key _ (by omega) (by unfold sp_ix; split <;> omega)
        · refine kx_ild3 (pc := 19) C dX8_retell_19 ?_
          refine kx_iconst (pc := 20) C (v := nI 1) dX8_retell_20 (by decide) ?_
          refine kx_isubN (pc := 21) C (by omega) dX8_retell_21 ?_
          refine kx_ild4 (pc := 22) C dX8_retell_22 ?_
          refine kx_isubN (pc := 24) C (by omega) dX8_retell_24 ?_
          refine kx_goto (pc := 25) C 30 dX8_retell_25 (by decide) ?_
          exact key _ (by omega) (by unfold sp_ix; split <;> omega)
  refine kx_iconst (pc := 0) C (v := nI 0) dX8_retell_0 (by decide) ?_
  refine kx_ist4 (pc := 1) C dX8_retell_1 (by decide) rfl ?_
  exact loop n 0 h (by omega) (by omega) (fun j z => absurd z (by omega)) (fun c j z => rfl)
set_option maxHeartbeats 4000000 in
set_option maxRecDepth 100000 in
theorem m_J6_bitCount_0f7a4 {h : kx_H} {s : Nat} (hs : s < 16) : kx_MI 1 yJ6_bitCount_0f7a4 cJ6_bitCount_0f7a4 1 .int [.int (nI s)] h (fun r h1 => h1 = h ∧ r = nI (s % 2 + s / 2 % 2 + s / 4 % 2 + s / 8 % 2)) := by
  refine kx_mkI (own := RJ6) (L0 := [some (.int (nI s))]) rfl (by decide +kernel) (Nat.le_of_ble_eq_true rfl) rfl (fun F C hR => ?_)
  refine kx_ild0 (pc := 0) C dJ6_bitCount_0f7a4_0 ?_
  refine kx_ild0 (pc := 1) C dJ6_bitCount_0f7a4_1 ?_
  refine kx_iconst (pc := 2) C (v := nI 1) dJ6_bitCount_0f7a4_2 (by decide) ?_
  refine kx_iushr (pc := 3) C dJ6_bitCount_0f7a4_3 ?_
  refine kx_ldcw (pc := 4) C dJ6_bitCount_0f7a4_4 cn_J6_265 ?_
  refine kx_iand (pc := 7) C dJ6_bitCount_0f7a4_7 ?_
  refine kx_isub (pc := 8) C dJ6_bitCount_0f7a4_8 ?_
  refine kx_ist0 (pc := 9) C dJ6_bitCount_0f7a4_9 (by decide) rfl ?_
  refine kx_ild0 (pc := 10) C dJ6_bitCount_0f7a4_10 ?_
  refine kx_ldcw (pc := 11) C dJ6_bitCount_0f7a4_11 cn_J6_266 ?_
  refine kx_iand (pc := 14) C dJ6_bitCount_0f7a4_14 ?_
  refine kx_ild0 (pc := 15) C dJ6_bitCount_0f7a4_15 ?_
  refine kx_iconst (pc := 16) C (v := nI 2) dJ6_bitCount_0f7a4_16 (by decide) ?_
  refine kx_iushr (pc := 17) C dJ6_bitCount_0f7a4_17 ?_
  refine kx_ldcw (pc := 18) C dJ6_bitCount_0f7a4_18 cn_J6_266 ?_
  refine kx_iand (pc := 21) C dJ6_bitCount_0f7a4_21 ?_
  refine kx_iadd (pc := 22) C dJ6_bitCount_0f7a4_22 ?_
  refine kx_ist0 (pc := 23) C dJ6_bitCount_0f7a4_23 (by decide) rfl ?_
  refine kx_ild0 (pc := 24) C dJ6_bitCount_0f7a4_24 ?_
  refine kx_ild0 (pc := 25) C dJ6_bitCount_0f7a4_25 ?_
  refine kx_iconst (pc := 26) C (v := nI 4) dJ6_bitCount_0f7a4_26 (by decide) ?_
  refine kx_iushr (pc := 27) C dJ6_bitCount_0f7a4_27 ?_
  refine kx_iadd (pc := 28) C dJ6_bitCount_0f7a4_28 ?_
  refine kx_ldcw (pc := 29) C dJ6_bitCount_0f7a4_29 cn_J6_267 ?_
  refine kx_iand (pc := 32) C dJ6_bitCount_0f7a4_32 ?_
  refine kx_ist0 (pc := 33) C dJ6_bitCount_0f7a4_33 (by decide) rfl ?_
  refine kx_ild0 (pc := 34) C dJ6_bitCount_0f7a4_34 ?_
  refine kx_ild0 (pc := 35) C dJ6_bitCount_0f7a4_35 ?_
  refine kx_bipush (pc := 36) C (v := nI 8) dJ6_bitCount_0f7a4_36 (by decide) ?_
  refine kx_iushr (pc := 38) C dJ6_bitCount_0f7a4_38 ?_
  refine kx_iadd (pc := 39) C dJ6_bitCount_0f7a4_39 ?_
  refine kx_ist0 (pc := 40) C dJ6_bitCount_0f7a4_40 (by decide) rfl ?_
  refine kx_ild0 (pc := 41) C dJ6_bitCount_0f7a4_41 ?_
  refine kx_ild0 (pc := 42) C dJ6_bitCount_0f7a4_42 ?_
  refine kx_bipush (pc := 43) C (v := nI 16) dJ6_bitCount_0f7a4_43 (by decide) ?_
  refine kx_iushr (pc := 45) C dJ6_bitCount_0f7a4_45 ?_
  refine kx_iadd (pc := 46) C dJ6_bitCount_0f7a4_46 ?_
  refine kx_ist0 (pc := 47) C dJ6_bitCount_0f7a4_47 (by decide) rfl ?_
  refine kx_ild0 (pc := 48) C dJ6_bitCount_0f7a4_48 ?_
  refine kx_bipush (pc := 49) C (v := nI 63) dJ6_bitCount_0f7a4_49 (by decide) ?_
  refine kx_iand (pc := 51) C dJ6_bitCount_0f7a4_51 ?_
  exact hR dJ6_bitCount_0f7a4_52 rfl ⟨rfl, by clear hR; clear C; revert s; decide +kernel⟩
