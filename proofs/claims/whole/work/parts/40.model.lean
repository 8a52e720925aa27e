theorem kx_L (x : Int32) : x.toInt64.toInt = x.toInt := Int32.toInt_toInt64 x
/-! THE REFERENCE -/
def st_MH (c : Nat) (h : kx_H) (a : Nat → Nat) : Prop := (∀ k, k < 141 → k ≠ 4 → k ≠ 5 → k ≠ 6 → h c k = nI (a k)) ∧ ((a 4 = 0 ∧ h c 4 = -4 ∧ h c 5 = -4 ∧ h c 6 = -4) ∨ (0 < a 4 ∧ h c 4 = nI (a 4 - 1) ∧ h c 5 = nI (a 5) ∧ h c 6 = nI (a 6)))
theorem st_MH.up1 {c : Nat} {h : kx_H} {a : Nat → Nat} (hH : st_MH c h a) {k v : Nat} (h4 : k ≠ 4) (h5 : k ≠ 5) (h6 : k ≠ 6) : st_MH c (kx_up h c k (nI v)) (up a k v) := by
  refine ⟨fun j hj j4 j5 j6 => ?_, ?_⟩
  · by_cases z : j = k
    · rw [z, kx_up, if_pos ⟨rfl, rfl⟩, up_s]
    · rw [kx_up, if_neg (fun y => z y.2), up_o z]; exact hH.1 j hj j4 j5 j6
  · rw [up_o (fun z => h4 z.symm), up_o (fun z => h5 z.symm), up_o (fun z => h6 z.symm), kx_up, if_neg (fun y => h4 y.2.symm), kx_up, if_neg (fun y => h5 y.2.symm), kx_up, if_neg (fun y => h6 y.2.symm)]
    exact hH.2
theorem st_MH.kept {c : Nat} {h g : kx_H} {a : Nat → Nat} (hH : st_MH c h a) (hg : ∀ j, g c j = h c j) : st_MH c g a :=
  ⟨fun k hk h4 h5 h6 => by rw [hg]; exact hH.1 k hk h4 h5 h6, by rw [hg, hg, hg]; exact hH.2⟩
set_option maxHeartbeats 4000000 in
set_option maxRecDepth 100000 in
theorem m_X9_in {h : kx_H} {v lo hi : Int64} {p q r : Int} (h1 : lo.toInt = p) (h2 : v.toInt = q) (h3 : hi.toInt = r) : kx_MI 1 yX9_in cX9_in 6 .boolean [.long v, .long lo, .long hi] h (fun s h1 => h1 = h ∧ s = if p ≤ q ∧ q ≤ r then 1 else 0) := by
  refine kx_mkI (own := RX9) (L0 := [some (.long v), none, some (.long lo), none, some (.long hi), none]) rfl (by decide +kernel) (Nat.le_of_ble_eq_true rfl) rfl (fun F C hR => ?_)
  refine kx_lld0 (pc := 0) C dX9_in_0 ?_
  refine kx_lld2 (pc := 1) C dX9_in_1 ?_
  refine kx_lcmp (pc := 2) C dX9_in_2 ?_
  refine kx_if_lt (pc := 3) C 17 dX9_in_3 (by decide) (fun c3 => ?_) (fun c3 => ?_)
  · rw [lg_cmp_lt, Int64.lt_iff_toInt_lt] at c3
    refine kx_iconst (pc := 17) C (v := nI 0) dX9_in_17 (by decide) ?_
    first | exact hR dX9_in_18 rfl ⟨rfl, by rw [if_neg (by omega)]; rfl⟩ | exact hR dX9_in_18 rfl ⟨rfl, by rw [if_pos (by omega)]; rfl⟩
  · rw [lg_cmp_lt, Int64.lt_iff_toInt_lt] at c3
    refine kx_lld0 (pc := 6) C dX9_in_6 ?_
    refine kx_lld4 (pc := 7) C dX9_in_7 ?_
    refine kx_lcmp (pc := 9) C dX9_in_9 ?_
    refine kx_if_gt (pc := 10) C 17 dX9_in_10 (by decide) (fun c10 => ?_) (fun c10 => ?_)
    · rw [lg_cmp_gt, Int64.lt_iff_toInt_lt] at c10
      refine kx_iconst (pc := 17) C (v := nI 0) dX9_in_17 (by decide) ?_
      first | exact hR dX9_in_18 rfl ⟨rfl, by rw [if_neg (by omega)]; rfl⟩ | exact hR dX9_in_18 rfl ⟨rfl, by rw [if_pos (by omega)]; rfl⟩
    · rw [lg_cmp_gt, Int64.lt_iff_toInt_lt] at c10
      refine kx_iconst (pc := 13) C (v := nI 1) dX9_in_13 (by decide) ?_
      refine kx_goto (pc := 14) C 18 dX9_in_14 (by decide) ?_
      first | exact hR dX9_in_18 rfl ⟨rfl, by rw [if_neg (by omega)]; rfl⟩ | exact hR dX9_in_18 rfl ⟨rfl, by rw [if_pos (by omega)]; rfl⟩
set_option maxHeartbeats 4000000 in
set_option maxRecDepth 100000 in
theorem m_X9_isTale {h : kx_H} {a : Nat → Nat} (v : Int32) (hT : h 128 0 = nI (a 0)) (hb : a 0 ≤ 8) : kx_MI 2 yX9_isTale cX9_isTale 2 .boolean [.ref 127, .int v] h (fun r h1 => h1 = h ∧ r = if 0 ≤ v.toInt ∧ v.toInt < (a 0 : Int) then 1 else 0) := by
  refine kx_mkI (own := RX9) (L0 := [some (.ref 127), some (.int v)]) rfl (by decide +kernel) (Nat.le_of_ble_eq_true rfl) rfl (fun F C hR => ?_)
  refine kx_ild1 (pc := 0) C dX9_isTale_0 ?_
  refine kx_i2l (pc := 1) C dX9_isTale_1 ?_
  refine kx_lconst (pc := 2) C (v := 0) dX9_isTale_2 (by decide) ?_
  refine kx_ald0 (pc := 3) C dX9_isTale_3 ?_
  refine kx_getr (pc := 4) C fl_X9_7 fd_127_0 dX9_isTale_4 ?_
  refine kx_iconst (pc := 7) C (v := nI 0) dX9_isTale_7 (by decide) ?_
  refine kx_iald (pc := 8) C ia_128 (by omega) (by first | assumption | rfl) dX9_isTale_8 ?_
  refine kx_iconst (pc := 9) C (v := nI 1) dX9_isTale_9 (by decide) ?_
  refine kx_isub (pc := 10) C dX9_isTale_10 ?_
  refine kx_i2l (pc := 11) C dX9_isTale_11 ?_
  refine kx_callSI3 (pc := 12) C cs_X9_52 (m_X9_in (p := 0) (q := v.toInt) (r := (a 0 : Int) - 1) (by rfl) (kx_L _) (by rw [kx_L, kx_Ts (by omega) (by omega)]; rfl)) (by decide) dX9_isTale_12 (Nat.le_of_ble_eq_true rfl) (fun r12 h12 q12 => ?_)
  obtain ⟨z12, rfl⟩ := q12
  have z12 := z12.symm
  subst z12
  exact hR dX9_isTale_15 (kx_b01 _) ⟨rfl, kx_ifc (by omega)⟩
set_option maxHeartbeats 4000000 in
set_option maxRecDepth 100000 in
theorem m_X9_isTeller {h : kx_H} {a : Nat → Nat} (v : Int32) (hT : h 128 1 = nI (a 1)) (hb : a 1 ≤ 8) : kx_MI 2 yX9_isTeller cX9_isTeller 2 .boolean [.ref 127, .int v] h (fun r h1 => h1 = h ∧ r = if 0 ≤ v.toInt ∧ v.toInt < (a 1 : Int) then 1 else 0) := by
  refine kx_mkI (own := RX9) (L0 := [some (.ref 127), some (.int v)]) rfl (by decide +kernel) (Nat.le_of_ble_eq_true rfl) rfl (fun F C hR => ?_)
  refine kx_ild1 (pc := 0) C dX9_isTeller_0 ?_
  refine kx_i2l (pc := 1) C dX9_isTeller_1 ?_
  refine kx_lconst (pc := 2) C (v := 0) dX9_isTeller_2 (by decide) ?_
  refine kx_ald0 (pc := 3) C dX9_isTeller_3 ?_
  refine kx_getr (pc := 4) C fl_X9_7 fd_127_0 dX9_isTeller_4 ?_
  refine kx_iconst (pc := 7) C (v := nI 1) dX9_isTeller_7 (by decide) ?_
  refine kx_iald (pc := 8) C ia_128 (by omega) (by first | assumption | rfl) dX9_isTeller_8 ?_
  refine kx_iconst (pc := 9) C (v := nI 1) dX9_isTeller_9 (by decide) ?_
  refine kx_isub (pc := 10) C dX9_isTeller_10 ?_
  refine kx_i2l (pc := 11) C dX9_isTeller_11 ?_
  refine kx_callSI3 (pc := 12) C cs_X9_52 (m_X9_in (p := 0) (q := v.toInt) (r := (a 1 : Int) - 1) (by rfl) (kx_L _) (by rw [kx_L, kx_Ts (by omega) (by omega)]; rfl)) (by decide) dX9_isTeller_12 (Nat.le_of_ble_eq_true rfl) (fun r12 h12 q12 => ?_)
  obtain ⟨z12, rfl⟩ := q12
  have z12 := z12.symm
  subst z12
  exact hR dX9_isTeller_15 (kx_b01 _) ⟨rfl, kx_ifc (by omega)⟩
set_option maxHeartbeats 4000000 in
set_option maxRecDepth 100000 in
theorem m_X9_isSpinner {h : kx_H} {a : Nat → Nat} (v : Int32) (hT : h 128 2 = nI (a 2)) (hb : a 2 ≤ 8) : kx_MI 2 yX9_isSpinner cX9_isSpinner 2 .boolean [.ref 127, .int v] h (fun r h1 => h1 = h ∧ r = if 0 ≤ v.toInt ∧ v.toInt < (a 2 : Int) then 1 else 0) := by
  refine kx_mkI (own := RX9) (L0 := [some (.ref 127), some (.int v)]) rfl (by decide +kernel) (Nat.le_of_ble_eq_true rfl) rfl (fun F C hR => ?_)
  refine kx_ild1 (pc := 0) C dX9_isSpinner_0 ?_
  refine kx_i2l (pc := 1) C dX9_isSpinner_1 ?_
  refine kx_lconst (pc := 2) C (v := 0) dX9_isSpinner_2 (by decide) ?_
  refine kx_ald0 (pc := 3) C dX9_isSpinner_3 ?_
  refine kx_getr (pc := 4) C fl_X9_7 fd_127_0 dX9_isSpinner_4 ?_
  refine kx_iconst (pc := 7) C (v := nI 2) dX9_isSpinner_7 (by decide) ?_
  refine kx_iald (pc := 8) C ia_128 (by omega) (by first | assumption | rfl) dX9_isSpinner_8 ?_
  refine kx_iconst (pc := 9) C (v := nI 1) dX9_isSpinner_9 (by decide) ?_
  refine kx_isub (pc := 10) C dX9_isSpinner_10 ?_
  refine kx_i2l (pc := 11) C dX9_isSpinner_11 ?_
  refine kx_callSI3 (pc := 12) C cs_X9_52 (m_X9_in (p := 0) (q := v.toInt) (r := (a 2 : Int) - 1) (by rfl) (kx_L _) (by rw [kx_L, kx_Ts (by omega) (by omega)]; rfl)) (by decide) dX9_isSpinner_12 (Nat.le_of_ble_eq_true rfl) (fun r12 h12 q12 => ?_)
  obtain ⟨z12, rfl⟩ := q12
  have z12 := z12.symm
  subst z12
  exact hR dX9_isSpinner_15 (kx_b01 _) ⟨rfl, kx_ifc (by omega)⟩
set_option maxHeartbeats 4000000 in
set_option maxRecDepth 100000 in
theorem m_X9_isSentence {h : kx_H} {a : Nat → Nat} (t i : Int32) (hH : st_MH 128 h a) (hB : st_B a) : kx_MI 3 yX9_isSentence cX9_isSentence 3 .boolean [.ref 127, .int t, .int i] h (fun r h1 => h1 = h ∧ r = if (0 ≤ t.toInt ∧ t.toInt < (a 0 : Int)) ∧ 0 ≤ i.toInt ∧ i.toInt < (a (81 + t.toInt.toNat) : Int) then 1 else 0) := by
  refine kx_mkI (own := RX9) (L0 := [some (.ref 127), some (.int t), some (.int i)]) rfl (by decide +kernel) (Nat.le_of_ble_eq_true rfl) rfl (fun F C hR => ?_)
  obtain ⟨hM, hMB⟩ := id hH
  obtain ⟨⟨b0, b1, b2, b3, b8, b8'⟩, hRB, bl, byy, bh, bz, bb⟩ := id hB
  have hl9 := hRB.1
  have hT : h 128 0 = nI (a 0) := hM 0 (by omega) (by omega) (by omega) (by omega)
  have hE : h 128 1 = nI (a 1) := hM 1 (by omega) (by omega) (by omega) (by omega)
  have hS : h 128 2 = nI (a 2) := hM 2 (by omega) (by omega) (by omega) (by omega)
  have hev : h 128 3 = nI (a 3) := hM 3 (by omega) (by omega) (by omega) (by omega)
  have hme : h 128 8 = nI (a 8) := hM 8 (by omega) (by omega) (by omega) (by omega)
  refine kx_ald0 (pc := 0) C dX9_isSentence_0 ?_
  refine kx_ild1 (pc := 1) C dX9_isSentence_1 ?_
  refine kx_callVI1 (pc := 2) C cs_X9_72 ob_127 (m_X9_isTale _ (by assumption) (by omega)) (by decide) dX9_isSentence_2 (Nat.le_of_ble_eq_true rfl) (fun r2 h2 q2 => ?_)
  obtain ⟨z2, rfl⟩ := q2
  have z2 := z2.symm
  subst z2
  refine kx_if_eq (pc := 5) C 33 dX9_isSentence_5 (by decide) (fun c5 => ?_) (fun c5 => ?_)
  · refine kx_iconst (pc := 33) C (v := nI 0) dX9_isSentence_33 (by decide) ?_
    first
      | exact hR dX9_isSentence_34 rfl ⟨rfl, by rw [if_neg (fun q => kx_if0 c5 q.1)]; rfl⟩
      | exact hR dX9_isSentence_34 rfl ⟨rfl, by rw [if_neg (fun q => kx_if0 c26 (by have := q.2; rw [kx_n_nI hj2] at this; omega))]; rfl⟩
      | exact hR dX9_isSentence_34 rfl ⟨rfl, by rw [if_pos ⟨c5, by have := kx_if1 c26; rw [kx_n_nI hj2]; omega⟩]; rfl⟩
  · have c5 := kx_if1 c5
    obtain ⟨j, rfl, hj, hj2⟩ := kx_nat c5.1
    have hl := hl9 j (by omega)
    refine kx_ild2 (pc := 8) C dX9_isSentence_8 ?_
    refine kx_i2l (pc := 9) C dX9_isSentence_9 ?_
    refine kx_lconst (pc := 10) C (v := 0) dX9_isSentence_10 (by decide) ?_
    refine kx_ald0 (pc := 11) C dX9_isSentence_11 ?_
    refine kx_getr (pc := 12) C fl_X9_7 fd_127_0 dX9_isSentence_12 ?_
    refine kx_bipush (pc := 15) C (v := nI 81) dX9_isSentence_15 (by decide) ?_
    refine kx_ild1 (pc := 17) C dX9_isSentence_17 ?_
    first | refine kx_iaddN (pc := 18) C dX9_isSentence_18 ?_ | refine kx_iadd (pc := 18) C dX9_isSentence_18 ?_
    refine kx_iald (pc := 19) C ia_128 (by omega) (by first | assumption | exact hM _ (by omega) (by omega) (by omega) (by omega) | rfl) dX9_isSentence_19 ?_
    refine kx_iconst (pc := 20) C (v := nI 1) dX9_isSentence_20 (by decide) ?_
    refine kx_isub (pc := 21) C dX9_isSentence_21 ?_
    refine kx_i2l (pc := 22) C dX9_isSentence_22 ?_
    refine kx_callSI3 (pc := 23) C cs_X9_52 (m_X9_in (p := 0) (q := i.toInt) (r := (a (81 + j) : Int) - 1) (by rfl) (kx_L _) (by rw [kx_L, kx_Ts (by omega) (by omega)]; rfl)) (by decide) dX9_isSentence_23 (Nat.le_of_ble_eq_true rfl) (fun r23 h23 q23 => ?_)
    obtain ⟨z23, rfl⟩ := q23
    have z23 := z23.symm
    subst z23
    refine kx_if_eq (pc := 26) C 33 dX9_isSentence_26 (by decide) (fun c26 => ?_) (fun c26 => ?_)
    · refine kx_iconst (pc := 33) C (v := nI 0) dX9_isSentence_33 (by decide) ?_
      first
        | exact hR dX9_isSentence_34 rfl ⟨rfl, by rw [if_neg (fun q => kx_if0 c5 q.1)]; rfl⟩
        | exact hR dX9_isSentence_34 rfl ⟨rfl, by rw [if_neg (fun q => kx_if0 c26 (by have := q.2; rw [kx_n_nI hj2] at this; omega))]; rfl⟩
        | exact hR dX9_isSentence_34 rfl ⟨rfl, by rw [if_pos ⟨c5, by have := kx_if1 c26; rw [kx_n_nI hj2]; omega⟩]; rfl⟩
    · refine kx_iconst (pc := 29) C (v := nI 1) dX9_isSentence_29 (by decide) ?_
      refine kx_goto (pc := 30) C 34 dX9_isSentence_30 (by decide) ?_
      first
        | exact hR dX9_isSentence_34 rfl ⟨rfl, by rw [if_neg (fun q => kx_if0 c5 q.1)]; rfl⟩
        | exact hR dX9_isSentence_34 rfl ⟨rfl, by rw [if_neg (fun q => kx_if0 c26 (by have := q.2; rw [kx_n_nI hj2] at this; omega))]; rfl⟩
        | exact hR dX9_isSentence_34 rfl ⟨rfl, by rw [if_pos ⟨c5, by have := kx_if1 c26; rw [kx_n_nI hj2]; omega⟩]; rfl⟩
set_option maxHeartbeats 4000000 in
set_option maxRecDepth 100000 in
theorem m_X9_told {h : kx_H} {a : Nat → Nat} (t i : Int32) (hH : st_MH 128 h a) (hB : st_B a) : kx_MI 4 yX9_told cX9_told 3 .int [.ref 127, .int t, .int i] h (fun r h1 => h1 = h ∧ r = sp_told a t i) := by
  refine kx_mkI (own := RX9) (L0 := [some (.ref 127), some (.int t), some (.int i)]) rfl (by decide +kernel) (Nat.le_of_ble_eq_true rfl) rfl (fun F C hR => ?_)
  obtain ⟨hM, hMB⟩ := id hH
  obtain ⟨⟨b0, b1, b2, b3, b8, b8'⟩, hRB, bl, byy, bh, bz, bb⟩ := id hB
  have hl9 := hRB.1
  have hT : h 128 0 = nI (a 0) := hM 0 (by omega) (by omega) (by omega) (by omega)
  have hE : h 128 1 = nI (a 1) := hM 1 (by omega) (by omega) (by omega) (by omega)
  have hS : h 128 2 = nI (a 2) := hM 2 (by omega) (by omega) (by omega) (by omega)
  have hev : h 128 3 = nI (a 3) := hM 3 (by omega) (by omega) (by omega) (by omega)
  have hme : h 128 8 = nI (a 8) := hM 8 (by omega) (by omega) (by omega) (by omega)
  refine kx_ild2 (pc := 0) C dX9_told_0 ?_
  refine kx_iconst (pc := 1) C (v := -1) dX9_told_1 (by decide) ?_
  refine kx_icmp_ne (pc := 2) C 23 dX9_told_2 (by decide) (fun c2 => ?_) (fun c2 => ?_)
  · refine kx_ald0 (pc := 23) C dX9_told_23 ?_
    refine kx_ild1 (pc := 24) C dX9_told_24 ?_
    refine kx_ild2 (pc := 25) C dX9_told_25 ?_
    refine kx_callVI2 (pc := 26) C cs_X9_76 ob_127 (m_X9_isSentence _ _ hH hB) (by decide) dX9_told_26 (Nat.le_of_ble_eq_true rfl) (fun r26 h26 q26 => ?_)
    obtain ⟨z26, rfl⟩ := q26
    have z26 := z26.symm
    subst z26
    refine kx_if_eq (pc := 29) C 49 dX9_told_29 (by decide) (fun c29 => ?_) (fun c29 => ?_)
    · refine kx_iconst (pc := 49) C (v := -1) dX9_told_49 (by decide) ?_
      first
        | exact absurd c29.1 (kx_if0 c10)
        | exact hR dX9_told_50 rfl ⟨rfl, by rw [sp_told, if_neg (kx_if0 c10)]⟩
        | exact hR dX9_told_50 rfl ⟨rfl, by
            have e2 : ¬ nI k = -1 := kx_m1 hk2
            rw [sp_told, if_pos (by omega), if_neg e2, kx_n, kx_n, kx_n_nI hj2, kx_n_nI hk2, if_pos (by omega)]⟩
        | exact hR dX9_told_50 rfl ⟨rfl, by
            have c29 := kx_if0 c29
            by_cases q : 0 ≤ t.toInt ∧ t.toInt < (a 0 : Int)
            · rw [sp_told, if_pos q, if_neg c2, if_neg (fun z => c29 ⟨q, z⟩)]
            · rw [sp_told, if_neg q]⟩
    · have c29 := kx_if1 c29
      obtain ⟨j, rfl, hj, hj2⟩ := kx_nat c29.1.1
      obtain ⟨k, rfl, hk, hk2⟩ := kx_nat c29.2.1
      rw [kx_n_nI hj2] at c29
      have l1 := hl9 j (by omega)
      refine kx_ald0 (pc := 32) C dX9_told_32 ?_
      refine kx_getr (pc := 33) C fl_X9_7 fd_127_0 dX9_told_33 ?_
      refine kx_bipush (pc := 36) C (v := nI 9) dX9_told_36 (by decide) ?_
      refine kx_bipush (pc := 38) C (v := nI 9) dX9_told_38 (by decide) ?_
      refine kx_ild1 (pc := 40) C dX9_told_40 ?_
      first | refine kx_imulN (pc := 41) C dX9_told_41 ?_ | refine kx_imul (pc := 41) C dX9_told_41 ?_
      first | refine kx_iaddN (pc := 42) C dX9_told_42 ?_ | refine kx_iadd (pc := 42) C dX9_told_42 ?_
      refine kx_ild2 (pc := 43) C dX9_told_43 ?_
      first | refine kx_iaddN (pc := 44) C dX9_told_44 ?_ | refine kx_iadd (pc := 44) C dX9_told_44 ?_
      refine kx_iald (pc := 45) C ia_128 (by omega) (by first | assumption | exact hM _ (by omega) (by omega) (by omega) (by omega) | rfl) dX9_told_45 ?_
      refine kx_goto (pc := 46) C 50 dX9_told_46 (by decide) ?_
      first
        | exact absurd c29.1 (kx_if0 c10)
        | exact hR dX9_told_50 rfl ⟨rfl, by rw [sp_told, if_neg (kx_if0 c10)]⟩
        | exact hR dX9_told_50 rfl ⟨rfl, by
            have e2 : ¬ nI k = -1 := kx_m1 hk2
            rw [sp_told, if_pos (by omega), if_neg e2, kx_n, kx_n, kx_n_nI hj2, kx_n_nI hk2, if_pos (by omega)]⟩
        | exact hR dX9_told_50 rfl ⟨rfl, by
            have c29 := kx_if0 c29
            by_cases q : 0 ≤ t.toInt ∧ t.toInt < (a 0 : Int)
            · rw [sp_told, if_pos q, if_neg c2, if_neg (fun z => c29 ⟨q, z⟩)]
            · rw [sp_told, if_neg q]⟩
  · refine kx_ald0 (pc := 5) C dX9_told_5 ?_
    refine kx_ild1 (pc := 6) C dX9_told_6 ?_
    refine kx_callVI1 (pc := 7) C cs_X9_72 ob_127 (m_X9_isTale _ (by assumption) (by omega)) (by decide) dX9_told_7 (Nat.le_of_ble_eq_true rfl) (fun r7 h7 q7 => ?_)
    obtain ⟨z7, rfl⟩ := q7
    have z7 := z7.symm
    subst z7
    refine kx_if_eq (pc := 10) C 23 dX9_told_10 (by decide) (fun c10 => ?_) (fun c10 => ?_)
    · refine kx_ald0 (pc := 23) C dX9_told_23 ?_
      refine kx_ild1 (pc := 24) C dX9_told_24 ?_
      refine kx_ild2 (pc := 25) C dX9_told_25 ?_
      refine kx_callVI2 (pc := 26) C cs_X9_76 ob_127 (m_X9_isSentence _ _ hH hB) (by decide) dX9_told_26 (Nat.le_of_ble_eq_true rfl) (fun r26 h26 q26 => ?_)
      obtain ⟨z26, rfl⟩ := q26
      have z26 := z26.symm
      subst z26
      refine kx_if_eq (pc := 29) C 49 dX9_told_29 (by decide) (fun c29 => ?_) (fun c29 => ?_)
      · refine kx_iconst (pc := 49) C (v := -1) dX9_told_49 (by decide) ?_
        first
          | exact absurd c29.1 (kx_if0 c10)
          | exact hR dX9_told_50 rfl ⟨rfl, by rw [sp_told, if_neg (kx_if0 c10)]⟩
          | exact hR dX9_told_50 rfl ⟨rfl, by
              have e2 : ¬ nI k = -1 := kx_m1 hk2
              rw [sp_told, if_pos (by omega), if_neg e2, kx_n, kx_n, kx_n_nI hj2, kx_n_nI hk2, if_pos (by omega)]⟩
          | exact hR dX9_told_50 rfl ⟨rfl, by
              have c29 := kx_if0 c29
              by_cases q : 0 ≤ t.toInt ∧ t.toInt < (a 0 : Int)
              · rw [sp_told, if_pos q, if_neg c2, if_neg (fun z => c29 ⟨q, z⟩)]
              · rw [sp_told, if_neg q]⟩
      · have c29 := kx_if1 c29
        obtain ⟨j, rfl, hj, hj2⟩ := kx_nat c29.1.1
        obtain ⟨k, rfl, hk, hk2⟩ := kx_nat c29.2.1
        rw [kx_n_nI hj2] at c29
        have l1 := hl9 j (by omega)
        refine kx_ald0 (pc := 32) C dX9_told_32 ?_
        refine kx_getr (pc := 33) C fl_X9_7 fd_127_0 dX9_told_33 ?_
        refine kx_bipush (pc := 36) C (v := nI 9) dX9_told_36 (by decide) ?_
        refine kx_bipush (pc := 38) C (v := nI 9) dX9_told_38 (by decide) ?_
        refine kx_ild1 (pc := 40) C dX9_told_40 ?_
        first | refine kx_imulN (pc := 41) C dX9_told_41 ?_ | refine kx_imul (pc := 41) C dX9_told_41 ?_
        first | refine kx_iaddN (pc := 42) C dX9_told_42 ?_ | refine kx_iadd (pc := 42) C dX9_told_42 ?_
        refine kx_ild2 (pc := 43) C dX9_told_43 ?_
        first | refine kx_iaddN (pc := 44) C dX9_told_44 ?_ | refine kx_iadd (pc := 44) C dX9_told_44 ?_
        refine kx_iald (pc := 45) C ia_128 (by omega) (by first | assumption | exact hM _ (by omega) (by omega) (by omega) (by omega) | rfl) dX9_told_45 ?_
        refine kx_goto (pc := 46) C 50 dX9_told_46 (by decide) ?_
        first
          | exact absurd c29.1 (kx_if0 c10)
          | exact hR dX9_told_50 rfl ⟨rfl, by rw [sp_told, if_neg (kx_if0 c10)]⟩
          | exact hR dX9_told_50 rfl ⟨rfl, by
              have e2 : ¬ nI k = -1 := kx_m1 hk2
              rw [sp_told, if_pos (by omega), if_neg e2, kx_n, kx_n, kx_n_nI hj2, kx_n_nI hk2, if_pos (by omega)]⟩
          | exact hR dX9_told_50 rfl ⟨rfl, by
              have c29 := kx_if0 c29
              by_cases q : 0 ≤ t.toInt ∧ t.toInt < (a 0 : Int)
              · rw [sp_told, if_pos q, if_neg c2, if_neg (fun z => c29 ⟨q, z⟩)]
              · rw [sp_told, if_neg q]⟩
    · have c10 := kx_if1 c10
      obtain ⟨j, rfl, hj, hj2⟩ := kx_nat c10.1
      refine kx_ald0 (pc := 13) C dX9_told_13 ?_
      refine kx_getr (pc := 14) C fl_X9_7 fd_127_0 dX9_told_14 ?_
      refine kx_bipush (pc := 17) C (v := nI 81) dX9_told_17 (by decide) ?_
      refine kx_ild1 (pc := 19) C dX9_told_19 ?_
      first | refine kx_iaddN (pc := 20) C dX9_told_20 ?_ | refine kx_iadd (pc := 20) C dX9_told_20 ?_
      refine kx_iald (pc := 21) C ia_128 (by omega) (by first | assumption | exact hM _ (by omega) (by omega) (by omega) (by omega) | rfl) dX9_told_21 ?_
      exact hR dX9_told_22 rfl ⟨rfl, by rw [sp_told, if_pos (by omega), if_pos c2, kx_n, kx_n_nI hj2]⟩
set_option maxHeartbeats 4000000 in
set_option maxRecDepth 100000 in
theorem m_X9_by {h : kx_H} {k v : Nat} (hk : k ≤ 3) (hv : v ≤ 9) : kx_MI 1 yX9_by cX9_by 2 .int [.int (nI k), .int (nI v)] h (fun r h1 => h1 = h ∧ r = nI (sp_by k v)) := by
  refine kx_mkI (own := RX9) (L0 := [some (.int (nI k)), some (.int (nI v))]) rfl (by decide +kernel) (Nat.le_of_ble_eq_true rfl) rfl (fun F C hR => ?_)
  refine kx_ild0 (pc := 0) C dX9_by_0 ?_
  refine kx_iconst (pc := 1) C (v := nI 2) dX9_by_1 (by decide) ?_
  refine kx_icmp_neN (pc := 2) C 22 (by omega) (by omega) dX9_by_2 (by decide) (fun c2 => ?_) (fun c2 => ?_)
  · refine kx_ild0 (pc := 22) C dX9_by_22 ?_
    refine kx_iconst (pc := 23) C (v := nI 1) dX9_by_23 (by decide) ?_
    refine kx_icmp_eqN (pc := 24) C 32 (by omega) (by omega) dX9_by_24 (by decide) (fun c24 => ?_) (fun c24 => ?_)
    · refine kx_ild1 (pc := 32) C dX9_by_32 ?_
      refine kx_if_leN (pc := 33) C 42 (by omega) dX9_by_33 (by decide) (fun c33 => ?_) (fun c33 => ?_)
      · refine kx_iconst (pc := 42) C (v := nI 0) dX9_by_42 (by decide) ?_
        refine kx_goto (pc := 43) C 47 dX9_by_43 (by decide) ?_
        exact hR dX9_by_47 rfl ⟨rfl, by
          unfold sp_by
          first
            | rw [if_pos (by omega), if_pos (by omega)]
            | rw [if_pos (by omega), if_neg (by omega)]
            | (rw [if_neg (by omega), if_pos (by omega)]; done)
            | (rw [if_neg (by omega), if_neg (by omega)]; done)
            | (rw [if_neg (by omega), if_pos (by omega), show v - 1 = 0 by omega])⟩
      · refine kx_ild1 (pc := 36) C dX9_by_36 ?_
        refine kx_iconst (pc := 37) C (v := nI 1) dX9_by_37 (by decide) ?_
        refine kx_isubN (pc := 38) C (by omega) dX9_by_38 ?_
        refine kx_goto (pc := 39) C 47 dX9_by_39 (by decide) ?_
        exact hR dX9_by_47 rfl ⟨rfl, by
          unfold sp_by
          first
            | rw [if_pos (by omega), if_pos (by omega)]
            | rw [if_pos (by omega), if_neg (by omega)]
            | (rw [if_neg (by omega), if_pos (by omega)]; done)
            | (rw [if_neg (by omega), if_neg (by omega)]; done)
            | (rw [if_neg (by omega), if_pos (by omega), show v - 1 = 0 by omega])⟩
    · refine kx_ild0 (pc := 27) C dX9_by_27 ?_
      refine kx_iconst (pc := 28) C (v := nI 3) dX9_by_28 (by decide) ?_
      refine kx_icmp_neN (pc := 29) C 46 (by omega) (by omega) dX9_by_29 (by decide) (fun c29 => ?_) (fun c29 => ?_)
      · refine kx_ild1 (pc := 46) C dX9_by_46 ?_
        exact hR dX9_by_47 rfl ⟨rfl, by
          unfold sp_by
          first
            | rw [if_pos (by omega), if_pos (by omega)]
            | rw [if_pos (by omega), if_neg (by omega)]
            | (rw [if_neg (by omega), if_pos (by omega)]; done)
            | (rw [if_neg (by omega), if_neg (by omega)]; done)
            | (rw [if_neg (by omega), if_pos (by omega), show v - 1 = 0 by omega])⟩
      · refine kx_ild1 (pc := 32) C dX9_by_32 ?_
        refine kx_if_leN (pc := 33) C 42 (by omega) dX9_by_33 (by decide) (fun c33 => ?_) (fun c33 => ?_)
        · refine kx_iconst (pc := 42) C (v := nI 0) dX9_by_42 (by decide) ?_
          refine kx_goto (pc := 43) C 47 dX9_by_43 (by decide) ?_
          exact hR dX9_by_47 rfl ⟨rfl, by
            unfold sp_by
            first
              | rw [if_pos (by omega), if_pos (by omega)]
              | rw [if_pos (by omega), if_neg (by omega)]
              | (rw [if_neg (by omega), if_pos (by omega)]; done)
              | (rw [if_neg (by omega), if_neg (by omega)]; done)
              | (rw [if_neg (by omega), if_pos (by omega), show v - 1 = 0 by omega])⟩
        · refine kx_ild1 (pc := 36) C dX9_by_36 ?_
          refine kx_iconst (pc := 37) C (v := nI 1) dX9_by_37 (by decide) ?_
          refine kx_isubN (pc := 38) C (by omega) dX9_by_38 ?_
          refine kx_goto (pc := 39) C 47 dX9_by_39 (by decide) ?_
          exact hR dX9_by_47 rfl ⟨rfl, by
            unfold sp_by
            first
              | rw [if_pos (by omega), if_pos (by omega)]
              | rw [if_pos (by omega), if_neg (by omega)]
              | (rw [if_neg (by omega), if_pos (by omega)]; done)
              | (rw [if_neg (by omega), if_neg (by omega)]; done)
              | (rw [if_neg (by omega), if_pos (by omega), show v - 1 = 0 by omega])⟩
  · refine kx_ild1 (pc := 5) C dX9_by_5 ?_
    refine kx_bipush (pc := 6) C (v := nI 7) dX9_by_6 (by decide) ?_
    refine kx_icmp_leN (pc := 8) C 16 (by omega) (by omega) dX9_by_8 (by decide) (fun c8 => ?_) (fun c8 => ?_)
    · refine kx_ild1 (pc := 16) C dX9_by_16 ?_
      refine kx_iconst (pc := 17) C (v := nI 2) dX9_by_17 (by decide) ?_
      refine kx_iaddN (pc := 18) C dX9_by_18 ?_
      refine kx_goto (pc := 19) C 47 dX9_by_19 (by decide) ?_
      exact hR dX9_by_47 rfl ⟨rfl, by
        unfold sp_by
        first
          | rw [if_pos (by omega), if_pos (by omega)]
          | rw [if_pos (by omega), if_neg (by omega)]
          | (rw [if_neg (by omega), if_pos (by omega)]; done)
          | (rw [if_neg (by omega), if_neg (by omega)]; done)
          | (rw [if_neg (by omega), if_pos (by omega), show v - 1 = 0 by omega])⟩
    · refine kx_bipush (pc := 11) C (v := nI 9) dX9_by_11 (by decide) ?_
      refine kx_goto (pc := 13) C 47 dX9_by_13 (by decide) ?_
      exact hR dX9_by_47 rfl ⟨rfl, by
        unfold sp_by
        first
          | rw [if_pos (by omega), if_pos (by omega)]
          | rw [if_pos (by omega), if_neg (by omega)]
          | (rw [if_neg (by omega), if_pos (by omega)]; done)
          | (rw [if_neg (by omega), if_neg (by omega)]; done)
          | (rw [if_neg (by omega), if_pos (by omega), show v - 1 = 0 by omega])⟩
set_option maxHeartbeats 4000000 in
set_option maxRecDepth 100000 in
theorem m_X9_tellsIt {h : kx_H} {a : Nat → Nat} {e t i : Nat} (hM : ∀ k, k < 141 → k ≠ 4 → k ≠ 5 → k ≠ 6 → k < 93 → h 128 k = nI (a k)) (hRB : st_RB a) (he : e < 4) (ht : t < 8) (hi : i < a (81 + t)) : kx_MI 2 yX9_tellsIt cX9_tellsIt 6 .int [.ref 127, .int (nI e), .int (nI t), .int (nI i)] h (fun r h1 => h1 = h ∧ r = nI (sp_te a e t i)) := by
  refine kx_mkI (own := RX9) (L0 := [some (.ref 127), some (.int (nI e)), some (.int (nI t)), some (.int (nI i)), none, none]) rfl (by decide +kernel) (Nat.le_of_ble_eq_true rfl) rfl (fun F C hR => ?_)
  have b1 := hRB.1 t ht
  have b3 := hRB.2.2 e he
  refine kx_ald0 (pc := 0) C dX9_tellsIt_0 ?_
  refine kx_getr (pc := 1) C fl_X9_7 fd_127_0 dX9_tellsIt_1 ?_
  refine kx_bipush (pc := 4) C (v := nI 89) dX9_tellsIt_4 (by decide) ?_
  refine kx_ild1 (pc := 6) C dX9_tellsIt_6 ?_
  first | refine kx_iaddN (pc := 7) C dX9_tellsIt_7 ?_ | refine kx_iadd (pc := 7) C dX9_tellsIt_7 ?_
  refine kx_iald (pc := 8) C ia_128 (by omega) (hM _ (by omega) (by omega) (by omega) (by omega) (by omega)) dX9_tellsIt_8 ?_
  refine kx_ist4 (pc := 9) C dX9_tellsIt_9 (by decide) rfl ?_
  refine kx_ild4 (pc := 11) C dX9_tellsIt_11 ?_
  refine kx_iconst (pc := 13) C (v := nI 3) dX9_tellsIt_13 (by decide) ?_
  refine kx_icmp_neN (pc := 14) C 33 (by omega) (by omega) dX9_tellsIt_14 (by decide) (fun c14 => ?_) (fun c14 => ?_)
  · refine kx_ild3 (pc := 33) C dX9_tellsIt_33 ?_
    refine kx_ist5 (pc := 34) C dX9_tellsIt_34 (by decide) rfl ?_
    refine kx_ild4 (pc := 36) C dX9_tellsIt_36 ?_
    refine kx_ald0 (pc := 38) C dX9_tellsIt_38 ?_
    refine kx_getr (pc := 39) C fl_X9_7 fd_127_0 dX9_tellsIt_39 ?_
    refine kx_bipush (pc := 42) C (v := nI 9) dX9_tellsIt_42 (by decide) ?_
    refine kx_bipush (pc := 44) C (v := nI 9) dX9_tellsIt_44 (by decide) ?_
    refine kx_ild2 (pc := 46) C dX9_tellsIt_46 ?_
    first | refine kx_imulN (pc := 47) C dX9_tellsIt_47 ?_ | refine kx_imul (pc := 47) C dX9_tellsIt_47 ?_
    first | refine kx_iaddN (pc := 48) C dX9_tellsIt_48 ?_ | refine kx_iadd (pc := 48) C dX9_tellsIt_48 ?_
    refine kx_ild5 (pc := 49) C dX9_tellsIt_49 ?_
    first | refine kx_iaddN (pc := 51) C dX9_tellsIt_51 ?_ | refine kx_iadd (pc := 51) C dX9_tellsIt_51 ?_
    refine kx_iald (pc := 52) C ia_128 (by omega) (hM _ (by omega) (by omega) (by omega) (by omega) (by omega)) dX9_tellsIt_52 ?_
    refine kx_callSI2 (pc := 53) C cs_X9_86 (m_X9_by (by omega) (hRB.2.1 t _ ht (by omega))) (by decide) dX9_tellsIt_53 (Nat.le_of_ble_eq_true rfl) (fun r53 h53 q53 => ?_)
    obtain ⟨z53, rfl⟩ := q53
    have z53 := z53.symm
    subst z53
    exact hR dX9_tellsIt_56 rfl ⟨rfl, by unfold sp_te sp_ix; first | rw [if_pos c14] | rw [if_neg c14]⟩
  · refine kx_ald0 (pc := 17) C dX9_tellsIt_17 ?_
    refine kx_getr (pc := 18) C fl_X9_7 fd_127_0 dX9_tellsIt_18 ?_
    refine kx_bipush (pc := 21) C (v := nI 81) dX9_tellsIt_21 (by decide) ?_
    refine kx_ild2 (pc := 23) C dX9_tellsIt_23 ?_
    first | refine kx_iaddN (pc := 24) C dX9_tellsIt_24 ?_ | refine kx_iadd (pc := 24) C dX9_tellsIt_24 ?_
    refine kx_iald (pc := 25) C ia_128 (by omega) (hM _ (by omega) (by omega) (by omega) (by omega) (by omega)) dX9_tellsIt_25 ?_
    refine kx_iconst (pc := 26) C (v := nI 1) dX9_tellsIt_26 (by decide) ?_
    refine kx_isubN (pc := 27) C (by omega) dX9_tellsIt_27 ?_
    refine kx_ild3 (pc := 28) C dX9_tellsIt_28 ?_
    refine kx_isubN (pc := 29) C (by omega) dX9_tellsIt_29 ?_
    refine kx_goto (pc := 30) C 34 dX9_tellsIt_30 (by decide) ?_
    refine kx_ist5 (pc := 34) C dX9_tellsIt_34 (by decide) rfl ?_
    refine kx_ild4 (pc := 36) C dX9_tellsIt_36 ?_
    refine kx_ald0 (pc := 38) C dX9_tellsIt_38 ?_
    refine kx_getr (pc := 39) C fl_X9_7 fd_127_0 dX9_tellsIt_39 ?_
    refine kx_bipush (pc := 42) C (v := nI 9) dX9_tellsIt_42 (by decide) ?_
    refine kx_bipush (pc := 44) C (v := nI 9) dX9_tellsIt_44 (by decide) ?_
    refine kx_ild2 (pc := 46) C dX9_tellsIt_46 ?_
    first | refine kx_imulN (pc := 47) C dX9_tellsIt_47 ?_ | refine kx_imul (pc := 47) C dX9_tellsIt_47 ?_
    first | refine kx_iaddN (pc := 48) C dX9_tellsIt_48 ?_ | refine kx_iadd (pc := 48) C dX9_tellsIt_48 ?_
    refine kx_ild5 (pc := 49) C dX9_tellsIt_49 ?_
    first | refine kx_iaddN (pc := 51) C dX9_tellsIt_51 ?_ | refine kx_iadd (pc := 51) C dX9_tellsIt_51 ?_
    refine kx_iald (pc := 52) C ia_128 (by omega) (hM _ (by omega) (by omega) (by omega) (by omega) (by omega)) dX9_tellsIt_52 ?_
    refine kx_callSI2 (pc := 53) C cs_X9_86 (m_X9_by (by omega) (hRB.2.1 t _ ht (by omega))) (by decide) dX9_tellsIt_53 (Nat.le_of_ble_eq_true rfl) (fun r53 h53 q53 => ?_)
    obtain ⟨z53, rfl⟩ := q53
    have z53 := z53.symm
    subst z53
    exact hR dX9_tellsIt_56 rfl ⟨rfl, by unfold sp_te sp_ix; first | rw [if_pos c14] | rw [if_neg c14]⟩
set_option maxHeartbeats 4000000 in
set_option maxRecDepth 100000 in
theorem m_X9_tells {h : kx_H} {a : Nat → Nat} (e t i : Int32) (hH : st_MH 128 h a) (hB : st_B a) : kx_MI 4 yX9_tells cX9_tells 4 .int [.ref 127, .int e, .int t, .int i] h (fun r h1 => h1 = h ∧ r = sp_tells a e t i) := by
  refine kx_mkI (own := RX9) (L0 := [some (.ref 127), some (.int e), some (.int t), some (.int i)]) rfl (by decide +kernel) (Nat.le_of_ble_eq_true rfl) rfl (fun F C hR => ?_)
  obtain ⟨hM, hMB⟩ := id hH
  obtain ⟨⟨b0, b1, b2, b3, b8, b8'⟩, hRB, bl, byy, bh, bz, bb⟩ := id hB
  have hl9 := hRB.1
  have hT : h 128 0 = nI (a 0) := hM 0 (by omega) (by omega) (by omega) (by omega)
  have hE : h 128 1 = nI (a 1) := hM 1 (by omega) (by omega) (by omega) (by omega)
  have hS : h 128 2 = nI (a 2) := hM 2 (by omega) (by omega) (by omega) (by omega)
  have hev : h 128 3 = nI (a 3) := hM 3 (by omega) (by omega) (by omega) (by omega)
  have hme : h 128 8 = nI (a 8) := hM 8 (by omega) (by omega) (by omega) (by omega)
  refine kx_ald0 (pc := 0) C dX9_tells_0 ?_
  refine kx_ild1 (pc := 1) C dX9_tells_1 ?_
  refine kx_callVI1 (pc := 2) C cs_X9_90 ob_127 (m_X9_isTeller _ (by assumption) (by omega)) (by decide) dX9_tells_2 (Nat.le_of_ble_eq_true rfl) (fun r2 h2 q2 => ?_)
  obtain ⟨z2, rfl⟩ := q2
  have z2 := z2.symm
  subst z2
  refine kx_if_eq (pc := 5) C 27 dX9_tells_5 (by decide) (fun c5 => ?_) (fun c5 => ?_)
  · refine kx_iconst (pc := 27) C (v := -1) dX9_tells_27 (by decide) ?_
    first
      | exact hR dX9_tells_28 rfl ⟨rfl, by rw [sp_tells, if_neg (fun z => by first | exact kx_if0 c14 z.2 | exact kx_if0 c5 z.1)]⟩
      | exact hR dX9_tells_28 rfl ⟨rfl, by rw [sp_tells, kx_n, kx_n, kx_n, kx_n_nI hj2, kx_n_nI hk2, kx_n_nI hm2, if_pos (by omega)]⟩
  · refine kx_ald0 (pc := 8) C dX9_tells_8 ?_
    refine kx_ild2 (pc := 9) C dX9_tells_9 ?_
    refine kx_ild3 (pc := 10) C dX9_tells_10 ?_
    refine kx_callVI2 (pc := 11) C cs_X9_76 ob_127 (m_X9_isSentence _ _ hH hB) (by decide) dX9_tells_11 (Nat.le_of_ble_eq_true rfl) (fun r11 h11 q11 => ?_)
    obtain ⟨z11, rfl⟩ := q11
    have z11 := z11.symm
    subst z11
    refine kx_if_eq (pc := 14) C 27 dX9_tells_14 (by decide) (fun c14 => ?_) (fun c14 => ?_)
    · refine kx_iconst (pc := 27) C (v := -1) dX9_tells_27 (by decide) ?_
      first
        | exact hR dX9_tells_28 rfl ⟨rfl, by rw [sp_tells, if_neg (fun z => by first | exact kx_if0 c14 z.2 | exact kx_if0 c5 z.1)]⟩
        | exact hR dX9_tells_28 rfl ⟨rfl, by rw [sp_tells, kx_n, kx_n, kx_n, kx_n_nI hj2, kx_n_nI hk2, kx_n_nI hm2, if_pos (by omega)]⟩
    · have c14 := kx_if1 c14
      obtain ⟨j, rfl, hj, hj2⟩ := kx_nat c14.1.1
      obtain ⟨k, rfl, hk, hk2⟩ := kx_nat c14.2.1
      have c5 := kx_if1 c5
      obtain ⟨m, rfl, hm, hm2⟩ := kx_nat c5.1
      rw [kx_n_nI hj2] at c14
      refine kx_ald0 (pc := 17) C dX9_tells_17 ?_
      refine kx_ild1 (pc := 18) C dX9_tells_18 ?_
      refine kx_ild2 (pc := 19) C dX9_tells_19 ?_
      refine kx_ild3 (pc := 20) C dX9_tells_20 ?_
      refine kx_callVI3 (pc := 21) C cs_X9_93 ob_127 (m_X9_tellsIt (fun k h1 h2 h3 h4 _ => hM k h1 h2 h3 h4) hRB (by omega) (by omega) (by omega)) (by decide) dX9_tells_21 (Nat.le_of_ble_eq_true rfl) (fun r21 h21 q21 => ?_)
      obtain ⟨z21, rfl⟩ := q21
      have z21 := z21.symm
      subst z21
      refine kx_goto (pc := 24) C 28 dX9_tells_24 (by decide) ?_
      first
        | exact hR dX9_tells_28 rfl ⟨rfl, by rw [sp_tells, if_neg (fun z => by first | exact kx_if0 c14 z.2 | exact kx_if0 c5 z.1)]⟩
        | exact hR dX9_tells_28 rfl ⟨rfl, by rw [sp_tells, kx_n, kx_n, kx_n, kx_n_nI hj2, kx_n_nI hk2, kx_n_nI hm2, if_pos (by omega)]⟩
set_option maxHeartbeats 4000000 in
set_option maxRecDepth 100000 in
theorem m_X9_yards {h : kx_H} {a : Nat → Nat} (s k : Int32) (hH : st_MH 128 h a) (hB : st_B a) : kx_MI 3 yX9_yards cX9_yards 3 .int [.ref 127, .int s, .int k] h (fun r h1 => h1 = h ∧ r = sp_yards a s k) := by
  refine kx_mkI (own := RX9) (L0 := [some (.ref 127), some (.int s), some (.int k)]) rfl (by decide +kernel) (Nat.le_of_ble_eq_true rfl) rfl (fun F C hR => ?_)
  obtain ⟨hM, hMB⟩ := id hH
  obtain ⟨⟨b0, b1, b2, b3, b8, b8'⟩, hRB, bl, byy, bh, bz, bb⟩ := id hB
  have hl9 := hRB.1
  have hT : h 128 0 = nI (a 0) := hM 0 (by omega) (by omega) (by omega) (by omega)
  have hE : h 128 1 = nI (a 1) := hM 1 (by omega) (by omega) (by omega) (by omega)
  have hS : h 128 2 = nI (a 2) := hM 2 (by omega) (by omega) (by omega) (by omega)
  have hev : h 128 3 = nI (a 3) := hM 3 (by omega) (by omega) (by omega) (by omega)
  have hme : h 128 8 = nI (a 8) := hM 8 (by omega) (by omega) (by omega) (by omega)
  refine kx_ald0 (pc := 0) C dX9_yards_0 ?_
  refine kx_ild1 (pc := 1) C dX9_yards_1 ?_
  refine kx_callVI1 (pc := 2) C cs_X9_97 ob_127 (m_X9_isSpinner _ (by assumption) (by omega)) (by decide) dX9_yards_2 (Nat.le_of_ble_eq_true rfl) (fun r2 h2 q2 => ?_)
  obtain ⟨z2, rfl⟩ := q2
  have z2 := z2.symm
  subst z2
  refine kx_if_eq (pc := 5) C 36 dX9_yards_5 (by decide) (fun c5 => ?_) (fun c5 => ?_)
  · refine kx_iconst (pc := 36) C (v := -1) dX9_yards_36 (by decide) ?_
    first
      | exact hR dX9_yards_37 rfl ⟨rfl, by rw [sp_yards, if_neg (fun z => by first | exact kx_if0 c17 z.2 | exact kx_if0 c5 z.1)]⟩
      | exact hR dX9_yards_37 rfl ⟨rfl, by rw [sp_yards, kx_n, kx_n, kx_n_nI hi2, kx_n_nI hj2, if_pos (by omega)]⟩
  · refine kx_ild2 (pc := 8) C dX9_yards_8 ?_
    refine kx_i2l (pc := 9) C dX9_yards_9 ?_
    refine kx_lconst (pc := 10) C (v := 0) dX9_yards_10 (by decide) ?_
    refine kx_ldc2 (pc := 11) C dX9_yards_11 cn_X9_82 ?_
    refine kx_callSI3 (pc := 14) C cs_X9_52 (m_X9_in (p := 0) (q := _) (r := 3) (by rfl) (kx_L _) (by rfl)) (by decide) dX9_yards_14 (Nat.le_of_ble_eq_true rfl) (fun r14 h14 q14 => ?_)
    obtain ⟨z14, rfl⟩ := q14
    have z14 := z14.symm
    subst z14
    refine kx_if_eq (pc := 17) C 36 dX9_yards_17 (by decide) (fun c17 => ?_) (fun c17 => ?_)
    · refine kx_iconst (pc := 36) C (v := -1) dX9_yards_36 (by decide) ?_
      first
        | exact hR dX9_yards_37 rfl ⟨rfl, by rw [sp_yards, if_neg (fun z => by first | exact kx_if0 c17 z.2 | exact kx_if0 c5 z.1)]⟩
        | exact hR dX9_yards_37 rfl ⟨rfl, by rw [sp_yards, kx_n, kx_n, kx_n_nI hi2, kx_n_nI hj2, if_pos (by omega)]⟩
    · have c5 := kx_if1 c5
      have c17 := kx_if1 c17
      obtain ⟨i, rfl, hi, hi2⟩ := kx_nat c5.1
      obtain ⟨j, rfl, hj, hj2⟩ := kx_nat c17.1
      refine kx_ald0 (pc := 20) C dX9_yards_20 ?_
      refine kx_getr (pc := 21) C fl_X9_7 fd_127_0 dX9_yards_21 ?_
      refine kx_bipush (pc := 24) C (v := nI 93) dX9_yards_24 (by decide) ?_
      refine kx_iconst (pc := 26) C (v := nI 4) dX9_yards_26 (by decide) ?_
      refine kx_ild1 (pc := 27) C dX9_yards_27 ?_
      first | refine kx_imulN (pc := 28) C dX9_yards_28 ?_ | refine kx_imul (pc := 28) C dX9_yards_28 ?_
      first | refine kx_iaddN (pc := 29) C dX9_yards_29 ?_ | refine kx_iadd (pc := 29) C dX9_yards_29 ?_
      refine kx_ild2 (pc := 30) C dX9_yards_30 ?_
      first | refine kx_iaddN (pc := 31) C dX9_yards_31 ?_ | refine kx_iadd (pc := 31) C dX9_yards_31 ?_
      refine kx_iald (pc := 32) C ia_128 (by omega) (by first | assumption | exact hM _ (by omega) (by omega) (by omega) (by omega) | rfl) dX9_yards_32 ?_
      refine kx_goto (pc := 33) C 37 dX9_yards_33 (by decide) ?_
      first
        | exact hR dX9_yards_37 rfl ⟨rfl, by rw [sp_yards, if_neg (fun z => by first | exact kx_if0 c17 z.2 | exact kx_if0 c5 z.1)]⟩
        | exact hR dX9_yards_37 rfl ⟨rfl, by rw [sp_yards, kx_n, kx_n, kx_n_nI hi2, kx_n_nI hj2, if_pos (by omega)]⟩
set_option maxHeartbeats 4000000 in
set_option maxRecDepth 100000 in
theorem m_X9_use {h : kx_H} {a : Nat → Nat} (s k n : Int32) (hH : st_MH 128 h a) (hB : st_B a) : kx_MI 3 yX9_use cX9_use 5 .int [.ref 127, .int s, .int k, .int n] h (fun r h1 => r = sp_use a s k n ∧ st_MH 128 h1 (sp_useA a s k n) ∧ ∀ d j, d ≠ 128 → h1 d j = h d j) := by
  refine kx_mkI (own := RX9) (L0 := [some (.ref 127), some (.int s), some (.int k), some (.int n), none]) rfl (by decide +kernel) (Nat.le_of_ble_eq_true rfl) rfl (fun F C hR => ?_)
  obtain ⟨hM, hMB⟩ := id hH
  obtain ⟨⟨b0, b1, b2, b3, b8, b8'⟩, hRB, bl, byy, bh, bz, bb⟩ := id hB
  have hl9 := hRB.1
  have hT : h 128 0 = nI (a 0) := hM 0 (by omega) (by omega) (by omega) (by omega)
  have hE : h 128 1 = nI (a 1) := hM 1 (by omega) (by omega) (by omega) (by omega)
  have hS : h 128 2 = nI (a 2) := hM 2 (by omega) (by omega) (by omega) (by omega)
  have hev : h 128 3 = nI (a 3) := hM 3 (by omega) (by omega) (by omega) (by omega)
  have hme : h 128 8 = nI (a 8) := hM 8 (by omega) (by omega) (by omega) (by omega)
  refine kx_ald0 (pc := 0) C dX9_use_0 ?_
  refine kx_ild1 (pc := 1) C dX9_use_1 ?_
  refine kx_callVI1 (pc := 2) C cs_X9_97 ob_127 (m_X9_isSpinner _ (by assumption) (by omega)) (by decide) dX9_use_2 (Nat.le_of_ble_eq_true rfl) (fun r2 h2 q2 => ?_)
  obtain ⟨z2, rfl⟩ := q2
  have z2 := z2.symm
  subst z2
  refine kx_if_eq (pc := 5) C 32 dX9_use_5 (by decide) (fun c5 => ?_) (fun c5 => ?_)
  · refine kx_iconst (pc := 32) C (v := -1) dX9_use_32 (by decide) ?_
    have nc : ¬ ((0 ≤ s.toInt ∧ s.toInt < (a 2 : Int)) ∧ (0 ≤ k.toInt ∧ k.toInt ≤ 3) ∧ 1 ≤ n.toInt ∧ n.toInt ≤ 999) := fun z => by
      first
        | exact kx_if0 c29 z.2.2
        | exact kx_if0 c17 z.2.1
        | exact kx_if0 c5 z.1
    exact hR dX9_use_33 rfl ⟨by rw [sp_use, if_neg nc], by rw [sp_useA, if_neg (fun z => nc z.1)]; exact hH, fun d j _ => rfl⟩
  · refine kx_ild2 (pc := 8) C dX9_use_8 ?_
    refine kx_i2l (pc := 9) C dX9_use_9 ?_
    refine kx_lconst (pc := 10) C (v := 0) dX9_use_10 (by decide) ?_
    refine kx_ldc2 (pc := 11) C dX9_use_11 cn_X9_82 ?_
    refine kx_callSI3 (pc := 14) C cs_X9_52 (m_X9_in (p := 0) (q := _) (r := 3) (by rfl) (kx_L _) (by rfl)) (by decide) dX9_use_14 (Nat.le_of_ble_eq_true rfl) (fun r14 h14 q14 => ?_)
    obtain ⟨z14, rfl⟩ := q14
    have z14 := z14.symm
    subst z14
    refine kx_if_eq (pc := 17) C 32 dX9_use_17 (by decide) (fun c17 => ?_) (fun c17 => ?_)
    · refine kx_iconst (pc := 32) C (v := -1) dX9_use_32 (by decide) ?_
      have nc : ¬ ((0 ≤ s.toInt ∧ s.toInt < (a 2 : Int)) ∧ (0 ≤ k.toInt ∧ k.toInt ≤ 3) ∧ 1 ≤ n.toInt ∧ n.toInt ≤ 999) := fun z => by
        first
          | exact kx_if0 c29 z.2.2
          | exact kx_if0 c17 z.2.1
          | exact kx_if0 c5 z.1
      exact hR dX9_use_33 rfl ⟨by rw [sp_use, if_neg nc], by rw [sp_useA, if_neg (fun z => nc z.1)]; exact hH, fun d j _ => rfl⟩
    · refine kx_ild3 (pc := 20) C dX9_use_20 ?_
      refine kx_i2l (pc := 21) C dX9_use_21 ?_
      refine kx_lconst (pc := 22) C (v := 1) dX9_use_22 (by decide) ?_
      refine kx_ldc2 (pc := 23) C dX9_use_23 cn_X9_100 ?_
      refine kx_callSI3 (pc := 26) C cs_X9_52 (m_X9_in (p := 1) (q := _) (r := 999) (by rfl) (kx_L _) (by rfl)) (by decide) dX9_use_26 (Nat.le_of_ble_eq_true rfl) (fun r26 h26 q26 => ?_)
      obtain ⟨z26, rfl⟩ := q26
      have z26 := z26.symm
      subst z26
      refine kx_if_ne (pc := 29) C 34 dX9_use_29 (by decide) (fun c29 => ?_) (fun c29 => ?_)
      · have c5 := kx_if1 c5
        have c17 := kx_if1 c17
        have c29 := kx_if1 c29
        obtain ⟨i, rfl, hi, hi2⟩ := kx_nat c5.1
        obtain ⟨j, rfl, hj, hj2⟩ := kx_nat c17.1
        obtain ⟨m, rfl, hm, hm2⟩ := kx_nat (x := n) (by omega)
        have hb9 := byy i j (by omega) (by omega)
        refine kx_bipush (pc := 34) C (v := nI 93) dX9_use_34 (by decide) ?_
        refine kx_iconst (pc := 36) C (v := nI 4) dX9_use_36 (by decide) ?_
        refine kx_ild1 (pc := 37) C dX9_use_37 ?_
        first | refine kx_imulN (pc := 38) C dX9_use_38 ?_ | refine kx_imul (pc := 38) C dX9_use_38 ?_
        first | refine kx_iaddN (pc := 39) C dX9_use_39 ?_ | refine kx_iadd (pc := 39) C dX9_use_39 ?_
        refine kx_ild2 (pc := 40) C dX9_use_40 ?_
        first | refine kx_iaddN (pc := 41) C dX9_use_41 ?_ | refine kx_iadd (pc := 41) C dX9_use_41 ?_
        refine kx_ist4 (pc := 42) C dX9_use_42 (by decide) rfl ?_
        refine kx_ald0 (pc := 44) C dX9_use_44 ?_
        refine kx_getr (pc := 45) C fl_X9_7 fd_127_0 dX9_use_45 ?_
        refine kx_ild4 (pc := 48) C dX9_use_48 ?_
        refine kx_iald (pc := 50) C ia_128 (by omega) (by first | assumption | exact hM _ (by omega) (by omega) (by omega) (by omega) | rfl) dX9_use_50 ?_
        refine kx_ild3 (pc := 51) C dX9_use_51 ?_
        refine kx_icmp_geN (pc := 52) C 58 (by omega) (by omega) dX9_use_52 (by decide) (fun c52 => ?_) (fun c52 => ?_)
        · refine kx_ald0 (pc := 58) C dX9_use_58 ?_
          refine kx_getr (pc := 59) C fl_X9_7 fd_127_0 dX9_use_59 ?_
          refine kx_ild4 (pc := 62) C dX9_use_62 ?_
          refine kx_dup2 (pc := 64) C dX9_use_64 rfl rfl ?_
          refine kx_iald (pc := 65) C ia_128 (by omega) (by first | assumption | exact hM _ (by omega) (by omega) (by omega) (by omega) | rfl) dX9_use_65 ?_
          refine kx_ild3 (pc := 66) C dX9_use_66 ?_
          refine kx_isubN (pc := 67) C (by omega) dX9_use_67 ?_
          refine kx_iast (pc := 68) C ia_128 (by omega) dX9_use_68 ?_
          refine kx_ald0 (pc := 69) C dX9_use_69 ?_
          refine kx_getr (pc := 70) C fl_X9_7 fd_127_0 dX9_use_70 ?_
          refine kx_ild4 (pc := 73) C dX9_use_73 ?_
          refine kx_iald (pc := 75) C ia_128 (by omega) (show _ = nI (a (93 + 4 * i + j) - m) by simp [kx_up]) dX9_use_75 ?_
          exact hR dX9_use_76 rfl ⟨by rw [sp_use, kx_n, kx_n, kx_n, kx_n_nI hi2, kx_n_nI hj2, kx_n_nI hm2, if_pos (by omega), if_neg (by omega)], by rw [sp_useA, kx_n, kx_n, kx_n, kx_n_nI hi2, kx_n_nI hj2, kx_n_nI hm2, if_pos (by omega)]; exact hH.up1 (by omega) (by omega) (by omega), fun d x hd => by rw [kx_up, if_neg (by omega)]⟩
        · refine kx_bipush (pc := 55) C (v := -2) dX9_use_55 (by decide) ?_
          exact hR dX9_use_57 rfl ⟨by rw [sp_use, kx_n, kx_n, kx_n, kx_n_nI hi2, kx_n_nI hj2, kx_n_nI hm2, if_pos (by omega), if_pos (by omega)], by rw [sp_useA, kx_n, kx_n, kx_n, kx_n_nI hi2, kx_n_nI hj2, kx_n_nI hm2, if_neg (by omega)]; exact hH, fun d j _ => rfl⟩
      · refine kx_iconst (pc := 32) C (v := -1) dX9_use_32 (by decide) ?_
        have nc : ¬ ((0 ≤ s.toInt ∧ s.toInt < (a 2 : Int)) ∧ (0 ≤ k.toInt ∧ k.toInt ≤ 3) ∧ 1 ≤ n.toInt ∧ n.toInt ≤ 999) := fun z => by
          first
            | exact kx_if0 c29 z.2.2
            | exact kx_if0 c17 z.2.1
            | exact kx_if0 c5 z.1
        exact hR dX9_use_33 rfl ⟨by rw [sp_use, if_neg nc], by rw [sp_useA, if_neg (fun z => nc z.1)]; exact hH, fun d j _ => rfl⟩
set_option maxHeartbeats 4000000 in
set_option maxRecDepth 100000 in
theorem m_X9_memory {h : kx_H} {a : Nat → Nat} (v : Int32) (hH : st_MH 128 h a) (hB : st_B a) : kx_MI 2 yX9_memory cX9_memory 3 .int [.ref 127, .int v] h (fun r h1 => r = sp_memory a v ∧ st_MH 128 h1 (sp_memoryA a v) ∧ ∀ d j, d ≠ 128 → h1 d j = h d j) := by
  refine kx_mkI (own := RX9) (L0 := [some (.ref 127), some (.int v), none]) rfl (by decide +kernel) (Nat.le_of_ble_eq_true rfl) rfl (fun F C hR => ?_)
  obtain ⟨hM, hMB⟩ := id hH
  obtain ⟨⟨b0, b1, b2, b3, b8, b8'⟩, hRB, bl, byy, bh, bz, bb⟩ := id hB
  have hl9 := hRB.1
  have hT : h 128 0 = nI (a 0) := hM 0 (by omega) (by omega) (by omega) (by omega)
  have hE : h 128 1 = nI (a 1) := hM 1 (by omega) (by omega) (by omega) (by omega)
  have hS : h 128 2 = nI (a 2) := hM 2 (by omega) (by omega) (by omega) (by omega)
  have hev : h 128 3 = nI (a 3) := hM 3 (by omega) (by omega) (by omega) (by omega)
  have hme : h 128 8 = nI (a 8) := hM 8 (by omega) (by omega) (by omega) (by omega)
  refine kx_ild1 (pc := 0) C dX9_memory_0 ?_
  refine kx_i2l (pc := 1) C dX9_memory_1 ?_
  refine kx_lconst (pc := 2) C (v := 1) dX9_memory_2 (by decide) ?_
  refine kx_ldc2 (pc := 3) C dX9_memory_3 cn_X9_84 ?_
  refine kx_callSI3 (pc := 6) C cs_X9_52 (m_X9_in (p := 1) (q := _) (r := 99) (by rfl) (kx_L _) (by rfl)) (by decide) dX9_memory_6 (Nat.le_of_ble_eq_true rfl) (fun r6 h6 q6 => ?_)
  obtain ⟨z6, rfl⟩ := q6
  have z6 := z6.symm
  subst z6
  refine kx_if_ne (pc := 9) C 14 dX9_memory_9 (by decide) (fun c9 => ?_) (fun c9 => ?_)
  · have c9 := kx_if1 c9
    obtain ⟨m, rfl, hm, hm2⟩ := kx_nat (x := v) (by omega)
    refine kx_ald0 (pc := 14) C dX9_memory_14 ?_
    refine kx_getr (pc := 15) C fl_X9_7 fd_127_0 dX9_memory_15 ?_
    refine kx_bipush (pc := 18) C (v := nI 8) dX9_memory_18 (by decide) ?_
    refine kx_iald (pc := 20) C ia_128 (by omega) (by first | assumption | exact hM _ (by omega) (by omega) (by omega) (by omega) | rfl) dX9_memory_20 ?_
    refine kx_ist2 (pc := 21) C dX9_memory_21 (by decide) rfl ?_
    refine kx_ald0 (pc := 22) C dX9_memory_22 ?_
    refine kx_getr (pc := 23) C fl_X9_7 fd_127_0 dX9_memory_23 ?_
    refine kx_bipush (pc := 26) C (v := nI 8) dX9_memory_26 (by decide) ?_
    refine kx_ild1 (pc := 28) C dX9_memory_28 ?_
    refine kx_iast (pc := 29) C ia_128 (by omega) dX9_memory_29 ?_
    refine kx_ild2 (pc := 30) C dX9_memory_30 ?_
    exact hR dX9_memory_31 rfl ⟨by rw [sp_memory, if_pos c9], by rw [sp_memoryA, if_pos c9, kx_n, kx_n_nI hm2]; exact hH.up1 (by omega) (by omega) (by omega), fun d j hd => by rw [kx_up, if_neg (by omega)]⟩
  · refine kx_iconst (pc := 12) C (v := -1) dX9_memory_12 (by decide) ?_
    have c9 := kx_if0 c9
    exact hR dX9_memory_13 rfl ⟨by rw [sp_memory, if_neg c9], by rw [sp_memoryA, if_neg c9]; exact hH, fun d j _ => rfl⟩
set_option maxHeartbeats 4000000 in
set_option maxRecDepth 100000 in
theorem m_X9_teller {h : kx_H} {a : Nat → Nat} (k : Int32) (hH : st_MH 128 h a) (hB : st_B a) : kx_MI 2 yX9_teller cX9_teller 3 .int [.ref 127, .int k] h (fun r h1 => r = sp_teller a k ∧ st_MH 128 h1 (sp_tellerA a k) ∧ ∀ d j, d ≠ 128 → h1 d j = h d j) := by
  refine kx_mkI (own := RX9) (L0 := [some (.ref 127), some (.int k), none]) rfl (by decide +kernel) (Nat.le_of_ble_eq_true rfl) rfl (fun F C hR => ?_)
  obtain ⟨hM, hMB⟩ := id hH
  obtain ⟨⟨b0, b1, b2, b3, b8, b8'⟩, hRB, bl, byy, bh, bz, bb⟩ := id hB
  have hl9 := hRB.1
  have hT : h 128 0 = nI (a 0) := hM 0 (by omega) (by omega) (by omega) (by omega)
  have hE : h 128 1 = nI (a 1) := hM 1 (by omega) (by omega) (by omega) (by omega)
  have hS : h 128 2 = nI (a 2) := hM 2 (by omega) (by omega) (by omega) (by omega)
  have hev : h 128 3 = nI (a 3) := hM 3 (by omega) (by omega) (by omega) (by omega)
  have hme : h 128 8 = nI (a 8) := hM 8 (by omega) (by omega) (by omega) (by omega)
  refine kx_ild1 (pc := 0) C dX9_teller_0 ?_
  refine kx_i2l (pc := 1) C dX9_teller_1 ?_
  refine kx_lconst (pc := 2) C (v := 0) dX9_teller_2 (by decide) ?_
  refine kx_ldc2 (pc := 3) C dX9_teller_3 cn_X9_82 ?_
  refine kx_callSI3 (pc := 6) C cs_X9_52 (m_X9_in (p := 0) (q := _) (r := 3) (by rfl) (kx_L _) (by rfl)) (by decide) dX9_teller_6 (Nat.le_of_ble_eq_true rfl) (fun r6 h6 q6 => ?_)
  obtain ⟨z6, rfl⟩ := q6
  have z6 := z6.symm
  subst z6
  refine kx_if_ne (pc := 9) C 14 dX9_teller_9 (by decide) (fun c9 => ?_) (fun c9 => ?_)
  · have c9 := kx_if1 c9
    obtain ⟨m, rfl, hm, hm2⟩ := kx_nat c9.1
    refine kx_ald0 (pc := 14) C dX9_teller_14 ?_
    refine kx_getr (pc := 15) C fl_X9_7 fd_127_0 dX9_teller_15 ?_
    refine kx_iconst (pc := 18) C (v := nI 1) dX9_teller_18 (by decide) ?_
    refine kx_iald (pc := 19) C ia_128 (by omega) (by first | assumption | exact hM _ (by omega) (by omega) (by omega) (by omega) | rfl) dX9_teller_19 ?_
    refine kx_ist2 (pc := 20) C dX9_teller_20 (by decide) rfl ?_
    refine kx_ild2 (pc := 21) C dX9_teller_21 ?_
    refine kx_iconst (pc := 22) C (v := nI 4) dX9_teller_22 (by decide) ?_
    refine kx_icmp_neN (pc := 23) C 29 (by omega) (by omega) dX9_teller_23 (by decide) (fun c23 => ?_) (fun c23 => ?_)
    · refine kx_ald0 (pc := 29) C dX9_teller_29 ?_
      refine kx_getr (pc := 30) C fl_X9_7 fd_127_0 dX9_teller_30 ?_
      refine kx_bipush (pc := 33) C (v := nI 89) dX9_teller_33 (by decide) ?_
      refine kx_ild2 (pc := 35) C dX9_teller_35 ?_
      first | refine kx_iaddN (pc := 36) C dX9_teller_36 ?_ | refine kx_iadd (pc := 36) C dX9_teller_36 ?_
      refine kx_ild1 (pc := 37) C dX9_teller_37 ?_
      refine kx_iast (pc := 38) C ia_128 (by omega) dX9_teller_38 ?_
      refine kx_ald0 (pc := 39) C dX9_teller_39 ?_
      refine kx_getr (pc := 40) C fl_X9_7 fd_127_0 dX9_teller_40 ?_
      refine kx_iconst (pc := 43) C (v := nI 1) dX9_teller_43 (by decide) ?_
      refine kx_ild2 (pc := 44) C dX9_teller_44 ?_
      refine kx_iconst (pc := 45) C (v := nI 1) dX9_teller_45 (by decide) ?_
      first | refine kx_iaddN (pc := 46) C dX9_teller_46 ?_ | refine kx_iadd (pc := 46) C dX9_teller_46 ?_
      refine kx_iast (pc := 47) C ia_128 (by omega) dX9_teller_47 ?_
      refine kx_ild2 (pc := 48) C dX9_teller_48 ?_
      exact hR dX9_teller_49 rfl ⟨by rw [sp_teller, if_pos (by omega), if_neg (by omega)], by rw [sp_tellerA, if_pos (by omega), kx_n, kx_n_nI hm2]; exact (hH.up1 (by omega) (by omega) (by omega)).up1 (by omega) (by omega) (by omega), fun d j hd => by rw [kx_up, if_neg (by omega), kx_up, if_neg (by omega)]⟩
    · refine kx_bipush (pc := 26) C (v := -3) dX9_teller_26 (by decide) ?_
      exact hR dX9_teller_28 rfl ⟨by rw [sp_teller, if_pos (by omega), if_pos (by omega)], by rw [sp_tellerA, if_neg (by omega)]; exact hH, fun d j _ => rfl⟩
  · refine kx_iconst (pc := 12) C (v := -1) dX9_teller_12 (by decide) ?_
    have c9 := kx_if0 c9
    exact hR dX9_teller_13 rfl ⟨by rw [sp_teller, if_neg c9], by rw [sp_tellerA, if_neg (fun z => c9 z.1)]; exact hH, fun d j _ => rfl⟩
theorem st_MH.eq {h : kx_H} {a : Nat → Nat} (hb : st_MH 128 h a) (hB : st_B a) {j : Nat} (hj : j < 2 ^ 31) : h 128 4 = nI j ↔ a 4 = j + 1 := by
  rcases hb.2 with ⟨z, q, -⟩ | ⟨z, q, -⟩
  · rw [q, kx_eqI, kx_T hj, show (-4 : Int32).toInt = -4 from rfl]
    omega
  · have := hB.2.2.2.2.2.2 z
    have b0 := hB.1.1
    rw [q, nI_eq (by omega) hj]
    omega
set_option maxHeartbeats 4000000 in
set_option maxRecDepth 100000 in
theorem m_X9_change {h : kx_H} {a : Nat → Nat} (t i v : Int32) (hH : st_MH 128 h a) (hB : st_B a) : kx_MI 4 yX9_change cX9_change 5 .int [.ref 127, .int t, .int i, .int v] h (fun r h1 => r = sp_change a t i v ∧ st_MH 128 h1 (sp_changeA a t i v) ∧ ∀ d j, d ≠ 128 → h1 d j = h d j) := by
  refine kx_mkI (own := RX9) (L0 := [some (.ref 127), some (.int t), some (.int i), some (.int v), none]) rfl (by decide +kernel) (Nat.le_of_ble_eq_true rfl) rfl (fun F C hR => ?_)
  obtain ⟨hM, hMB⟩ := id hH
  obtain ⟨⟨b0, b1, b2, b3, b8, b8'⟩, hRB, bl, byy, bh, bz, bb⟩ := id hB
  have hl9 := hRB.1
  have hT : h 128 0 = nI (a 0) := hM 0 (by omega) (by omega) (by omega) (by omega)
  have hE : h 128 1 = nI (a 1) := hM 1 (by omega) (by omega) (by omega) (by omega)
  have hS : h 128 2 = nI (a 2) := hM 2 (by omega) (by omega) (by omega) (by omega)
  have hev : h 128 3 = nI (a 3) := hM 3 (by omega) (by omega) (by omega) (by omega)
  have hme : h 128 8 = nI (a 8) := hM 8 (by omega) (by omega) (by omega) (by omega)
  refine kx_ald0 (pc := 0) C dX9_change_0 ?_
  refine kx_ild1 (pc := 1) C dX9_change_1 ?_
  refine kx_ild2 (pc := 2) C dX9_change_2 ?_
  refine kx_callVI2 (pc := 3) C cs_X9_76 ob_127 (m_X9_isSentence _ _ hH hB) (by decide) dX9_change_3 (Nat.le_of_ble_eq_true rfl) (fun r3 h3 q3 => ?_)
  obtain ⟨z3, rfl⟩ := q3
  have z3 := z3.symm
  subst z3
  refine kx_if_eq (pc := 6) C 21 dX9_change_6 (by decide) (fun c6 => ?_) (fun c6 => ?_)
  · refine kx_iconst (pc := 21) C (v := -1) dX9_change_21 (by decide) ?_
    have nc : ¬ (((0 ≤ t.toInt ∧ t.toInt < (a 0 : Int)) ∧ 0 ≤ i.toInt ∧ i.toInt < (a (81 + kx_n t) : Int)) ∧ 0 ≤ v.toInt ∧ v.toInt ≤ 9) := fun z => by
      first
        | exact kx_if0 c18 z.2
        | exact kx_if0 c6 z.1
    exact hR dX9_change_22 rfl ⟨by rw [sp_change, if_neg nc], by rw [sp_changeA, if_neg (fun z => nc z.1)]; exact hH, fun d j _ => rfl⟩
  · refine kx_ild3 (pc := 9) C dX9_change_9 ?_
    refine kx_i2l (pc := 10) C dX9_change_10 ?_
    refine kx_lconst (pc := 11) C (v := 0) dX9_change_11 (by decide) ?_
    refine kx_ldc2 (pc := 12) C dX9_change_12 cn_X9_80 ?_
    refine kx_callSI3 (pc := 15) C cs_X9_52 (m_X9_in (p := 0) (q := _) (r := 9) (by rfl) (kx_L _) (by rfl)) (by decide) dX9_change_15 (Nat.le_of_ble_eq_true rfl) (fun r15 h15 q15 => ?_)
    obtain ⟨z15, rfl⟩ := q15
    have z15 := z15.symm
    subst z15
    refine kx_if_ne (pc := 18) C 23 dX9_change_18 (by decide) (fun c18 => ?_) (fun c18 => ?_)
    · have c6 := kx_if1 c6
      have c18 := kx_if1 c18
      obtain ⟨j, rfl, hj, hj2⟩ := kx_nat c6.1.1
      obtain ⟨k, rfl, hk, hk2⟩ := kx_nat c6.2.1
      obtain ⟨m, rfl, hm, hm2⟩ := kx_nat c18.1
      rw [kx_n_nI hj2] at c6
      have l1 := hl9 j (by omega)
      have hbe := hH.eq hB hj2
      refine kx_ald0 (pc := 23) C dX9_change_23 ?_
      refine kx_getr (pc := 24) C fl_X9_7 fd_127_0 dX9_change_24 ?_
      refine kx_iconst (pc := 27) C (v := nI 4) dX9_change_27 (by decide) ?_
      refine kx_iald (pc := 28) C ia_128 (by omega) rfl dX9_change_28 ?_
      refine kx_ild1 (pc := 29) C dX9_change_29 ?_
      refine kx_icmp_ne (pc := 30) C 36 dX9_change_30 (by decide) (fun c30 => ?_) (fun c30 => ?_)
      · refine kx_ald0 (pc := 36) C dX9_change_36 ?_
        refine kx_getr (pc := 37) C fl_X9_7 fd_127_0 dX9_change_37 ?_
        refine kx_bipush (pc := 40) C (v := nI 9) dX9_change_40 (by decide) ?_
        refine kx_bipush (pc := 42) C (v := nI 9) dX9_change_42 (by decide) ?_
        refine kx_ild1 (pc := 44) C dX9_change_44 ?_
        first | refine kx_imulN (pc := 45) C dX9_change_45 ?_ | refine kx_imul (pc := 45) C dX9_change_45 ?_
        first | refine kx_iaddN (pc := 46) C dX9_change_46 ?_ | refine kx_iadd (pc := 46) C dX9_change_46 ?_
        refine kx_ild2 (pc := 47) C dX9_change_47 ?_
        first | refine kx_iaddN (pc := 48) C dX9_change_48 ?_ | refine kx_iadd (pc := 48) C dX9_change_48 ?_
        refine kx_iald (pc := 49) C ia_128 (by omega) (by first | assumption | exact hM _ (by omega) (by omega) (by omega) (by omega) | rfl) dX9_change_49 ?_
        refine kx_ist4 (pc := 50) C dX9_change_50 (by decide) rfl ?_
        refine kx_ald0 (pc := 52) C dX9_change_52 ?_
        refine kx_getr (pc := 53) C fl_X9_7 fd_127_0 dX9_change_53 ?_
        refine kx_bipush (pc := 56) C (v := nI 9) dX9_change_56 (by decide) ?_
        refine kx_bipush (pc := 58) C (v := nI 9) dX9_change_58 (by decide) ?_
        refine kx_ild1 (pc := 60) C dX9_change_60 ?_
        first | refine kx_imulN (pc := 61) C dX9_change_61 ?_ | refine kx_imul (pc := 61) C dX9_change_61 ?_
        first | refine kx_iaddN (pc := 62) C dX9_change_62 ?_ | refine kx_iadd (pc := 62) C dX9_change_62 ?_
        refine kx_ild2 (pc := 63) C dX9_change_63 ?_
        first | refine kx_iaddN (pc := 64) C dX9_change_64 ?_ | refine kx_iadd (pc := 64) C dX9_change_64 ?_
        refine kx_ild3 (pc := 65) C dX9_change_65 ?_
        refine kx_iast (pc := 66) C ia_128 (by omega) dX9_change_66 ?_
        refine kx_ild4 (pc := 67) C dX9_change_67 ?_
        exact hR dX9_change_69 rfl ⟨by rw [sp_change, kx_n, kx_n, kx_n_nI hj2, kx_n_nI hk2, if_pos (by omega), if_neg (fun z => c30 (hbe.mpr z))], by rw [sp_changeA, kx_n, kx_n, kx_n, kx_n_nI hj2, kx_n_nI hk2, kx_n_nI hm2, if_pos ⟨by omega, fun z => c30 (hbe.mpr z)⟩]; exact hH.up1 (by omega) (by omega) (by omega), fun d j hd => by rw [kx_up, if_neg (by omega)]⟩
      · refine kx_bipush (pc := 33) C (v := -2) dX9_change_33 (by decide) ?_
        exact hR dX9_change_35 rfl ⟨by rw [sp_change, kx_n, kx_n, kx_n_nI hj2, if_pos (by omega), if_pos (hbe.mp c30)], by rw [sp_changeA, kx_n, kx_n, kx_n_nI hj2, if_neg (fun z => z.2 (hbe.mp c30))]; exact hH, fun d j _ => rfl⟩
    · refine kx_iconst (pc := 21) C (v := -1) dX9_change_21 (by decide) ?_
      have nc : ¬ (((0 ≤ t.toInt ∧ t.toInt < (a 0 : Int)) ∧ 0 ≤ i.toInt ∧ i.toInt < (a (81 + kx_n t) : Int)) ∧ 0 ≤ v.toInt ∧ v.toInt ≤ 9) := fun z => by
        first
          | exact kx_if0 c18 z.2
          | exact kx_if0 c6 z.1
      exact hR dX9_change_22 rfl ⟨by rw [sp_change, if_neg nc], by rw [sp_changeA, if_neg (fun z => nc z.1)]; exact hH, fun d j _ => rfl⟩
set_option maxHeartbeats 4000000 in
set_option maxRecDepth 100000 in
theorem m_X9_sortOf {h : kx_H} {v : Nat} (hv : v < 2 ^ 31) : kx_MI 1 yX9_sortOf cX9_sortOf 1 .int [.int (nI v)] h (fun r h1 => h1 = h ∧ r = nI (v / 3)) := by
  refine kx_mkI (own := RX9) (L0 := [some (.int (nI v))]) rfl (by decide +kernel) (Nat.le_of_ble_eq_true rfl) rfl (fun F C hR => ?_)
  refine kx_ild0 (pc := 0) C dX9_sortOf_0 ?_
  refine kx_iconst (pc := 1) C (v := nI 3) dX9_sortOf_1 (by decide) ?_
  refine kx_idivN (pc := 2) C (by omega) (by omega) (by omega) dX9_sortOf_2 ?_
  exact hR dX9_sortOf_3 rfl (⟨rfl, rfl⟩)
set_option maxHeartbeats 4000000 in
set_option maxRecDepth 100000 in
theorem m_X9_isMind {h : kx_H} {l e m : Nat} (hm : h 128 8 = nI m) (hl : l < e) (he : e < 2 ^ 30) (hm2 : m < 2 ^ 30) : kx_MI 1 yX9_isMind cX9_isMind 3 .boolean [.ref 127, .int (nI l), .int (nI e)] h (fun r h1 => h1 = h ∧ r = if 0 < l ∧ e ≤ l + m then 1 else 0) := by
  refine kx_mkI (own := RX9) (L0 := [some (.ref 127), some (.int (nI l)), some (.int (nI e))]) rfl (by decide +kernel) (Nat.le_of_ble_eq_true rfl) rfl (fun F C hR => ?_)
  refine kx_ild1 (pc := 0) C dX9_isMind_0 ?_
  refine kx_if_leN (pc := 1) C 26 (by omega) dX9_isMind_1 (by decide) (fun c1 => ?_) (fun c1 => ?_)
  · refine kx_iconst (pc := 26) C (v := nI 0) dX9_isMind_26 (by decide) ?_
    first | exact hR dX9_isMind_27 rfl ⟨rfl, by rw [if_neg (by omega)]; rfl⟩ | exact hR dX9_isMind_27 rfl ⟨rfl, by rw [if_pos (by omega)]; rfl⟩
  · refine kx_ild2 (pc := 4) C dX9_isMind_4 ?_
    refine kx_ild1 (pc := 5) C dX9_isMind_5 ?_
    refine kx_icmp_leN (pc := 6) C 26 (by omega) (by omega) dX9_isMind_6 (by decide) (fun c6 => ?_) (fun c6 => ?_)
    · refine kx_iconst (pc := 26) C (v := nI 0) dX9_isMind_26 (by decide) ?_
      first | exact hR dX9_isMind_27 rfl ⟨rfl, by rw [if_neg (by omega)]; rfl⟩ | exact hR dX9_isMind_27 rfl ⟨rfl, by rw [if_pos (by omega)]; rfl⟩
    · refine kx_ild2 (pc := 9) C dX9_isMind_9 ?_
      refine kx_ild1 (pc := 10) C dX9_isMind_10 ?_
      refine kx_ald0 (pc := 11) C dX9_isMind_11 ?_
      refine kx_getr (pc := 12) C fl_X9_7 fd_127_0 dX9_isMind_12 ?_
      refine kx_bipush (pc := 15) C (v := nI 8) dX9_isMind_15 (by decide) ?_
      refine kx_iald (pc := 17) C ia_128 (by omega) (by first | assumption | rfl) dX9_isMind_17 ?_
      first | refine kx_iaddN (pc := 18) C dX9_isMind_18 ?_ | refine kx_iadd (pc := 18) C dX9_isMind_18 ?_
      refine kx_icmp_gtN (pc := 19) C 26 (by omega) (by omega) dX9_isMind_19 (by decide) (fun c19 => ?_) (fun c19 => ?_)
      · refine kx_iconst (pc := 26) C (v := nI 0) dX9_isMind_26 (by decide) ?_
        first | exact hR dX9_isMind_27 rfl ⟨rfl, by rw [if_neg (by omega)]; rfl⟩ | exact hR dX9_isMind_27 rfl ⟨rfl, by rw [if_pos (by omega)]; rfl⟩
      · refine kx_iconst (pc := 22) C (v := nI 1) dX9_isMind_22 (by decide) ?_
        refine kx_goto (pc := 23) C 27 dX9_isMind_23 (by decide) ?_
        first | exact hR dX9_isMind_27 rfl ⟨rfl, by rw [if_neg (by omega)]; rfl⟩ | exact hR dX9_isMind_27 rfl ⟨rfl, by rw [if_pos (by omega)]; rfl⟩
set_option maxHeartbeats 4000000 in
set_option maxRecDepth 100000 in
theorem m_X9_hasMind {h : kx_H} {a : Nat → Nat} {s t v : Nat} (hm : h 128 8 = nI (a 8)) (hd : h 128 (109 + 8 * s + t) = nI (a (109 + 8 * s + t))) (hs : s < 4) (ht : t < 8) (hm99 : a 8 ≤ 99) (hl : a (109 + 8 * s + t) < v) (hv : v < 2 ^ 30) : kx_MI 2 yX9_hasMind cX9_hasMind 4 .boolean [.ref 127, .int (nI s), .int (nI t), .int (nI v)] h (fun r h1 => h1 = h ∧ r = if 0 < a (109 + 8 * s + t) ∧ v ≤ a (109 + 8 * s + t) + a 8 then 1 else 0) := by
  refine kx_mkI (own := RX9) (L0 := [some (.ref 127), some (.int (nI s)), some (.int (nI t)), some (.int (nI v))]) rfl (by decide +kernel) (Nat.le_of_ble_eq_true rfl) rfl (fun F C hR => ?_)
  refine kx_ald0 (pc := 0) C dX9_hasMind_0 ?_
  refine kx_ald0 (pc := 1) C dX9_hasMind_1 ?_
  refine kx_getr (pc := 2) C fl_X9_7 fd_127_0 dX9_hasMind_2 ?_
  refine kx_bipush (pc := 5) C (v := nI 109) dX9_hasMind_5 (by decide) ?_
  refine kx_bipush (pc := 7) C (v := nI 8) dX9_hasMind_7 (by decide) ?_
  refine kx_ild1 (pc := 9) C dX9_hasMind_9 ?_
  first | refine kx_imulN (pc := 10) C dX9_hasMind_10 ?_ | refine kx_imul (pc := 10) C dX9_hasMind_10 ?_
  first | refine kx_iaddN (pc := 11) C dX9_hasMind_11 ?_ | refine kx_iadd (pc := 11) C dX9_hasMind_11 ?_
  refine kx_ild2 (pc := 12) C dX9_hasMind_12 ?_
  first | refine kx_iaddN (pc := 13) C dX9_hasMind_13 ?_ | refine kx_iadd (pc := 13) C dX9_hasMind_13 ?_
  refine kx_iald (pc := 14) C ia_128 (by omega) (by first | assumption | rfl) dX9_hasMind_14 ?_
  refine kx_ild3 (pc := 15) C dX9_hasMind_15 ?_
  refine kx_callVI2 (pc := 16) C cs_X9_102 ob_127 (m_X9_isMind hm hl hv (by omega)) (by decide) dX9_hasMind_16 (Nat.le_of_ble_eq_true rfl) (fun r16 h16 q16 => ?_)
  obtain ⟨z16, rfl⟩ := q16
  have z16 := z16.symm
  subst z16
  exact hR dX9_hasMind_19 (kx_b01 _) ⟨rfl, rfl⟩
set_option maxHeartbeats 4000000 in
set_option maxRecDepth 100000 in
theorem m_X9_mind {h : kx_H} {a : Nat → Nat} (s : Int32) (hH : st_MH 128 h a) (hB : st_B a) : kx_MI 3 yX9_mind cX9_mind 4 .int [.ref 127, .int s] h (fun r h1 => h1 = h ∧ r = sp_mindr a s) := by
  refine kx_mkI (own := RX9) (L0 := [some (.ref 127), some (.int s), none, none]) rfl (by decide +kernel) (Nat.le_of_ble_eq_true rfl) rfl (fun F C hR => ?_)
  obtain ⟨hM, hMB⟩ := id hH
  obtain ⟨⟨b0, b1, b2, b3, b8, b8'⟩, hRB, bl, byy, bh, bz, bb⟩ := id hB
  have hl9 := hRB.1
  have hT : h 128 0 = nI (a 0) := hM 0 (by omega) (by omega) (by omega) (by omega)
  have hE : h 128 1 = nI (a 1) := hM 1 (by omega) (by omega) (by omega) (by omega)
  have hS : h 128 2 = nI (a 2) := hM 2 (by omega) (by omega) (by omega) (by omega)
  have hev : h 128 3 = nI (a 3) := hM 3 (by omega) (by omega) (by omega) (by omega)
  have hme : h 128 8 = nI (a 8) := hM 8 (by omega) (by omega) (by omega) (by omega)
  have loop : ∀ (s q t : Nat), s < 4 → (∀ r, r = nI (sp_ms a s (a 0)) → (h = h ∧ r = sp_mindr a (nI s))) → a 0 - t = q → t ≤ a 0 → (∀ {pc : Nat} {L : List (Option Value)} {r : Int32} {h' : kx_H}, decode cX9_mind pc = .ok (.ireturn, 1) → narrow .int (.int r) = .int r → (h' = h ∧ r = sp_mindr a (nI s)) → F pc L [.int r] h') → F 14 [some (.ref 127), some (.int (nI s)), some (.int (nI (sp_ms a s t))), some (.int (nI t))] [] h := by
    intro s q
    induction q with
    | zero =>
      intro t hs4 hf hq ht hR
      refine kx_ild3 (pc := 14) C dX9_mind_14 ?_
      refine kx_ald0 (pc := 15) C dX9_mind_15 ?_
      refine kx_getr (pc := 16) C fl_X9_7 fd_127_0 dX9_mind_16 ?_
      refine kx_iconst (pc := 19) C (v := nI 0) dX9_mind_19 (by decide) ?_
      refine kx_iald (pc := 20) C ia_128 (by omega) (by first | assumption | exact hM _ (by omega) (by omega) (by omega) (by omega) | rfl) dX9_mind_20 ?_
      refine kx_icmp_geN (pc := 21) C 57 (by omega) (by omega) dX9_mind_21 (by decide) (fun c21 => ?_) (fun c21 => ?_)
      · refine kx_ild2 (pc := 57) C dX9_mind_57 ?_
        exact hR dX9_mind_58 rfl (hf _ (by rw [show t = a 0 by omega]))
      · omega
    | succ q ih =>
      intro t hs4 hf hq ht hR
      have hb2 := bh s t (by omega) (by omega)
      have hms := sp_ms_lt a s t
      have hml := sp_m_le a s t (a 3 + 1)
      have h3 := ih (t + 1) hs4 hf (by omega) (by omega) hR
      rw [show sp_ms a s (t + 1) = sp_ms a s t + if sp_m a s t (a 3 + 1) = 0 then 0 else 2 ^ t from rfl] at h3
      refine kx_ild3 (pc := 14) C dX9_mind_14 ?_
      refine kx_ald0 (pc := 15) C dX9_mind_15 ?_
      refine kx_getr (pc := 16) C fl_X9_7 fd_127_0 dX9_mind_16 ?_
      refine kx_iconst (pc := 19) C (v := nI 0) dX9_mind_19 (by decide) ?_
      refine kx_iald (pc := 20) C ia_128 (by omega) (by first | assumption | exact hM _ (by omega) (by omega) (by omega) (by omega) | rfl) dX9_mind_20 ?_
      refine kx_icmp_geN (pc := 21) C 57 (by omega) (by omega) dX9_mind_21 (by decide) (fun c21 => ?_) (fun c21 => ?_)
      · omega
      · refine kx_ild2 (pc := 24) C dX9_mind_24 ?_
        refine kx_ald0 (pc := 25) C dX9_mind_25 ?_
        refine kx_ild1 (pc := 26) C dX9_mind_26 ?_
        refine kx_ild3 (pc := 27) C dX9_mind_27 ?_
        refine kx_ald0 (pc := 28) C dX9_mind_28 ?_
        refine kx_getr (pc := 29) C fl_X9_7 fd_127_0 dX9_mind_29 ?_
        refine kx_iconst (pc := 32) C (v := nI 3) dX9_mind_32 (by decide) ?_
        refine kx_iald (pc := 33) C ia_128 (by omega) (by first | assumption | exact hM _ (by omega) (by omega) (by omega) (by omega) | rfl) dX9_mind_33 ?_
        refine kx_iconst (pc := 34) C (v := nI 1) dX9_mind_34 (by decide) ?_
        first | refine kx_iaddN (pc := 35) C dX9_mind_35 ?_ | refine kx_iadd (pc := 35) C dX9_mind_35 ?_
        refine kx_callVI3 (pc := 36) C cs_X9_105 ob_127 (m_X9_hasMind hme (hM _ (by omega) (by omega) (by omega) (by omega)) (by omega) (by omega) (by omega) (by omega) (by omega)) (by decide) dX9_mind_36 (Nat.le_of_ble_eq_true rfl) (fun r36 h36 q36 => ?_)
        obtain ⟨z36, rfl⟩ := q36
        have z36 := z36.symm
        subst z36
        rw [sp_m_eq]
        refine kx_if_eqN (pc := 39) C 48 (by omega) dX9_mind_39 (by decide) (fun c39 => ?_) (fun c39 => ?_)
        · refine kx_iconst (pc := 48) C (v := nI 0) dX9_mind_48 (by decide) ?_
          refine kx_ior (pc := 49) C dX9_mind_49 ?_
          refine kx_ist2 (pc := 50) C dX9_mind_50 (by decide) rfl ?_
          first | refine kx_inc3 (pc := 51) C (v := nI (_ + 1)) dX9_mind_51 (by decide) rfl (nI_1 _) ?_ | refine kx_inc3 (pc := 51) C dX9_mind_51 (by decide) rfl rfl ?_
          refine kx_goto (pc := 54) C 14 dX9_mind_54 (by decide) ?_
          first
            | (rw [if_pos c39, Nat.add_zero] at h3
               rw [show nI (sp_ms a s t) ||| nI 0 = nI (sp_ms a s t) by rw [kx_orn, Nat.or_zero]]
               exact h3)
            | (rw [if_neg (by omega)] at h3
               rw [kx_or hms]
               exact h3)
        · refine kx_iconst (pc := 42) C (v := nI 1) dX9_mind_42 (by decide) ?_
          refine kx_ild3 (pc := 43) C dX9_mind_43 ?_
          refine kx_ishl (pc := 44) C dX9_mind_44 ?_
          rw [kx_sl1 (by omega)]
          refine kx_goto (pc := 45) C 49 dX9_mind_45 (by decide) ?_
          refine kx_ior (pc := 49) C dX9_mind_49 ?_
          refine kx_ist2 (pc := 50) C dX9_mind_50 (by decide) rfl ?_
          first | refine kx_inc3 (pc := 51) C (v := nI (_ + 1)) dX9_mind_51 (by decide) rfl (nI_1 _) ?_ | refine kx_inc3 (pc := 51) C dX9_mind_51 (by decide) rfl rfl ?_
          refine kx_goto (pc := 54) C 14 dX9_mind_54 (by decide) ?_
          first
            | (rw [if_pos c39, Nat.add_zero] at h3
               rw [show nI (sp_ms a s t) ||| nI 0 = nI (sp_ms a s t) by rw [kx_orn, Nat.or_zero]]
               exact h3)
            | (rw [if_neg (by omega)] at h3
               rw [kx_or hms]
               exact h3)
  refine kx_ald0 (pc := 0) C dX9_mind_0 ?_
  refine kx_ild1 (pc := 1) C dX9_mind_1 ?_
  refine kx_callVI1 (pc := 2) C cs_X9_97 ob_127 (m_X9_isSpinner _ (by assumption) (by omega)) (by decide) dX9_mind_2 (Nat.le_of_ble_eq_true rfl) (fun r2 h2 q2 => ?_)
  obtain ⟨z2, rfl⟩ := q2
  have z2 := z2.symm
  subst z2
  refine kx_if_ne (pc := 5) C 10 dX9_mind_5 (by decide) (fun c5 => ?_) (fun c5 => ?_)
  · have c5 := kx_if1 c5
    obtain ⟨i, rfl, hi, hi2⟩ := kx_nat c5.1
    refine kx_iconst (pc := 10) C (v := nI 0) dX9_mind_10 (by decide) ?_
    refine kx_ist2 (pc := 11) C dX9_mind_11 (by decide) rfl ?_
    refine kx_iconst (pc := 12) C (v := nI 0) dX9_mind_12 (by decide) ?_
    refine kx_ist3 (pc := 13) C dX9_mind_13 (by decide) rfl ?_
    exact loop i (a 0) 0 (by omega) (fun r e => ⟨rfl, by rw [sp_mindr, if_pos c5, kx_n, kx_n_nI hi2]; exact e⟩) (by omega) (by omega) hR
  · refine kx_iconst (pc := 8) C (v := -1) dX9_mind_8 (by decide) ?_
    exact hR dX9_mind_9 rfl ⟨rfl, by rw [sp_mindr, if_neg (kx_if0 c5)]⟩
set_option maxHeartbeats 4000000 in
set_option maxRecDepth 100000 in
theorem m_X9_count {h : kx_H} {a : Nat → Nat} (w : Int32) (hH : st_MH 128 h a) (hB : st_B a) : kx_MI 2 yX9_count cX9_count 2 .int [.ref 127, .int w] h (fun r h1 => h1 = h ∧ r = sp_count a w) := by
  refine kx_mkI (own := RX9) (L0 := [some (.ref 127), some (.int w)]) rfl (by decide +kernel) (Nat.le_of_ble_eq_true rfl) rfl (fun F C hR => ?_)
  obtain ⟨hM, hMB⟩ := id hH
  obtain ⟨⟨b0, b1, b2, b3, b8, b8'⟩, hRB, bl, byy, bh, bz, bb⟩ := id hB
  have hl9 := hRB.1
  have hT : h 128 0 = nI (a 0) := hM 0 (by omega) (by omega) (by omega) (by omega)
  have hE : h 128 1 = nI (a 1) := hM 1 (by omega) (by omega) (by omega) (by omega)
  have hS : h 128 2 = nI (a 2) := hM 2 (by omega) (by omega) (by omega) (by omega)
  have hev : h 128 3 = nI (a 3) := hM 3 (by omega) (by omega) (by omega) (by omega)
  have hme : h 128 8 = nI (a 8) := hM 8 (by omega) (by omega) (by omega) (by omega)
  refine kx_ild1 (pc := 0) C dX9_count_0 ?_
  refine kx_i2l (pc := 1) C dX9_count_1 ?_
  refine kx_lconst (pc := 2) C (v := 0) dX9_count_2 (by decide) ?_
  refine kx_ldc2 (pc := 3) C dX9_count_3 cn_X9_109 ?_
  refine kx_callSI3 (pc := 6) C cs_X9_52 (m_X9_in (p := 0) (q := _) (r := 6) (by rfl) (kx_L _) (by rfl)) (by decide) dX9_count_6 (Nat.le_of_ble_eq_true rfl) (fun r6 h6 q6 => ?_)
  obtain ⟨z6, rfl⟩ := q6
  have z6 := z6.symm
  subst z6
  refine kx_if_eq (pc := 9) C 21 dX9_count_9 (by decide) (fun c9 => ?_) (fun c9 => ?_)
  · refine kx_iconst (pc := 21) C (v := -1) dX9_count_21 (by decide) ?_
    first
      | exact hR dX9_count_22 rfl ⟨rfl, by rw [sp_count, if_neg (kx_if0 c9)]⟩
      | (refine hR dX9_count_22 rfl ⟨rfl, ?_⟩
         rw [sp_count, if_pos c9, kx_n, kx_n_nI hm2]
         by_cases q : 4 ≤ m
         · rcases hMB with ⟨z, q4, q5, q6⟩ | ⟨z, q4, q5, q6⟩
           · rw [if_pos (by omega)]
             rcases (show m = 4 ∨ m = 5 ∨ m = 6 by omega) with rfl | rfl | rfl
             · exact q4
             · exact q5
             · exact q6
           · rw [if_neg (by omega)]
             rcases (show m = 4 ∨ m = 5 ∨ m = 6 by omega) with rfl | rfl | rfl
             · rw [if_pos (by omega)]; exact q4
             · rw [if_neg (by omega)]; exact q5
             · rw [if_neg (by omega)]; exact q6
         · rw [if_neg (by omega), if_neg (by omega)]
           exact hM m (by omega) (by omega) (by omega) (by omega))
  · have c9 := kx_if1 c9
    obtain ⟨m, rfl, hm, hm2⟩ := kx_nat c9.1
    refine kx_ald0 (pc := 12) C dX9_count_12 ?_
    refine kx_getr (pc := 13) C fl_X9_7 fd_127_0 dX9_count_13 ?_
    refine kx_ild1 (pc := 16) C dX9_count_16 ?_
    refine kx_iald (pc := 17) C ia_128 (by omega) rfl dX9_count_17 ?_
    refine kx_goto (pc := 18) C 22 dX9_count_18 (by decide) ?_
    first
      | exact hR dX9_count_22 rfl ⟨rfl, by rw [sp_count, if_neg (kx_if0 c9)]⟩
      | (refine hR dX9_count_22 rfl ⟨rfl, ?_⟩
         rw [sp_count, if_pos c9, kx_n, kx_n_nI hm2]
         by_cases q : 4 ≤ m
         · rcases hMB with ⟨z, q4, q5, q6⟩ | ⟨z, q4, q5, q6⟩
           · rw [if_pos (by omega)]
             rcases (show m = 4 ∨ m = 5 ∨ m = 6 by omega) with rfl | rfl | rfl
             · exact q4
             · exact q5
             · exact q6
           · rw [if_neg (by omega)]
             rcases (show m = 4 ∨ m = 5 ∨ m = 6 by omega) with rfl | rfl | rfl
             · rw [if_pos (by omega)]; exact q4
             · rw [if_neg (by omega)]; exact q5
             · rw [if_neg (by omega)]; exact q6
         · rw [if_neg (by omega), if_neg (by omega)]
           exact hM m (by omega) (by omega) (by omega) (by omega))
