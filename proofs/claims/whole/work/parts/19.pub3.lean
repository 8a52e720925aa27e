set_option maxHeartbeats 4000000 in
set_option maxRecDepth 100000 in
theorem m_X8_evening {h : kx_H} {a : Nat → Nat} (e t n w : Int32) (hC : st_CH h a) (hB : st_B a) : kx_MI 7 yX8_evening cX8_evening 5 .int [.ref 0, .int e, .int t, .int n, .int w] h (fun r h1 => r = sp_evening a e t n w ∧ st_CH h1 (sp_eveningA a e t n w) ∧ ∀ d j, (d < 1 ∨ 23 ≤ d) → h1 d j = h d j) := by
  refine kx_mkI (own := RX8) (L0 := [some (.ref 0), some (.int e), some (.int t), some (.int n), some (.int w)]) rfl (by decide +kernel) (Nat.le_of_ble_eq_true rfl) rfl (fun F C hR => ?_)
  obtain ⟨⟨hT, hE, hS, hev, hme⟩, ⟨hlen, hten, hkd⟩, hYD, hHD, hBR⟩ := id hC
  obtain ⟨⟨b0, b1, b2, b3, b8, b8'⟩, hRB, bl, byy, bh, bz, bb⟩ := id hB
  have hl9 := hRB.1
  refine kx_ald0 (pc := 0) C dX8_evening_0 ?_
  refine kx_getr (pc := 1) C fl_X8_10 fd_0_0 dX8_evening_1 ?_
  refine kx_ild1 (pc := 4) C dX8_evening_4 ?_
  refine kx_callVI1 (pc := 5) C cs_X8_132 ob_1 (m_X2_hasTeller _ (by assumption) (by omega)) (by decide) dX8_evening_5 (Nat.le_of_ble_eq_true rfl) (fun r5 h5 q5 => ?_)
  obtain ⟨z5, rfl⟩ := q5
  have z5 := z5.symm
  subst z5
  refine kx_if_eq (pc := 8) C 44 dX8_evening_8 (by decide) (fun c8 => ?_) (fun c8 => ?_)
  · refine kx_iconst (pc := 44) C (v := -1) dX8_evening_44 (by decide) ?_
    have nc : ¬ ((0 ≤ e.toInt ∧ e.toInt < (a 1 : Int)) ∧ (0 ≤ t.toInt ∧ t.toInt < (a 0 : Int)) ∧ (1 ≤ n.toInt ∧ n.toInt ≤ 9) ∧ 0 ≤ w.toInt ∧ w.toInt < ((2 ^ a 2 : Nat) : Int)) := fun z => by
      first
        | exact kx_if0 c41 z.2.2.2
        | exact kx_if0 c29 z.2.2.1
        | exact kx_if0 c19 z.2.1
        | exact kx_if0 c8 z.1
    exact hR dX8_evening_45 rfl ⟨by rw [sp_evening, if_neg nc], by rw [sp_eveningA, if_neg (fun z => nc z.1)]; exact hC, fun d j _ => rfl⟩
  · refine kx_ald0 (pc := 11) C dX8_evening_11 ?_
    refine kx_getr (pc := 12) C fl_X8_10 fd_0_0 dX8_evening_12 ?_
    refine kx_ild2 (pc := 15) C dX8_evening_15 ?_
    refine kx_callVI1 (pc := 16) C cs_X8_125 ob_1 (m_X2_hasTale _ (by assumption) (by omega)) (by decide) dX8_evening_16 (Nat.le_of_ble_eq_true rfl) (fun r16 h16 q16 => ?_)
    obtain ⟨z16, rfl⟩ := q16
    have z16 := z16.symm
    subst z16
    refine kx_if_eq (pc := 19) C 44 dX8_evening_19 (by decide) (fun c19 => ?_) (fun c19 => ?_)
    · refine kx_iconst (pc := 44) C (v := -1) dX8_evening_44 (by decide) ?_
      have nc : ¬ ((0 ≤ e.toInt ∧ e.toInt < (a 1 : Int)) ∧ (0 ≤ t.toInt ∧ t.toInt < (a 0 : Int)) ∧ (1 ≤ n.toInt ∧ n.toInt ≤ 9) ∧ 0 ≤ w.toInt ∧ w.toInt < ((2 ^ a 2 : Nat) : Int)) := fun z => by
        first
          | exact kx_if0 c41 z.2.2.2
          | exact kx_if0 c29 z.2.2.1
          | exact kx_if0 c19 z.2.1
          | exact kx_if0 c8 z.1
      exact hR dX8_evening_45 rfl ⟨by rw [sp_evening, if_neg nc], by rw [sp_eveningA, if_neg (fun z => nc z.1)]; exact hC, fun d j _ => rfl⟩
    · refine kx_ild3 (pc := 22) C dX8_evening_22 ?_
      refine kx_iconst (pc := 23) C (v := nI 1) dX8_evening_23 (by decide) ?_
      refine kx_bipush (pc := 24) C (v := nI 9) dX8_evening_24 (by decide) ?_
      refine kx_callSI3 (pc := 26) C cs_X8_75 (m_X8_isWithin _ _ _) (by decide) dX8_evening_26 (Nat.le_of_ble_eq_true rfl) (fun r26 h26 q26 => ?_)
      obtain ⟨z26, rfl⟩ := q26
      have z26 := z26.symm
      subst z26
      refine kx_if_eq (pc := 29) C 44 dX8_evening_29 (by decide) (fun c29 => ?_) (fun c29 => ?_)
      · refine kx_iconst (pc := 44) C (v := -1) dX8_evening_44 (by decide) ?_
        have nc : ¬ ((0 ≤ e.toInt ∧ e.toInt < (a 1 : Int)) ∧ (0 ≤ t.toInt ∧ t.toInt < (a 0 : Int)) ∧ (1 ≤ n.toInt ∧ n.toInt ≤ 9) ∧ 0 ≤ w.toInt ∧ w.toInt < ((2 ^ a 2 : Nat) : Int)) := fun z => by
          first
            | exact kx_if0 c41 z.2.2.2
            | exact kx_if0 c29 z.2.2.1
            | exact kx_if0 c19 z.2.1
            | exact kx_if0 c8 z.1
        exact hR dX8_evening_45 rfl ⟨by rw [sp_evening, if_neg nc], by rw [sp_eveningA, if_neg (fun z => nc z.1)]; exact hC, fun d j _ => rfl⟩
      · refine kx_ald0 (pc := 32) C dX8_evening_32 ?_
        refine kx_getr (pc := 33) C fl_X8_10 fd_0_0 dX8_evening_33 ?_
        refine kx_ild4 (pc := 36) C dX8_evening_36 ?_
        refine kx_callVI1 (pc := 38) C cs_X8_160 ob_1 (m_X2_hasAllOf _ (by assumption) (by omega)) (by decide) dX8_evening_38 (Nat.le_of_ble_eq_true rfl) (fun r38 h38 q38 => ?_)
        obtain ⟨z38, rfl⟩ := q38
        have z38 := z38.symm
        subst z38
        refine kx_if_ne (pc := 41) C 46 dX8_evening_41 (by decide) (fun c41 => ?_) (fun c41 => ?_)
        · have c8 := kx_if1 c8
          have c19 := kx_if1 c19
          have c29 := kx_if1 c29
          have c41 := kx_if1 c41
          rw [show (nI 1).toInt = 1 from rfl, show (nI 9).toInt = 9 from rfl] at c29
          obtain ⟨i, rfl, hi, hi2⟩ := kx_nat c8.1
          obtain ⟨j, rfl, hj, hj2⟩ := kx_nat c19.1
          obtain ⟨m, rfl, hm, hm2⟩ := kx_nat (x := n) (by omega)
          obtain ⟨x, rfl, hx, hx2⟩ := kx_nat c41.1
          rw [hi] at c8
          rw [hj] at c19
          rw [hm] at c29
          rw [hx] at c41
          refine kx_ald0 (pc := 46) C dX8_evening_46 ?_
          refine kx_getr (pc := 47) C fl_X8_10 fd_0_0 dX8_evening_47 ?_
          refine kx_geti (pc := 50) C fl_X8_148 fd_1_3 (by first | assumption | exact hlen _ (by omega) | exact hten _ _ (by omega) (by omega) | exact hkd _ (by omega) | exact hYD _ _ (by omega) (by omega) | exact hHD _ _ (by omega) (by omega) | rfl) dX8_evening_50 ?_
          refine kx_sipush (pc := 53) C (v := nI 9999) dX8_evening_53 (by decide) ?_
          refine kx_icmp_ltN (pc := 56) C 64 (by omega) (by omega) dX8_evening_56 (by decide) (fun c56 => ?_) (fun c56 => ?_)
          · refine kx_ald0 (pc := 64) C dX8_evening_64 ?_
            refine kx_getr (pc := 65) C fl_X8_10 fd_0_0 dX8_evening_65 ?_
            refine kx_ild1 (pc := 68) C dX8_evening_68 ?_
            refine kx_ild2 (pc := 69) C dX8_evening_69 ?_
            refine kx_ild3 (pc := 70) C dX8_evening_70 ?_
            refine kx_ild4 (pc := 71) C dX8_evening_71 ?_
            refine kx_callVI4 (pc := 73) C cs_X8_163 ob_1 (m_X2_spend hC hB (by omega) (by omega) (by omega) (by omega) (by omega) (by omega)) (by decide) dX8_evening_73 (Nat.le_of_ble_eq_true rfl) (fun r73 h73 q73 => ?_)
            obtain ⟨rfl, k1, k2⟩ := q73
            have cc : (0 ≤ (nI i).toInt ∧ (nI i).toInt < (a 1 : Int)) ∧ (0 ≤ (nI j).toInt ∧ (nI j).toInt < (a 0 : Int)) ∧ (1 ≤ (nI m).toInt ∧ (nI m).toInt ≤ 9) ∧ 0 ≤ (nI x).toInt ∧ (nI x).toInt < ((2 ^ a 2 : Nat) : Int) := by rw [hi, hj, hm, hx]; exact ⟨c8, c19, c29, c41⟩
            first
              | exact hR dX8_evening_76 rfl ⟨by rw [sp_evening, if_pos cc, if_neg (by omega)], by rw [sp_eveningA, if_neg (fun z => by have := z.2; omega)]; exact hC, fun d j _ => rfl⟩
              | exact hR dX8_evening_76 rfl ⟨by rw [sp_evening, if_pos cc, if_pos c56, kx_n, kx_n, kx_n, kx_n, kx_n_nI hi2, kx_n_nI hj2, kx_n_nI hm2, kx_n_nI hx2], by rw [sp_eveningA, if_pos ⟨cc, c56⟩, kx_n, kx_n, kx_n, kx_n, kx_n_nI hi2, kx_n_nI hj2, kx_n_nI hm2, kx_n_nI hx2]; exact k1, fun d j hd => k2 d j (by omega)⟩
          · refine kx_bipush (pc := 59) C (v := -3) dX8_evening_59 (by decide) ?_
            refine kx_goto (pc := 61) C 76 dX8_evening_61 (by decide) ?_
            have cc : (0 ≤ (nI i).toInt ∧ (nI i).toInt < (a 1 : Int)) ∧ (0 ≤ (nI j).toInt ∧ (nI j).toInt < (a 0 : Int)) ∧ (1 ≤ (nI m).toInt ∧ (nI m).toInt ≤ 9) ∧ 0 ≤ (nI x).toInt ∧ (nI x).toInt < ((2 ^ a 2 : Nat) : Int) := by rw [hi, hj, hm, hx]; exact ⟨c8, c19, c29, c41⟩
            first
              | exact hR dX8_evening_76 rfl ⟨by rw [sp_evening, if_pos cc, if_neg (by omega)], by rw [sp_eveningA, if_neg (fun z => by have := z.2; omega)]; exact hC, fun d j _ => rfl⟩
              | exact hR dX8_evening_76 rfl ⟨by rw [sp_evening, if_pos cc, if_pos c56, kx_n, kx_n, kx_n, kx_n, kx_n_nI hi2, kx_n_nI hj2, kx_n_nI hm2, kx_n_nI hx2], by rw [sp_eveningA, if_pos ⟨cc, c56⟩, kx_n, kx_n, kx_n, kx_n, kx_n_nI hi2, kx_n_nI hj2, kx_n_nI hm2, kx_n_nI hx2]; exact k1, fun d j hd => k2 d j (by omega)⟩
        · refine kx_iconst (pc := 44) C (v := -1) dX8_evening_44 (by decide) ?_
          have nc : ¬ ((0 ≤ e.toInt ∧ e.toInt < (a 1 : Int)) ∧ (0 ≤ t.toInt ∧ t.toInt < (a 0 : Int)) ∧ (1 ≤ n.toInt ∧ n.toInt ≤ 9) ∧ 0 ≤ w.toInt ∧ w.toInt < ((2 ^ a 2 : Nat) : Int)) := fun z => by
            first
              | exact kx_if0 c41 z.2.2.2
              | exact kx_if0 c29 z.2.2.1
              | exact kx_if0 c19 z.2.1
              | exact kx_if0 c8 z.1
          exact hR dX8_evening_45 rfl ⟨by rw [sp_evening, if_neg nc], by rw [sp_eveningA, if_neg (fun z => nc z.1)]; exact hC, fun d j _ => rfl⟩
theorem sp_jm (j : Int32) {L : Nat} (hL : L ≤ 9) : (0 ≤ (j - nI 1).toInt ∧ (j - nI 1).toInt < (L : Int)) ↔ 1 ≤ j.toInt ∧ j.toInt ≤ (L : Int) := by
  have h1 := kx_Tlo j
  have h2 := kx_Thi j
  have e1 : (nI 1).toInt = 1 := rfl
  by_cases q : j.toInt = -2147483648
  · have : j = -2147483648 := kx_eqI.mpr (by rw [q]; rfl)
    subst this
    have e : ((-2147483648 : Int32) - nI 1).toInt = 2147483647 := by decide +kernel
    rw [e]
    omega
  · rw [kx_Tsub (by omega) (by omega), e1]
    omega
theorem kx_frame2 {h g : kx_H} {a : Nat → Nat} (hC : st_CH h a) (hg : ∀ d j, d < 23 → g d j = h d j) : st_CH g a :=
  st_CH.of (fun d j k hp => by rw [hg d j (by unfold st_pos at hp; omega)]; exact hC.at hp) (hC.2.2.2.2.kept (fun j _ => hg 1 j (by omega)) (fun k _ _ => rfl))
set_option maxHeartbeats 4000000 in
set_option maxRecDepth 100000 in
theorem m_X8_play {h : kx_H} {a : Nat → Nat} (e t j p w : Int32) (hC : st_CH h a) (hB : st_B a) : kx_MI 5 yX8_play cX8_play 6 .int [.ref 0, .int e, .int t, .int j, .int p, .int w] h (fun r h1 => r = sp_play a e t j p w ∧ ∀ d k, d ≠ 125 → d ≠ 126 → h1 d k = h d k) := by
  refine kx_mkI (own := RX8) (L0 := [some (.ref 0), some (.int e), some (.int t), some (.int j), some (.int p), some (.int w)]) rfl (by decide +kernel) (Nat.le_of_ble_eq_true rfl) rfl (fun F C hR => ?_)
  obtain ⟨⟨hT, hE, hS, hev, hme⟩, ⟨hlen, hten, hkd⟩, hYD, hHD, hBR⟩ := id hC
  obtain ⟨⟨b0, b1, b2, b3, b8, b8'⟩, hRB, bl, byy, bh, bz, bb⟩ := id hB
  have hl9 := hRB.1
  refine kx_ald0 (pc := 0) C dX8_play_0 ?_
  refine kx_getr (pc := 1) C fl_X8_10 fd_0_0 dX8_play_1 ?_
  refine kx_ild1 (pc := 4) C dX8_play_4 ?_
  refine kx_callVI1 (pc := 5) C cs_X8_132 ob_1 (m_X2_hasTeller _ (by assumption) (by omega)) (by decide) dX8_play_5 (Nat.le_of_ble_eq_true rfl) (fun r5 h5 q5 => ?_)
  obtain ⟨z5, rfl⟩ := q5
  have z5 := z5.symm
  subst z5
  refine kx_if_eq (pc := 8) C 46 dX8_play_8 (by decide) (fun c8 => ?_) (fun c8 => ?_)
  · refine kx_ldc (pc := 46) C dX8_play_46 cn_X8_177 ?_
    have nc : ¬ ((0 ≤ e.toInt ∧ e.toInt < (a 1 : Int)) ∧ ((0 ≤ t.toInt ∧ t.toInt < (a 0 : Int)) ∧ 1 ≤ j.toInt ∧ j.toInt ≤ (a (81 + kx_n t) : Int)) ∧ (0 ≤ p.toInt ∧ p.toInt ≤ 9) ∧ 0 ≤ w.toInt ∧ w.toInt ≤ 1) := fun z => by
      first
        | exact kx_if0 c43 z.2.2.2
        | exact kx_if0 c33 z.2.2.1
        | exact kx_if0 c22 ⟨z.2.1.1, (sp_jm j (hl9 _ (by have := z.2.1.1; omega))).mpr z.2.1.2⟩
        | exact kx_if0 c8 z.1
    exact hR dX8_play_48 rfl ⟨by rw [sp_play, if_neg nc], fun d k _ _ => rfl⟩
  · refine kx_ald0 (pc := 11) C dX8_play_11 ?_
    refine kx_getr (pc := 12) C fl_X8_10 fd_0_0 dX8_play_12 ?_
    refine kx_ild2 (pc := 15) C dX8_play_15 ?_
    refine kx_ild3 (pc := 16) C dX8_play_16 ?_
    refine kx_iconst (pc := 17) C (v := nI 1) dX8_play_17 (by decide) ?_
    refine kx_isub (pc := 18) C dX8_play_18 ?_
    refine kx_callVI2 (pc := 19) C cs_X8_102 ob_1 (m_X2_hasSentence _ _ (by assumption) (by omega) hlen hl9) (by decide) dX8_play_19 (Nat.le_of_ble_eq_true rfl) (fun r19 h19 q19 => ?_)
    obtain ⟨z19, rfl⟩ := q19
    have z19 := z19.symm
    subst z19
    refine kx_if_eq (pc := 22) C 46 dX8_play_22 (by decide) (fun c22 => ?_) (fun c22 => ?_)
    · refine kx_ldc (pc := 46) C dX8_play_46 cn_X8_177 ?_
      have nc : ¬ ((0 ≤ e.toInt ∧ e.toInt < (a 1 : Int)) ∧ ((0 ≤ t.toInt ∧ t.toInt < (a 0 : Int)) ∧ 1 ≤ j.toInt ∧ j.toInt ≤ (a (81 + kx_n t) : Int)) ∧ (0 ≤ p.toInt ∧ p.toInt ≤ 9) ∧ 0 ≤ w.toInt ∧ w.toInt ≤ 1) := fun z => by
        first
          | exact kx_if0 c43 z.2.2.2
          | exact kx_if0 c33 z.2.2.1
          | exact kx_if0 c22 ⟨z.2.1.1, (sp_jm j (hl9 _ (by have := z.2.1.1; omega))).mpr z.2.1.2⟩
          | exact kx_if0 c8 z.1
      exact hR dX8_play_48 rfl ⟨by rw [sp_play, if_neg nc], fun d k _ _ => rfl⟩
    · refine kx_ild4 (pc := 25) C dX8_play_25 ?_
      refine kx_iconst (pc := 27) C (v := nI 0) dX8_play_27 (by decide) ?_
      refine kx_bipush (pc := 28) C (v := nI 9) dX8_play_28 (by decide) ?_
      refine kx_callSI3 (pc := 30) C cs_X8_75 (m_X8_isWithin _ _ _) (by decide) dX8_play_30 (Nat.le_of_ble_eq_true rfl) (fun r30 h30 q30 => ?_)
      obtain ⟨z30, rfl⟩ := q30
      have z30 := z30.symm
      subst z30
      refine kx_if_eq (pc := 33) C 46 dX8_play_33 (by decide) (fun c33 => ?_) (fun c33 => ?_)
      · refine kx_ldc (pc := 46) C dX8_play_46 cn_X8_177 ?_
        have nc : ¬ ((0 ≤ e.toInt ∧ e.toInt < (a 1 : Int)) ∧ ((0 ≤ t.toInt ∧ t.toInt < (a 0 : Int)) ∧ 1 ≤ j.toInt ∧ j.toInt ≤ (a (81 + kx_n t) : Int)) ∧ (0 ≤ p.toInt ∧ p.toInt ≤ 9) ∧ 0 ≤ w.toInt ∧ w.toInt ≤ 1) := fun z => by
          first
            | exact kx_if0 c43 z.2.2.2
            | exact kx_if0 c33 z.2.2.1
            | exact kx_if0 c22 ⟨z.2.1.1, (sp_jm j (hl9 _ (by have := z.2.1.1; omega))).mpr z.2.1.2⟩
            | exact kx_if0 c8 z.1
        exact hR dX8_play_48 rfl ⟨by rw [sp_play, if_neg nc], fun d k _ _ => rfl⟩
      · refine kx_ild5 (pc := 36) C dX8_play_36 ?_
        refine kx_iconst (pc := 38) C (v := nI 0) dX8_play_38 (by decide) ?_
        refine kx_iconst (pc := 39) C (v := nI 1) dX8_play_39 (by decide) ?_
        refine kx_callSI3 (pc := 40) C cs_X8_75 (m_X8_isWithin _ _ _) (by decide) dX8_play_40 (Nat.le_of_ble_eq_true rfl) (fun r40 h40 q40 => ?_)
        obtain ⟨z40, rfl⟩ := q40
        have z40 := z40.symm
        subst z40
        refine kx_if_ne (pc := 43) C 49 dX8_play_43 (by decide) (fun c43 => ?_) (fun c43 => ?_)
        · have c8 := kx_if1 c8
          have c22 := kx_if1 c22
          have c33 := kx_if1 c33
          have c43 := kx_if1 c43
          rw [show (nI 0).toInt = 0 from rfl, show (nI 9).toInt = 9 from rfl] at c33
          rw [show (nI 0).toInt = 0 from rfl, show (nI 1).toInt = 1 from rfl] at c43
          obtain ⟨i, rfl, hi, hi2⟩ := kx_nat c8.1
          obtain ⟨m, rfl, hm, hm2⟩ := kx_nat c22.1.1
          rw [kx_n_nI hm2] at c22
          have l1 := hl9 m (by omega)
          have c22b := (sp_jm j l1).mp c22.2
          obtain ⟨x, rfl, hx, hx2⟩ := kx_nat (x := j) (by omega)
          obtain ⟨y, rfl, hy, hy2⟩ := kx_nat c33.1
          have cc : (0 ≤ (nI i).toInt ∧ (nI i).toInt < (a 1 : Int)) ∧ ((0 ≤ (nI m).toInt ∧ (nI m).toInt < (a 0 : Int)) ∧ 1 ≤ (nI x).toInt ∧ (nI x).toInt ≤ (a (81 + m) : Int)) ∧ (0 ≤ (nI y).toInt ∧ (nI y).toInt ≤ 9) ∧ 0 ≤ w.toInt ∧ w.toInt ≤ 1 := ⟨c8, ⟨c22.1, c22b⟩, c33, c43⟩
          refine kx_ald0 (pc := 49) C dX8_play_49 ?_
          refine kx_getr (pc := 50) C fl_X8_70 fd_0_11 dX8_play_50 ?_
          refine kx_ald0 (pc := 53) C dX8_play_53 ?_
          refine kx_getr (pc := 54) C fl_X8_10 fd_0_0 dX8_play_54 ?_
          refine kx_ild1 (pc := 57) C dX8_play_57 ?_
          refine kx_ild2 (pc := 58) C dX8_play_58 ?_
          refine kx_callVV3 (pc := 59) C cs_X8_178 ob_125 (m_X1_begin ⟨hlen, hten, hkd⟩ hRB (by omega) (by omega)) (by decide) dX8_play_59 (Nat.le_of_ble_eq_true rfl) (fun h59 q59 => ?_)
          obtain ⟨k1, k2⟩ := q59
          refine kx_ild5 (pc := 62) C dX8_play_62 ?_
          refine kx_if_ne (pc := 64) C 80 dX8_play_64 (by decide) (fun c64 => ?_) (fun c64 => ?_)
          · refine kx_ald0 (pc := 80) C dX8_play_80 ?_
            refine kx_getr (pc := 81) C fl_X8_70 fd_0_11 dX8_play_81 ?_
            refine kx_ild3 (pc := 84) C dX8_play_84 ?_
            refine kx_ild4 (pc := 85) C dX8_play_85 ?_
            refine kx_callVI2 (pc := 87) C cs_X8_185 ob_125 (m_X1_spinnerPoints k1 (by omega) (by omega)) (by decide) dX8_play_87 (Nat.le_of_ble_eq_true rfl) (fun r87 h87 q87 => ?_)
            obtain ⟨z87, rfl⟩ := q87
            subst z87
            first
              | exact hR dX8_play_90 rfl ⟨by rw [sp_play, kx_n, kx_n, kx_n, kx_n, kx_n_nI hi2, kx_n_nI hm2, kx_n_nI hx2, kx_n_nI hy2, if_pos cc, if_pos c64]; rfl, k2⟩
              | exact hR dX8_play_90 rfl ⟨by rw [sp_play, kx_n, kx_n, kx_n, kx_n, kx_n_nI hi2, kx_n_nI hm2, kx_n_nI hx2, kx_n_nI hy2, if_pos cc, if_neg c64]; rfl, k2⟩
          · refine kx_ald0 (pc := 67) C dX8_play_67 ?_
            refine kx_getr (pc := 68) C fl_X8_70 fd_0_11 dX8_play_68 ?_
            refine kx_ild3 (pc := 71) C dX8_play_71 ?_
            refine kx_ild4 (pc := 72) C dX8_play_72 ?_
            refine kx_callVI2 (pc := 74) C cs_X8_181 ob_125 (m_X1_tellerPoints k1 (by omega) (by omega)) (by decide) dX8_play_74 (Nat.le_of_ble_eq_true rfl) (fun r74 h74 q74 => ?_)
            obtain ⟨z74, rfl⟩ := q74
            subst z74
            refine kx_goto (pc := 77) C 90 dX8_play_77 (by decide) ?_
            first
              | exact hR dX8_play_90 rfl ⟨by rw [sp_play, kx_n, kx_n, kx_n, kx_n, kx_n_nI hi2, kx_n_nI hm2, kx_n_nI hx2, kx_n_nI hy2, if_pos cc, if_pos c64]; rfl, k2⟩
              | exact hR dX8_play_90 rfl ⟨by rw [sp_play, kx_n, kx_n, kx_n, kx_n, kx_n_nI hi2, kx_n_nI hm2, kx_n_nI hx2, kx_n_nI hy2, if_pos cc, if_neg c64]; rfl, k2⟩
        · refine kx_ldc (pc := 46) C dX8_play_46 cn_X8_177 ?_
          have nc : ¬ ((0 ≤ e.toInt ∧ e.toInt < (a 1 : Int)) ∧ ((0 ≤ t.toInt ∧ t.toInt < (a 0 : Int)) ∧ 1 ≤ j.toInt ∧ j.toInt ≤ (a (81 + kx_n t) : Int)) ∧ (0 ≤ p.toInt ∧ p.toInt ≤ 9) ∧ 0 ≤ w.toInt ∧ w.toInt ≤ 1) := fun z => by
            first
              | exact kx_if0 c43 z.2.2.2
              | exact kx_if0 c33 z.2.2.1
              | exact kx_if0 c22 ⟨z.2.1.1, (sp_jm j (hl9 _ (by have := z.2.1.1; omega))).mpr z.2.1.2⟩
              | exact kx_if0 c8 z.1
          exact hR dX8_play_48 rfl ⟨by rw [sp_play, if_neg nc], fun d k _ _ => rfl⟩
set_option maxHeartbeats 4000000 in
set_option maxRecDepth 100000 in
theorem m_X8_rests {h : kx_H} {a : Nat → Nat} (e t w : Int32) (hC : st_CH h a) (hB : st_B a) : kx_MI 5 yX8_rests cX8_rests 4 .int [.ref 0, .int e, .int t, .int w] h (fun r h1 => r = sp_rests a e t w ∧ ∀ d k, d ≠ 125 → d ≠ 126 → h1 d k = h d k) := by
  refine kx_mkI (own := RX8) (L0 := [some (.ref 0), some (.int e), some (.int t), some (.int w)]) rfl (by decide +kernel) (Nat.le_of_ble_eq_true rfl) rfl (fun F C hR => ?_)
  obtain ⟨⟨hT, hE, hS, hev, hme⟩, ⟨hlen, hten, hkd⟩, hYD, hHD, hBR⟩ := id hC
  obtain ⟨⟨b0, b1, b2, b3, b8, b8'⟩, hRB, bl, byy, bh, bz, bb⟩ := id hB
  have hl9 := hRB.1
  refine kx_ald0 (pc := 0) C dX8_rests_0 ?_
  refine kx_getr (pc := 1) C fl_X8_10 fd_0_0 dX8_rests_1 ?_
  refine kx_ild1 (pc := 4) C dX8_rests_4 ?_
  refine kx_callVI1 (pc := 5) C cs_X8_132 ob_1 (m_X2_hasTeller _ (by assumption) (by omega)) (by decide) dX8_rests_5 (Nat.le_of_ble_eq_true rfl) (fun r5 h5 q5 => ?_)
  obtain ⟨z5, rfl⟩ := q5
  have z5 := z5.symm
  subst z5
  refine kx_if_eq (pc := 8) C 31 dX8_rests_8 (by decide) (fun c8 => ?_) (fun c8 => ?_)
  · refine kx_iconst (pc := 31) C (v := -1) dX8_rests_31 (by decide) ?_
    have nc : ¬ ((0 ≤ e.toInt ∧ e.toInt < (a 1 : Int)) ∧ (0 ≤ t.toInt ∧ t.toInt < (a 0 : Int)) ∧ 0 ≤ w.toInt ∧ w.toInt ≤ 1) := fun z => by
      first
        | exact kx_if0 c28 z.2.2
        | exact kx_if0 c19 z.2.1
        | exact kx_if0 c8 z.1
    exact hR dX8_rests_32 rfl ⟨by rw [sp_rests, if_neg nc], fun d k _ _ => rfl⟩
  · refine kx_ald0 (pc := 11) C dX8_rests_11 ?_
    refine kx_getr (pc := 12) C fl_X8_10 fd_0_0 dX8_rests_12 ?_
    refine kx_ild2 (pc := 15) C dX8_rests_15 ?_
    refine kx_callVI1 (pc := 16) C cs_X8_125 ob_1 (m_X2_hasTale _ (by assumption) (by omega)) (by decide) dX8_rests_16 (Nat.le_of_ble_eq_true rfl) (fun r16 h16 q16 => ?_)
    obtain ⟨z16, rfl⟩ := q16
    have z16 := z16.symm
    subst z16
    refine kx_if_eq (pc := 19) C 31 dX8_rests_19 (by decide) (fun c19 => ?_) (fun c19 => ?_)
    · refine kx_iconst (pc := 31) C (v := -1) dX8_rests_31 (by decide) ?_
      have nc : ¬ ((0 ≤ e.toInt ∧ e.toInt < (a 1 : Int)) ∧ (0 ≤ t.toInt ∧ t.toInt < (a 0 : Int)) ∧ 0 ≤ w.toInt ∧ w.toInt ≤ 1) := fun z => by
        first
          | exact kx_if0 c28 z.2.2
          | exact kx_if0 c19 z.2.1
          | exact kx_if0 c8 z.1
      exact hR dX8_rests_32 rfl ⟨by rw [sp_rests, if_neg nc], fun d k _ _ => rfl⟩
    · refine kx_ild3 (pc := 22) C dX8_rests_22 ?_
      refine kx_iconst (pc := 23) C (v := nI 0) dX8_rests_23 (by decide) ?_
      refine kx_iconst (pc := 24) C (v := nI 1) dX8_rests_24 (by decide) ?_
      refine kx_callSI3 (pc := 25) C cs_X8_75 (m_X8_isWithin _ _ _) (by decide) dX8_rests_25 (Nat.le_of_ble_eq_true rfl) (fun r25 h25 q25 => ?_)
      obtain ⟨z25, rfl⟩ := q25
      have z25 := z25.symm
      subst z25
      refine kx_if_ne (pc := 28) C 33 dX8_rests_28 (by decide) (fun c28 => ?_) (fun c28 => ?_)
      · have c8 := kx_if1 c8
        have c19 := kx_if1 c19
        have c28 := kx_if1 c28
        rw [show (nI 0).toInt = 0 from rfl, show (nI 1).toInt = 1 from rfl] at c28
        obtain ⟨i, rfl, hi, hi2⟩ := kx_nat c8.1
        obtain ⟨m, rfl, hm, hm2⟩ := kx_nat c19.1
        have cc : (0 ≤ (nI i).toInt ∧ (nI i).toInt < (a 1 : Int)) ∧ (0 ≤ (nI m).toInt ∧ (nI m).toInt < (a 0 : Int)) ∧ 0 ≤ w.toInt ∧ w.toInt ≤ 1 := ⟨c8, c19, c28⟩
        refine kx_ald0 (pc := 33) C dX8_rests_33 ?_
        refine kx_getr (pc := 34) C fl_X8_70 fd_0_11 dX8_rests_34 ?_
        refine kx_ald0 (pc := 37) C dX8_rests_37 ?_
        refine kx_getr (pc := 38) C fl_X8_10 fd_0_0 dX8_rests_38 ?_
        refine kx_ild1 (pc := 41) C dX8_rests_41 ?_
        refine kx_ild2 (pc := 42) C dX8_rests_42 ?_
        refine kx_callVV3 (pc := 43) C cs_X8_178 ob_125 (m_X1_begin ⟨hlen, hten, hkd⟩ hRB (by omega) (by omega)) (by decide) dX8_rests_43 (Nat.le_of_ble_eq_true rfl) (fun h43 q43 => ?_)
        obtain ⟨k1, k2⟩ := q43
        refine kx_ald0 (pc := 46) C dX8_rests_46 ?_
        refine kx_getr (pc := 47) C fl_X8_70 fd_0_11 dX8_rests_47 ?_
        refine kx_callVV0 (pc := 50) C cs_X8_188 ob_125 (m_X1_findRests k1) (by decide) dX8_rests_50 (Nat.le_of_ble_eq_true rfl) (fun h50 q50 => ?_)
        obtain ⟨k3, k4, k5, k6⟩ := q50
        refine kx_ald0 (pc := 53) C dX8_rests_53 ?_
        refine kx_getr (pc := 54) C fl_X8_70 fd_0_11 dX8_rests_54 ?_
        refine kx_geti (pc := 57) C fl_X8_191 fd_125_2 k4 dX8_rests_57 ?_
        refine kx_ald0 (pc := 60) C dX8_rests_60 ?_
        refine kx_getr (pc := 61) C fl_X8_70 fd_0_11 dX8_rests_61 ?_
        refine kx_geti (pc := 64) C fl_X8_194 fd_125_3 k5 dX8_rests_64 ?_
        refine kx_ild3 (pc := 67) C dX8_rests_67 ?_
        refine kx_callSI3 (pc := 68) C cs_X8_197 (m_X8_firstOrCount _ _ _) (by decide) dX8_rests_68 (Nat.le_of_ble_eq_true rfl) (fun r68 h68 q68 => ?_)
        obtain ⟨z68, rfl⟩ := q68
        subst z68
        have hl := sp_ct_le (sp_Rx (fun i_1 => if i_1 < a (81 + m) then sp_te a i m i_1 else 0) (a (81 + m))) (10 * a (81 + m))
        have l1 := hl9 m (by omega)
        refine hR dX8_rests_71 rfl ⟨?_, fun d k h1 h2 => by rw [k6 d k h1, k2 d k h1 h2]⟩
        rw [sp_rests, kx_n, kx_n, kx_n_nI hi2, kx_n_nI hm2, if_pos cc]
        by_cases q : w = 0
        · rw [if_pos q, if_pos q]; rfl
        · rw [if_neg q, if_neg q]
          by_cases q2 : sp_ct (sp_Rx (sp_tf a i m) (a (81 + m))) (10 * a (81 + m)) = 0
          · have q3 : nI (sp_ct (sp_Rx (fun i_1 => if i_1 < a (81 + m) then sp_te a i m i_1 else 0) (a (81 + m))) (10 * a (81 + m))) = 0 := by
              show nI (sp_ct (sp_Rx (sp_tf a i m) (a (81 + m))) (10 * a (81 + m))) = 0
              rw [q2]; rfl
            rw [if_pos q3, sp_Rf, if_pos q2]
          · have q3 : ¬ nI (sp_ct (sp_Rx (fun i_1 => if i_1 < a (81 + m) then sp_te a i m i_1 else 0) (a (81 + m))) (10 * a (81 + m))) = 0 := by
              show ¬ nI (sp_ct (sp_Rx (sp_tf a i m) (a (81 + m))) (10 * a (81 + m))) = 0
              exact nI_ne0 (by omega) (by have := sp_ct_le (sp_Rx (sp_tf a i m) (a (81 + m))) (10 * a (81 + m)); omega)
            rw [if_neg q3]; rfl
      · refine kx_iconst (pc := 31) C (v := -1) dX8_rests_31 (by decide) ?_
        have nc : ¬ ((0 ≤ e.toInt ∧ e.toInt < (a 1 : Int)) ∧ (0 ≤ t.toInt ∧ t.toInt < (a 0 : Int)) ∧ 0 ≤ w.toInt ∧ w.toInt ≤ 1) := fun z => by
          first
            | exact kx_if0 c28 z.2.2
            | exact kx_if0 c19 z.2.1
            | exact kx_if0 c8 z.1
        exact hR dX8_rests_32 rfl ⟨by rw [sp_rests, if_neg nc], fun d k _ _ => rfl⟩
set_option maxHeartbeats 4000000 in
set_option maxRecDepth 100000 in
theorem m_X8_image {h : kx_H} {a : Nat → Nat}  (hC : st_CH h a) (hB : st_B a) : kx_MI 3 yX8_image cX8_image 1 .int [.ref 0] h (fun r h1 => r = 1 ∧ st_CK h1 a ∧ h1 0 2 = 1 ∧ ∀ d j, (d < 23 ∨ 45 ≤ d) → (d ≠ 0 ∨ j ≠ 2) → h1 d j = h d j) := by
  refine kx_mkI (own := RX8) (L0 := [some (.ref 0)]) rfl (by decide +kernel) (Nat.le_of_ble_eq_true rfl) rfl (fun F C hR => ?_)
  obtain ⟨⟨hT, hE, hS, hev, hme⟩, ⟨hlen, hten, hkd⟩, hYD, hHD, hBR⟩ := id hC
  obtain ⟨⟨b0, b1, b2, b3, b8, b8'⟩, hRB, bl, byy, bh, bz, bb⟩ := id hB
  have hl9 := hRB.1
  refine kx_ald0 (pc := 0) C dX8_image_0 ?_
  refine kx_getr (pc := 1) C fl_X8_16 fd_0_1 dX8_image_1 ?_
  refine kx_ald0 (pc := 4) C dX8_image_4 ?_
  refine kx_getr (pc := 5) C fl_X8_10 fd_0_0 dX8_image_5 ?_
  refine kx_callVV1 (pc := 8) C cs_X8_200 ob_23 (m_X2_becomeLike_img) (by decide) dX8_image_8 (Nat.le_of_ble_eq_true rfl) (fun h8 q8 => ?_)
  obtain ⟨k1, k2⟩ := q8
  refine kx_ald0 (pc := 11) C dX8_image_11 ?_
  refine kx_iconst (pc := 12) C (v := nI 1) dX8_image_12 (by decide) ?_
  refine kx_puti (pc := 13) C fl_X8_204 fp_X8_2 fd_0_2 rfl rfl dX8_image_13 ?_
  refine kx_iconst (pc := 16) C (v := nI 1) dX8_image_16 (by decide) ?_
  refine hR dX8_image_17 rfl ⟨rfl, ?_, by simp [kx_up]; rfl, fun d j h1 h2 => by rw [kx_up, if_neg (by omega)]; exact k2 d j h1⟩
  refine st_cp.img (h := h) ?_ hC
  obtain ⟨c1, c2, c3, c4, c5, c6⟩ := k1
  exact ⟨fun k hk => by rw [kx_up, if_neg (by omega)]; exact c1 k hk, fun t ht => by rw [kx_up, if_neg (by omega)]; exact c2 t ht, fun t j ht hj => by rw [kx_up, if_neg (by omega)]; exact c3 t j ht hj, fun e he => by rw [kx_up, if_neg (by omega)]; exact c4 e he, fun s j hs hj => by rw [kx_up, if_neg (by omega)]; exact c5 s j hs hj, fun s j hs hj => by rw [kx_up, if_neg (by omega)]; exact c6 s j hs hj⟩
set_option maxHeartbeats 4000000 in
set_option maxRecDepth 100000 in
theorem m_X8_restore {h : kx_H} {b : Nat → Nat} (hK : ¬ h 0 2 = 0 → st_CK h b) : kx_MI 3 yX8_restore cX8_restore 1 .int [.ref 0] h (fun r h1 => (h 0 2 = 0 → r = -4 ∧ h1 = h) ∧ (¬ h 0 2 = 0 → r = 1 ∧ st_CH h1 b ∧ ∀ d j, (d < 1 ∨ 23 ≤ d) → h1 d j = h d j)) := by
  refine kx_mkI (own := RX8) (L0 := [some (.ref 0)]) rfl (by decide +kernel) (Nat.le_of_ble_eq_true rfl) rfl (fun F C hR => ?_)
  refine kx_ald0 (pc := 0) C dX8_restore_0 ?_
  refine kx_geti (pc := 1) C fl_X8_204 fd_0_2 rfl dX8_restore_1 ?_
  refine kx_if_ne (pc := 4) C 10 dX8_restore_4 (by decide) (fun c4 => ?_) (fun c4 => ?_)
  · refine kx_ald0 (pc := 10) C dX8_restore_10 ?_
    refine kx_getr (pc := 11) C fl_X8_10 fd_0_0 dX8_restore_11 ?_
    refine kx_ald0 (pc := 14) C dX8_restore_14 ?_
    refine kx_getr (pc := 15) C fl_X8_16 fd_0_1 dX8_restore_15 ?_
    refine kx_callVV1 (pc := 18) C cs_X8_200 ob_1 (m_X2_becomeLike_res) (by decide) dX8_restore_18 (Nat.le_of_ble_eq_true rfl) (fun h18 q18 => ?_)
    obtain ⟨k1, k2⟩ := q18
    refine kx_iconst (pc := 21) C (v := nI 1) dX8_restore_21 (by decide) ?_
    exact hR dX8_restore_22 rfl ⟨fun z => absurd z c4, fun _ => ⟨rfl, st_cp.res k1 (hK c4), k2⟩⟩
  · refine kx_bipush (pc := 7) C (v := -4) dX8_restore_7 (by decide) ?_
    exact hR dX8_restore_9 rfl ⟨fun _ => ⟨rfl, rfl⟩, fun z => absurd c4 z⟩
