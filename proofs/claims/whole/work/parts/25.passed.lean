def sp_pc (a v : Nat → Nat) (t k n : Nat) : Nat := if a (81 + t) = n then sp_ct (sp_Px a t k n v) ((a 1) ^ k) else 0
set_option maxHeartbeats 4000000 in
set_option maxRecDepth 100000 in
theorem m_X3_run {h : kx_H} {a v : Nat → Nat} {t k n : Nat} (hE : h 1 1 = nI (a 1)) (hRD : st_RD 2 4 12 h a) (hRB : st_RB a) (hE4 : a 1 ≤ 4) (ht : t < 8) (hk3 : k ≤ 3) (hn9 : n ≤ 9) (hv : ∀ i, i < n → h 56 i = nI (v i)) (hv9 : ∀ i, i < n → v i ≤ 9) : kx_MV 9 yX3_run cX3_run 6 [.ref 115, .ref 1, .int (nI t), .int (nI k), .ref 56, .int (nI n)] h (fun h1 => h1 115 8 = nI (sp_pc a v t k n) ∧ (0 < sp_pc a v t k n → ∀ s, s < k → h1 124 s = nI (sp_dg (a 1) k (sp_fst (sp_Px a t k n v) ((a 1) ^ k)) s)) ∧ ∀ d j, (d < 115 ∨ 125 ≤ d) → h1 d j = h d j) := by
  refine kx_mkV (own := RX3) (L0 := [some (.ref 115), some (.ref 1), some (.int (nI t)), some (.int (nI k)), some (.ref 56), some (.int (nI n))]) rfl (by decide +kernel) (Nat.le_of_ble_eq_true rfl) rfl (fun F C hR => ?_)
  obtain ⟨hlen, hten, hkd⟩ := id hRD
  have l1 := hRB.1 t ht
  refine kx_ald0 (pc := 0) C dX3_run_0 ?_
  refine kx_iconst (pc := 1) C (v := nI 0) dX3_run_1 (by decide) ?_
  refine kx_puti (pc := 2) C fl_X3_29 fp_X3_8 fd_115_8 rfl rfl dX3_run_2 ?_
  refine kx_ald0 (pc := 5) C dX3_run_5 ?_
  refine kx_ald1 (pc := 6) C dX3_run_6 ?_
  refine kx_getr (pc := 7) C fl_X3_33 fd_1_5 dX3_run_7 ?_
  refine kx_ild2 (pc := 10) C dX3_run_10 ?_
  refine kx_iald (pc := 11) C ia_2 (by omega) (show _ = nI (a (81 + t)) by rw [kx_up, if_neg (by omega)]; exact hlen t ht) dX3_run_11 ?_
  refine kx_puti (pc := 12) C fl_X3_38 fp_X3_6 fd_115_6 rfl rfl dX3_run_12 ?_
  refine kx_ald0 (pc := 15) C dX3_run_15 ?_
  refine kx_geti (pc := 16) C fl_X3_38 fd_115_6 (show _ = nI (a (81 + t)) by simp [kx_up]) dX3_run_16 ?_
  refine kx_ild5 (pc := 19) C dX3_run_19 ?_
  refine kx_icmp_eqN (pc := 21) C 25 (by omega) (by omega) dX3_run_21 (by decide) (fun c21 => ?_) (fun c21 => ?_)
  · refine kx_ald0 (pc := 25) C dX3_run_25 ?_
    refine kx_ald1 (pc := 26) C dX3_run_26 ?_
    refine kx_geti (pc := 27) C fl_X3_41 fd_1_1 (show _ = nI (a 1) by rw [kx_up, if_neg (by omega), kx_up, if_neg (by omega)]; exact hE) dX3_run_27 ?_
    refine kx_puti (pc := 30) C fl_X3_44 fp_X3_5 fd_115_5 rfl rfl dX3_run_30 ?_
    refine kx_ald0 (pc := 33) C dX3_run_33 ?_
    refine kx_ild3 (pc := 34) C dX3_run_34 ?_
    refine kx_puti (pc := 35) C fl_X3_45 fp_X3_7 fd_115_7 rfl rfl dX3_run_35 ?_
    refine kx_ald1 (pc := 38) C dX3_run_38 ?_
    refine kx_getr (pc := 39) C fl_X3_48 fd_1_7 dX3_run_39 ?_
    refine kx_iconst (pc := 42) C (v := nI 0) dX3_run_42 (by decide) ?_
    refine kx_ald0 (pc := 43) C dX3_run_43 ?_
    refine kx_getr (pc := 44) C fl_X3_16 fd_115_1 dX3_run_44 ?_
    refine kx_iconst (pc := 47) C (v := nI 0) dX3_run_47 (by decide) ?_
    refine kx_ald0 (pc := 48) C dX3_run_48 ?_
    refine kx_geti (pc := 49) C fl_X3_44 fd_115_5 (show _ = nI (a 1) by simp [kx_up]) dX3_run_49 ?_
    refine kx_cpy (pc := 52) C ac_X3_49 ia_12 ia_121 (by omega) (by omega) (by omega) (Nat.le_of_ble_eq_true rfl) dX3_run_52 ?_
    refine kx_ald4 (pc := 55) C dX3_run_55 ?_
    refine kx_iconst (pc := 57) C (v := nI 0) dX3_run_57 (by decide) ?_
    refine kx_ald0 (pc := 58) C dX3_run_58 ?_
    refine kx_getr (pc := 59) C fl_X3_20 fd_115_2 dX3_run_59 ?_
    refine kx_iconst (pc := 62) C (v := nI 0) dX3_run_62 (by decide) ?_
    refine kx_ild5 (pc := 63) C dX3_run_63 ?_
    refine kx_cpy (pc := 65) C ac_X3_49 ia_56 ia_122 (by omega) (by omega) (by omega) (Nat.le_of_ble_eq_true rfl) dX3_run_65 ?_
    refine kx_ald1 (pc := 68) C dX3_run_68 ?_
    refine kx_getr (pc := 69) C fl_X3_55 fd_1_6 dX3_run_69 ?_
    refine kx_ild2 (pc := 72) C dX3_run_72 ?_
    refine kx_aald1 (pc := 73) C ra_3 (by omega) dX3_run_73 ?_
    refine kx_iconst (pc := 74) C (v := nI 0) dX3_run_74 (by decide) ?_
    refine kx_ald0 (pc := 75) C dX3_run_75 ?_
    refine kx_getr (pc := 76) C fl_X3_11 fd_115_0 dX3_run_76 ?_
    refine kx_iconst (pc := 79) C (v := nI 0) dX3_run_79 (by decide) ?_
    refine kx_aald1 (pc := 80) C ra_116 (by omega) dX3_run_80 ?_
    refine kx_iconst (pc := 81) C (v := nI 0) dX3_run_81 (by decide) ?_
    refine kx_ild5 (pc := 82) C dX3_run_82 ?_
    refine kx_cpy (pc := 84) C ac_X3_49 (if_ten _ (by omega)) (if_vers _ (by omega)) (by omega) (by omega) (by omega) (Nat.le_of_ble_eq_true rfl) dX3_run_84 ?_
    refine kx_ald0 (pc := 87) C dX3_run_87 ?_
    refine kx_iconst (pc := 88) C (v := nI 0) dX3_run_88 (by decide) ?_
    refine kx_callVV1 (pc := 89) C cs_X3_58 ob_115 (m_X3_search hRB hE4 ht hk3 hn9 hv9 k 0 _ (fun _ => 0) (by omega) (by
          refine ⟨?_, ?_, ?_, fun e he => ?_, fun i hi => ?_⟩
          · simp [kx_up, kx_cp]
          · simp [kx_up, kx_cp, c21]
          · simp [kx_up, kx_cp]
          · rw [kx_cp, if_neg (by omega), kx_cp, if_neg (by omega), kx_cp, if_pos (by omega), show 0 + (e - 0) = e by omega]
            rw [kx_up, if_neg (by omega), kx_up, if_neg (by omega), kx_up, if_neg (by omega), kx_up, if_neg (by omega)]
            exact hkd e (by omega)
          · rw [kx_cp, if_neg (by omega), kx_cp, if_pos (by omega), show 0 + (i - 0) = i by omega, kx_cp, if_neg (by omega)]
            rw [kx_up, if_neg (by omega), kx_up, if_neg (by omega), kx_up, if_neg (by omega), kx_up, if_neg (by omega)]
            exact hv i hi) (fun s hs => absurd hs (by omega)) (fun s hs => absurd hs (by omega)) (fun i hi => by
          rw [kx_cp, if_pos (by omega), show 0 + (i - 0) = i by omega, kx_cp, if_neg (by omega), kx_cp, if_neg (by omega)]
          rw [kx_up, if_neg (by omega), kx_up, if_neg (by omega), kx_up, if_neg (by omega), kx_up, if_neg (by omega)]
          exact hten t i ht (by omega)) (by
          rw [show sp_pv (a 1) (fun _ => 0) 0 * (a 1) ^ k = 0 by simp [sp_pv]]
          exact ⟨by simp [kx_up, kx_cp, sp_ct], fun z => absurd z (by simp [sp_ct])⟩)) (by omega) dX3_run_89 (Nat.le_of_ble_eq_true rfl) (fun h89 q89 => ?_)
    rw [show (sp_pv (a 1) (fun _ => 0) 0 + 1) * (a 1) ^ k = (a 1) ^ k by simp [sp_pv]] at q89
    obtain ⟨k1, k2, k3, k4, k5⟩ := q89
    have e0 : sp_pc a v t k n = sp_ct (sp_Px a t k n v) ((a 1) ^ k) := if_pos c21
    refine hR dX3_run_92 ⟨by rw [e0]; exact k1.1, fun z => k1.2 (by omega), fun d j hd => ?_⟩
    rw [k5 d j (by omega) (by omega) (by omega) (by omega), kx_cp, if_neg (by omega), kx_cp, if_neg (by omega), kx_cp, if_neg (by omega)]
    rw [kx_up, if_neg (by omega), kx_up, if_neg (by omega), kx_up, if_neg (by omega), kx_up, if_neg (by omega)]
  · have e0 : sp_pc a v t k n = 0 := if_neg c21
    exact hR dX3_run_24 ⟨by rw [e0, kx_up, if_neg (by omega)]; simp [kx_up], fun z => absurd z (by omega), fun d j hd => by rw [kx_up, if_neg (by omega), kx_up, if_neg (by omega)]⟩
theorem sp_dg_lt {E k x s : Nat} (h : 0 < E) : sp_dg E k x s < E := Nat.mod_lt _ h
def sp_passed (a sl sn : Nat → Nat) (it : kx_H) (t k v l i n j : Int32) : Int32 := if (0 ≤ t.toInt ∧ t.toInt < (a 0 : Int)) ∧ (1 ≤ k.toInt ∧ k.toInt ≤ 3) ∧ ((0 ≤ v.toInt ∧ v.toInt ≤ 3) ∧ 0 ≤ l.toInt ∧ l.toInt ≤ 2) ∧ (1 ≤ n.toInt ∧ n.toInt ≤ 9) ∧ -1 ≤ j.toInt ∧ j.toInt ≤ k.toInt - 1 then (if sp_take sl sn it (kx_n v) l i (kx_n n) 9 = 0 then (if j = -1 then nI (sp_pc a (sp_val it (kx_n v) (kx_n i)) (kx_n t) (kx_n k) (kx_n n)) else if sp_pc a (sp_val it (kx_n v) (kx_n i)) (kx_n t) (kx_n k) (kx_n n) = 0 then -4 else nI (sp_dg (a 1) (kx_n k) (sp_fst (sp_Px a (kx_n t) (kx_n k) (kx_n n) (sp_val it (kx_n v) (kx_n i))) ((a 1) ^ kx_n k)) (kx_n j))) else sp_take sl sn it (kx_n v) l i (kx_n n) 9) else -1
theorem sp_pc_le {a v : Nat → Nat} {t k n : Nat} (h : a 1 ≤ 4) (hk : k ≤ 3) : sp_pc a v t k n ≤ 64 := by
  unfold sp_pc
  split
  · exact Nat.le_trans (sp_ct_le _ _) (sp_pw h hk)
  · omega
set_option maxHeartbeats 4000000 in
set_option maxRecDepth 100000 in
theorem m_X8_passed {h : kx_H} {a sl sn : Nat → Nat} {it : kx_H} (t k v l i n j : Int32) (hC : st_CH h a) (hB : st_B a) (hs : st_SH h sl sn it) : kx_MI 10 yX8_passed cX8_passed 9 .int [.ref 0, .int t, .int k, .int v, .int l, .int i, .int n, .int j] h (fun r h1 => r = sp_passed a sl sn it t k v l i n j ∧ ∀ d q, d ≠ 56 → (d < 115 ∨ 125 ≤ d) → h1 d q = h d q) := by
  refine kx_mkI (own := RX8) (L0 := [some (.ref 0), some (.int t), some (.int k), some (.int v), some (.int l), some (.int i), some (.int n), some (.int j), none]) rfl (by decide +kernel) (Nat.le_of_ble_eq_true rfl) rfl (fun F C hR => ?_)
  obtain ⟨⟨hT, hE, hS, hev, hme⟩, ⟨hlen, hten, hkd⟩, hYD, hHD, hBR⟩ := id hC
  obtain ⟨⟨b0, b1, b2, b3, b8, b8'⟩, hRB, bl, byy, bh, bz, bb⟩ := id hB
  have hl9 := hRB.1
  refine kx_ald0 (pc := 0) C dX8_passed_0 ?_
  refine kx_getr (pc := 1) C fl_X8_10 fd_0_0 dX8_passed_1 ?_
  refine kx_ild1 (pc := 4) C dX8_passed_4 ?_
  refine kx_callVI1 (pc := 5) C cs_X8_125 ob_1 (m_X2_hasTale _ (by assumption) (by omega)) (by decide) dX8_passed_5 (Nat.le_of_ble_eq_true rfl) (fun r5 h5 q5 => ?_)
  obtain ⟨z5, rfl⟩ := q5
  have z5 := z5.symm
  subst z5
  refine kx_if_eq (pc := 8) C 52 dX8_passed_8 (by decide) (fun c8 => ?_) (fun c8 => ?_)
  · refine kx_iconst (pc := 52) C (v := -1) dX8_passed_52 (by decide) ?_
    have nc : ¬ ((0 ≤ t.toInt ∧ t.toInt < (a 0 : Int)) ∧ (1 ≤ k.toInt ∧ k.toInt ≤ 3) ∧ ((0 ≤ v.toInt ∧ v.toInt ≤ 3) ∧ 0 ≤ l.toInt ∧ l.toInt ≤ 2) ∧ (1 ≤ n.toInt ∧ n.toInt ≤ 9) ∧ -1 ≤ j.toInt ∧ j.toInt ≤ k.toInt - 1) := fun z => by
      first
        | (have c49 := kx_if0 c49
           rw [kx_Tsub (by rw [show (nI 1).toInt = 1 from rfl]; omega) (by rw [show (nI 1).toInt = 1 from rfl]; omega), show (nI 1).toInt = 1 from rfl, show (-1 : Int32).toInt = -1 from rfl] at c49
           exact c49 z.2.2.2.2)
        | exact kx_if0 c37 z.2.2.2.1
        | exact kx_if0 c26 z.2.2.1
        | exact kx_if0 c17 z.2.1
        | exact kx_if0 c8 z.1
    exact hR dX8_passed_53 rfl ⟨by rw [sp_passed, if_neg nc], fun d k _ _ => rfl⟩
  · refine kx_ild2 (pc := 11) C dX8_passed_11 ?_
    refine kx_iconst (pc := 12) C (v := nI 1) dX8_passed_12 (by decide) ?_
    refine kx_iconst (pc := 13) C (v := nI 3) dX8_passed_13 (by decide) ?_
    refine kx_callSI3 (pc := 14) C cs_X8_75 (m_X8_isWithin _ _ _) (by decide) dX8_passed_14 (Nat.le_of_ble_eq_true rfl) (fun r14 h14 q14 => ?_)
    obtain ⟨z14, rfl⟩ := q14
    have z14 := z14.symm
    subst z14
    refine kx_if_eq (pc := 17) C 52 dX8_passed_17 (by decide) (fun c17 => ?_) (fun c17 => ?_)
    · refine kx_iconst (pc := 52) C (v := -1) dX8_passed_52 (by decide) ?_
      have nc : ¬ ((0 ≤ t.toInt ∧ t.toInt < (a 0 : Int)) ∧ (1 ≤ k.toInt ∧ k.toInt ≤ 3) ∧ ((0 ≤ v.toInt ∧ v.toInt ≤ 3) ∧ 0 ≤ l.toInt ∧ l.toInt ≤ 2) ∧ (1 ≤ n.toInt ∧ n.toInt ≤ 9) ∧ -1 ≤ j.toInt ∧ j.toInt ≤ k.toInt - 1) := fun z => by
        first
          | (have c49 := kx_if0 c49
             rw [kx_Tsub (by rw [show (nI 1).toInt = 1 from rfl]; omega) (by rw [show (nI 1).toInt = 1 from rfl]; omega), show (nI 1).toInt = 1 from rfl, show (-1 : Int32).toInt = -1 from rfl] at c49
             exact c49 z.2.2.2.2)
          | exact kx_if0 c37 z.2.2.2.1
          | exact kx_if0 c26 z.2.2.1
          | exact kx_if0 c17 z.2.1
          | exact kx_if0 c8 z.1
      exact hR dX8_passed_53 rfl ⟨by rw [sp_passed, if_neg nc], fun d k _ _ => rfl⟩
    · refine kx_ild3 (pc := 20) C dX8_passed_20 ?_
      refine kx_ild4 (pc := 21) C dX8_passed_21 ?_
      refine kx_callSI2 (pc := 23) C cs_X8_208 (m_X8_isSheetOfLane _ _) (by decide) dX8_passed_23 (Nat.le_of_ble_eq_true rfl) (fun r23 h23 q23 => ?_)
      obtain ⟨z23, rfl⟩ := q23
      have z23 := z23.symm
      subst z23
      refine kx_if_eq (pc := 26) C 52 dX8_passed_26 (by decide) (fun c26 => ?_) (fun c26 => ?_)
      · refine kx_iconst (pc := 52) C (v := -1) dX8_passed_52 (by decide) ?_
        have nc : ¬ ((0 ≤ t.toInt ∧ t.toInt < (a 0 : Int)) ∧ (1 ≤ k.toInt ∧ k.toInt ≤ 3) ∧ ((0 ≤ v.toInt ∧ v.toInt ≤ 3) ∧ 0 ≤ l.toInt ∧ l.toInt ≤ 2) ∧ (1 ≤ n.toInt ∧ n.toInt ≤ 9) ∧ -1 ≤ j.toInt ∧ j.toInt ≤ k.toInt - 1) := fun z => by
          first
            | (have c49 := kx_if0 c49
               rw [kx_Tsub (by rw [show (nI 1).toInt = 1 from rfl]; omega) (by rw [show (nI 1).toInt = 1 from rfl]; omega), show (nI 1).toInt = 1 from rfl, show (-1 : Int32).toInt = -1 from rfl] at c49
               exact c49 z.2.2.2.2)
            | exact kx_if0 c37 z.2.2.2.1
            | exact kx_if0 c26 z.2.2.1
            | exact kx_if0 c17 z.2.1
            | exact kx_if0 c8 z.1
        exact hR dX8_passed_53 rfl ⟨by rw [sp_passed, if_neg nc], fun d k _ _ => rfl⟩
      · refine kx_ild6 (pc := 29) C dX8_passed_29 ?_
        refine kx_iconst (pc := 31) C (v := nI 1) dX8_passed_31 (by decide) ?_
        refine kx_bipush (pc := 32) C (v := nI 9) dX8_passed_32 (by decide) ?_
        refine kx_callSI3 (pc := 34) C cs_X8_75 (m_X8_isWithin _ _ _) (by decide) dX8_passed_34 (Nat.le_of_ble_eq_true rfl) (fun r34 h34 q34 => ?_)
        obtain ⟨z34, rfl⟩ := q34
        have z34 := z34.symm
        subst z34
        refine kx_if_eq (pc := 37) C 52 dX8_passed_37 (by decide) (fun c37 => ?_) (fun c37 => ?_)
        · refine kx_iconst (pc := 52) C (v := -1) dX8_passed_52 (by decide) ?_
          have nc : ¬ ((0 ≤ t.toInt ∧ t.toInt < (a 0 : Int)) ∧ (1 ≤ k.toInt ∧ k.toInt ≤ 3) ∧ ((0 ≤ v.toInt ∧ v.toInt ≤ 3) ∧ 0 ≤ l.toInt ∧ l.toInt ≤ 2) ∧ (1 ≤ n.toInt ∧ n.toInt ≤ 9) ∧ -1 ≤ j.toInt ∧ j.toInt ≤ k.toInt - 1) := fun z => by
            first
              | (have c49 := kx_if0 c49
                 rw [kx_Tsub (by rw [show (nI 1).toInt = 1 from rfl]; omega) (by rw [show (nI 1).toInt = 1 from rfl]; omega), show (nI 1).toInt = 1 from rfl, show (-1 : Int32).toInt = -1 from rfl] at c49
                 exact c49 z.2.2.2.2)
              | exact kx_if0 c37 z.2.2.2.1
              | exact kx_if0 c26 z.2.2.1
              | exact kx_if0 c17 z.2.1
              | exact kx_if0 c8 z.1
          exact hR dX8_passed_53 rfl ⟨by rw [sp_passed, if_neg nc], fun d k _ _ => rfl⟩
        · refine kx_ild7 (pc := 40) C dX8_passed_40 ?_
          refine kx_iconst (pc := 42) C (v := -1) dX8_passed_42 (by decide) ?_
          refine kx_ild2 (pc := 43) C dX8_passed_43 ?_
          refine kx_iconst (pc := 44) C (v := nI 1) dX8_passed_44 (by decide) ?_
          refine kx_isub (pc := 45) C dX8_passed_45 ?_
          refine kx_callSI3 (pc := 46) C cs_X8_75 (m_X8_isWithin _ _ _) (by decide) dX8_passed_46 (Nat.le_of_ble_eq_true rfl) (fun r46 h46 q46 => ?_)
          obtain ⟨z46, rfl⟩ := q46
          have z46 := z46.symm
          subst z46
          refine kx_if_ne (pc := 49) C 54 dX8_passed_49 (by decide) (fun c49 => ?_) (fun c49 => ?_)
          · have c8 := kx_if1 c8
            have c17 := kx_if1 c17
            have c26 := kx_if1 c26
            have c37 := kx_if1 c37
            have c49 := kx_if1 c49
            rw [show (nI 1).toInt = 1 from rfl, show (nI 3).toInt = 3 from rfl] at c17
            rw [show (nI 1).toInt = 1 from rfl, show (nI 9).toInt = 9 from rfl] at c37
            rw [kx_Tsub (by rw [show (nI 1).toInt = 1 from rfl]; omega) (by rw [show (nI 1).toInt = 1 from rfl]; omega), show (nI 1).toInt = 1 from rfl, show (-1 : Int32).toInt = -1 from rfl] at c49
            have cc : (0 ≤ t.toInt ∧ t.toInt < (a 0 : Int)) ∧ (1 ≤ k.toInt ∧ k.toInt ≤ 3) ∧ ((0 ≤ v.toInt ∧ v.toInt ≤ 3) ∧ 0 ≤ l.toInt ∧ l.toInt ≤ 2) ∧ (1 ≤ n.toInt ∧ n.toInt ≤ 9) ∧ -1 ≤ j.toInt ∧ j.toInt ≤ k.toInt - 1 := ⟨c8, c17, c26, c37, c49⟩
            obtain ⟨x, rfl, hx, hx2⟩ := kx_nat c8.1
            obtain ⟨y, rfl, hy, hy2⟩ := kx_nat (x := k) (by omega)
            obtain ⟨z, rfl, hz, hz2⟩ := kx_nat c26.1.1
            obtain ⟨m, rfl, hm, hm2⟩ := kx_nat (x := n) (by omega)
            refine kx_ald0 (pc := 54) C dX8_passed_54 ?_
            refine kx_ild3 (pc := 55) C dX8_passed_55 ?_
            refine kx_ild4 (pc := 56) C dX8_passed_56 ?_
            refine kx_ild5 (pc := 58) C dX8_passed_58 ?_
            refine kx_ild6 (pc := 60) C dX8_passed_60 ?_
            refine kx_bipush (pc := 62) C (v := nI 9) dX8_passed_62 (by decide) ?_
            refine kx_callVI5 (pc := 64) C cs_X8_211 ob_0 (m_X8_takeItems _ _ hs (show z < 4 by omega) (by omega) (by omega)) (by decide) dX8_passed_64 (Nat.le_of_ble_eq_true rfl) (fun r64 h64 q64 => ?_)
            obtain ⟨rfl, k1, k2⟩ := q64
            refine kx_ist8 (pc := 67) C dX8_passed_67 (by decide) rfl ?_
            refine kx_ild8 (pc := 69) C dX8_passed_69 ?_
            refine kx_if_eq (pc := 71) C 77 dX8_passed_71 (by decide) (fun c71 => ?_) (fun c71 => ?_)
            · have k1b := k1 c71
              have ok := (sp_take_0 c71).2
              have hv : ∀ q, q < m → h64 56 q = nI (sp_val it z (kx_n i) q) := fun q hq => by rw [k1b q hq]; exact (sp_okI_v ok hq).1
              have hv9 : ∀ q, q < m → sp_val it z (kx_n i) q ≤ 9 := fun q hq => (sp_okI_v ok hq).2
              have hE2 : h64 1 1 = nI (a 1) := by rw [k2 1 1 (by omega)]; exact hE
              have hr2 : st_RD 2 4 12 h64 a := st_RD.kept2 ⟨hlen, hten, hkd⟩ (fun q => k2 2 q (by omega)) (fun d q h1 h2 => k2 d q (by omega)) (fun q => k2 12 q (by omega))
              have hpl := sp_pc_le (a := a) (v := sp_val it z (kx_n i)) (t := x) (k := y) (n := m) b1 (by omega)
              refine kx_ald0 (pc := 77) C dX8_passed_77 ?_
              refine kx_getr (pc := 78) C fl_X8_63 fd_0_10 dX8_passed_78 ?_
              refine kx_ald0 (pc := 81) C dX8_passed_81 ?_
              refine kx_getr (pc := 82) C fl_X8_10 fd_0_0 dX8_passed_82 ?_
              refine kx_ild1 (pc := 85) C dX8_passed_85 ?_
              refine kx_ild2 (pc := 86) C dX8_passed_86 ?_
              refine kx_ald0 (pc := 87) C dX8_passed_87 ?_
              refine kx_getr (pc := 88) C fl_X8_32 fd_0_5 dX8_passed_88 ?_
              refine kx_ild6 (pc := 91) C dX8_passed_91 ?_
              refine kx_callVV5 (pc := 93) C cs_X8_252 ob_115 (m_X3_run (v := sp_val it z (kx_n i)) hE2 hr2 hRB b1 (by omega) (by omega) (by omega) hv hv9) (by decide) dX8_passed_93 (Nat.le_of_ble_eq_true rfl) (fun h93 q93 => ?_)
              obtain ⟨r1, r2, r3⟩ := q93
              refine kx_ild7 (pc := 96) C dX8_passed_96 ?_
              refine kx_iconst (pc := 98) C (v := -1) dX8_passed_98 (by decide) ?_
              refine kx_icmp_ne (pc := 99) C 110 dX8_passed_99 (by decide) (fun c99 => ?_) (fun c99 => ?_)
              · have ej : 0 ≤ j.toInt := by
                  rcases (show j.toInt = -1 ∨ 0 ≤ j.toInt by omega) with q | q
                  · exact absurd (kx_eqI.mpr (by rw [q]; rfl)) c99
                  · exact q
                obtain ⟨w, rfl, hw, hw2⟩ := kx_nat ej
                refine kx_ald0 (pc := 110) C dX8_passed_110 ?_
                refine kx_getr (pc := 111) C fl_X8_63 fd_0_10 dX8_passed_111 ?_
                refine kx_geti (pc := 114) C fl_X8_255 fd_115_8 r1 dX8_passed_114 ?_
                refine kx_if_neN (pc := 117) C 125 (by omega) dX8_passed_117 (by decide) (fun c117 => ?_) (fun c117 => ?_)
                · refine kx_ald0 (pc := 125) C dX8_passed_125 ?_
                  refine kx_getr (pc := 126) C fl_X8_63 fd_0_10 dX8_passed_126 ?_
                  refine kx_getr (pc := 129) C fl_X8_256 fd_115_4 dX8_passed_129 ?_
                  refine kx_ild7 (pc := 132) C dX8_passed_132 ?_
                  refine kx_iald (pc := 134) C ia_124 (by omega) (r2 (by omega) w (by omega)) dX8_passed_134 ?_
                  first
                    | exact hR dX8_passed_135 rfl ⟨by rw [sp_passed, if_pos cc]; simp only [kx_n, kx_n_nI hz2, kx_n_nI hm2, kx_n_nI hx2, kx_n_nI hy2]; rw [if_pos c71, if_neg c99, if_pos c117], fun d k h1 h2 => by rw [r3 d k h2, k2 d k h1]⟩
                    | exact hR dX8_passed_135 rfl ⟨by rw [sp_passed, if_pos cc]; simp only [kx_n, kx_n_nI hz2, kx_n_nI hm2, kx_n_nI hx2, kx_n_nI hy2, kx_n_nI hw2]; rw [if_pos c71, if_neg c99, if_neg (Nat.ne_of_gt c117)], fun d k h1 h2 => by rw [r3 d k h2, k2 d k h1]⟩
                · refine kx_bipush (pc := 120) C (v := -4) dX8_passed_120 (by decide) ?_
                  refine kx_goto (pc := 122) C 135 dX8_passed_122 (by decide) ?_
                  first
                    | exact hR dX8_passed_135 rfl ⟨by rw [sp_passed, if_pos cc]; simp only [kx_n, kx_n_nI hz2, kx_n_nI hm2, kx_n_nI hx2, kx_n_nI hy2]; rw [if_pos c71, if_neg c99, if_pos c117], fun d k h1 h2 => by rw [r3 d k h2, k2 d k h1]⟩
                    | exact hR dX8_passed_135 rfl ⟨by rw [sp_passed, if_pos cc]; simp only [kx_n, kx_n_nI hz2, kx_n_nI hm2, kx_n_nI hx2, kx_n_nI hy2, kx_n_nI hw2]; rw [if_pos c71, if_neg c99, if_neg (Nat.ne_of_gt c117)], fun d k h1 h2 => by rw [r3 d k h2, k2 d k h1]⟩
              · refine kx_ald0 (pc := 102) C dX8_passed_102 ?_
                refine kx_getr (pc := 103) C fl_X8_63 fd_0_10 dX8_passed_103 ?_
                refine kx_geti (pc := 106) C fl_X8_255 fd_115_8 r1 dX8_passed_106 ?_
                exact hR dX8_passed_109 rfl ⟨by rw [sp_passed, if_pos cc]; simp only [kx_n, kx_n_nI hz2, kx_n_nI hm2, kx_n_nI hx2, kx_n_nI hy2]; rw [if_pos c71, if_pos c99], fun d k h1 h2 => by rw [r3 d k h2, k2 d k h1]⟩
            · refine kx_ild8 (pc := 74) C dX8_passed_74 ?_
              exact hR dX8_passed_76 rfl ⟨by rw [sp_passed, if_pos cc, kx_n, kx_n, kx_n_nI hz2, kx_n_nI hm2, if_neg c71], fun d k h1 h2 => k2 d k h1⟩
          · refine kx_iconst (pc := 52) C (v := -1) dX8_passed_52 (by decide) ?_
            have nc : ¬ ((0 ≤ t.toInt ∧ t.toInt < (a 0 : Int)) ∧ (1 ≤ k.toInt ∧ k.toInt ≤ 3) ∧ ((0 ≤ v.toInt ∧ v.toInt ≤ 3) ∧ 0 ≤ l.toInt ∧ l.toInt ≤ 2) ∧ (1 ≤ n.toInt ∧ n.toInt ≤ 9) ∧ -1 ≤ j.toInt ∧ j.toInt ≤ k.toInt - 1) := fun z => by
              first
                | (have c49 := kx_if0 c49
                   rw [kx_Tsub (by rw [show (nI 1).toInt = 1 from rfl]; omega) (by rw [show (nI 1).toInt = 1 from rfl]; omega), show (nI 1).toInt = 1 from rfl, show (-1 : Int32).toInt = -1 from rfl] at c49
                   exact c49 z.2.2.2.2)
                | exact kx_if0 c37 z.2.2.2.1
                | exact kx_if0 c26 z.2.2.1
                | exact kx_if0 c17 z.2.1
                | exact kx_if0 c8 z.1
            exact hR dX8_passed_53 rfl ⟨by rw [sp_passed, if_neg nc], fun d k _ _ => rfl⟩
