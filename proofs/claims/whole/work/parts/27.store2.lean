set_option maxHeartbeats 4000000 in
set_option maxRecDepth 100000 in
theorem m_X6_run {h : kx_H} {a : Nat → Nat} {s n : Nat} (hC : st_CH h a) (hB : st_B a) (hs : s < 4) (hn5 : n ≤ 5) (h0 : 0 < a 0) : kx_MV 9 yX6_run cX6_run 5 [.ref 58, .ref 1, .int (nI s), .int (nI n)] h (fun h1 => st_SB h1 a s n ((a 0) ^ n) ∧ ∀ d j, (d < 58 ∨ 64 ≤ d) → h1 d j = h d j) := by
  refine kx_mkV (own := RX6) (L0 := [some (.ref 58), some (.ref 1), some (.int (nI s)), some (.int (nI n)), none]) rfl (by decide +kernel) (Nat.le_of_ble_eq_true rfl) rfl (fun F C hR => ?_)
  obtain ⟨⟨hT, hE, hS, hev, hme⟩, ⟨hlen, hten, hkd⟩, hYD, hHD, hBR⟩ := id hC
  obtain ⟨⟨b0, b1, b2, b3, b8, b8'⟩, hRB, bl, byy, bh, bz, bb⟩ := id hB
  have loop : ∀ (q t : Nat) (g : kx_H), a 0 - t = q → t ≤ a 0 → g 58 5 = nI (a 0) → g 58 6 = nI n → g 58 7 = nI (a 3 + 1) → g 58 8 = nI (a 8) → g 58 9 = nI (sp_mx (sp_wg a 0) t) → g 58 10 = -1 → (∀ u, u < t → g 59 u = nI (sp_wg a 0 u)) → (∀ u, u < t → g 60 u = nI (sp_wg a 1 u)) → (∀ u, u < t → g 61 u = nI (a (109 + 8 * s + u))) → (∀ d j, (d < 58 ∨ 64 ≤ d) → g d j = h d j) → F 44 [some (.ref 58), some (.ref 1), some (.int (nI s)), some (.int (nI n)), some (.int (nI t))] [] g := by
    intro q
    induction q with
    | zero =>
      intro t g hq ht g1 g2 g3 g4 g5 g6 g7 g8 g9 gf
      have et : t = a 0 := by omega
      subst et
      refine kx_ild4 (pc := 44) C dX6_run_44 ?_
      refine kx_ald0 (pc := 46) C dX6_run_46 ?_
      refine kx_geti (pc := 47) C fl_X6_33 fd_58_5 (by first | assumption | rfl) dX6_run_47 ?_
      refine kx_icmp_geN (pc := 50) C 100 (by omega) (by omega) dX6_run_50 (by decide) (fun c50 => ?_) (fun c50 => ?_)
      · refine kx_ald0 (pc := 100) C dX6_run_100 ?_
        refine kx_iconst (pc := 101) C (v := nI 0) dX6_run_101 (by decide) ?_
        refine kx_iconst (pc := 102) C (v := nI 0) dX6_run_102 (by decide) ?_
        refine kx_callVV2 (pc := 103) C cs_X6_64 ob_58 (m_X6_search hB h0 hs hn5 n 0 g (fun _ => 0) (by omega) ⟨g1, g2, g3, g4, g5, g7, g8⟩ (fun e he => absurd he (by omega)) (fun e he => absurd he (by omega)) (fun u hu => g9 u hu) (by
              rw [show sp_pv (a 0) (fun _ => 0) 0 * (a 0) ^ n = 0 by simp [sp_pv]]
              exact ⟨by rw [g6]; rfl, fun z => absurd z (by simp [sp_bv])⟩)) (by omega) dX6_run_103 (Nat.le_of_ble_eq_true rfl) (fun h103 q103 => ?_)
        rw [show (sp_pv (a 0) (fun _ => 0) 0 + 1) * (a 0) ^ n = (a 0) ^ n by simp [sp_pv]] at q103
        obtain ⟨k1, k2, k3, k4, k5⟩ := q103
        exact hR dX6_run_106 ⟨k1, fun d j hd => by rw [k5 d j (by omega) (by omega)]; exact gf d j hd⟩
      · omega
    | succ q ih =>
      intro t g hq ht g1 g2 g3 g4 g5 g6 g7 g8 g9 gf
      have eh : g (19 + s) t = nI (a (109 + 8 * s + t)) := by rw [gf _ _ (by omega)]; exact hHD s t hs (by omega)
      have hrd : st_RD 2 4 12 (kx_up g 61 t (nI (a (109 + 8 * s + t)))) a := st_RD.kept2 ⟨hlen, hten, hkd⟩ (fun j => by rw [kx_up, if_neg (by omega)]; exact gf 2 j (by omega)) (fun d j h1 h2 => by rw [kx_up, if_neg (by omega)]; exact gf d j (by omega)) (fun j => by rw [kx_up, if_neg (by omega)]; exact gf 12 j (by omega))
      have w0 := sp_wg_le hRB (m := 0) (t := t) (by omega)
      have wm : sp_mx (sp_wg a 0) t ≤ 27 := sp_mx_le (fun i hi => sp_wg_le hRB (by omega))
      refine kx_ild4 (pc := 44) C dX6_run_44 ?_
      refine kx_ald0 (pc := 46) C dX6_run_46 ?_
      refine kx_geti (pc := 47) C fl_X6_33 fd_58_5 (by first | assumption | rfl) dX6_run_47 ?_
      refine kx_icmp_geN (pc := 50) C 100 (by omega) (by omega) dX6_run_50 (by decide) (fun c50 => ?_) (fun c50 => ?_)
      · omega
      · refine kx_ald0 (pc := 53) C dX6_run_53 ?_
        refine kx_getr (pc := 54) C fl_X6_18 fd_58_2 dX6_run_54 ?_
        refine kx_ild4 (pc := 57) C dX6_run_57 ?_
        refine kx_ald1 (pc := 59) C dX6_run_59 ?_
        refine kx_getr (pc := 60) C fl_X6_51 fd_1_9 dX6_run_60 ?_
        refine kx_ild2 (pc := 63) C dX6_run_63 ?_
        refine kx_aald1 (pc := 64) C ra_18 (by omega) dX6_run_64 ?_
        refine kx_ild4 (pc := 65) C dX6_run_65 ?_
        refine kx_iald (pc := 67) C (if_hrd _ (by omega)) (by omega) (by first | assumption | rfl) dX6_run_67 ?_
        refine kx_iast (pc := 68) C ia_61 (by omega) dX6_run_68 ?_
        refine kx_ald0 (pc := 69) C dX6_run_69 ?_
        refine kx_ald1 (pc := 70) C dX6_run_70 ?_
        refine kx_ild4 (pc := 71) C dX6_run_71 ?_
        refine kx_callVV2 (pc := 73) C cs_X6_54 ob_58 (m_X6_weigh hrd hRB (by omega)) (by decide) dX6_run_73 (Nat.le_of_ble_eq_true rfl) (fun h73 q73 => ?_)
        obtain ⟨k1, k2, k3⟩ := q73
        have k4 : ∀ d j, d ≠ 59 → d ≠ 60 → d ≠ 61 → h73 d j = g d j := fun d j h1 h2 h3 => by rw [k3 d j (Or.inl ⟨h1, h2⟩), kx_up, if_neg (by omega)]
        have k5 : h73 58 9 = nI (sp_mx (sp_wg a 0) t) := by rw [k4 _ _ (by omega) (by omega) (by omega)]; exact g5
        refine kx_ald0 (pc := 76) C dX6_run_76 ?_
        refine kx_ald0 (pc := 77) C dX6_run_77 ?_
        refine kx_geti (pc := 78) C fl_X6_45 fd_58_9 k5 dX6_run_78 ?_
        refine kx_ald0 (pc := 81) C dX6_run_81 ?_
        refine kx_getr (pc := 82) C fl_X6_9 fd_58_0 dX6_run_82 ?_
        refine kx_ild4 (pc := 85) C dX6_run_85 ?_
        refine kx_iald (pc := 87) C ia_59 (by omega) k1 dX6_run_87 ?_
        refine kx_max (pc := 88) C mm_X6_58 (by decide) (Nat.le_of_ble_eq_true rfl) (sp_max (by omega) (by omega)) dX6_run_88 ?_
        refine kx_puti (pc := 91) C fl_X6_45 fp_X6_9 fd_58_9 rfl rfl dX6_run_91 ?_
        first | refine kx_inc4 (pc := 94) C (v := nI (_ + 1)) dX6_run_94 (by decide) rfl (nI_1 _) ?_ | refine kx_inc4 (pc := 94) C dX6_run_94 (by decide) rfl rfl ?_
        refine kx_goto (pc := 97) C 44 dX6_run_97 (by decide) ?_
        have up58 : ∀ j, j ≠ 9 → kx_up h73 58 9 (nI (max (sp_mx (sp_wg a 0) t) (sp_wg a 0 t))) 58 j = g 58 j := fun j hj => by rw [kx_up, if_neg (by omega), k4 _ _ (by omega) (by omega) (by omega)]
        refine ih (t + 1) _ (by omega) (by omega) (by rw [up58 5 (by omega)]; exact g1) (by rw [up58 6 (by omega)]; exact g2) (by rw [up58 7 (by omega)]; exact g3) (by rw [up58 8 (by omega)]; exact g4) (by rw [kx_up, if_pos ⟨rfl, rfl⟩]; rfl) (by rw [up58 10 (by omega)]; exact g6) (fun u hu => ?_) (fun u hu => ?_) (fun u hu => ?_) (fun d j hd => by rw [kx_up, if_neg (by omega), k4 d j (by omega) (by omega) (by omega)]; exact gf d j hd)
        · rw [kx_up, if_neg (by omega)]
          by_cases z : u = t
          · rw [z]; exact k1
          · rw [k3 59 u (Or.inr z), kx_up, if_neg (by omega)]; exact g7 u (by omega)
        · rw [kx_up, if_neg (by omega)]
          by_cases z : u = t
          · rw [z]; exact k2
          · rw [k3 60 u (Or.inr z), kx_up, if_neg (by omega)]; exact g8 u (by omega)
        · rw [kx_up, if_neg (by omega), k3 61 u (Or.inl (by omega))]
          by_cases z : u = t
          · rw [z, kx_up, if_pos ⟨rfl, rfl⟩]
          · rw [kx_up, if_neg (by omega)]; exact g9 u (by omega)
  refine kx_ald0 (pc := 0) C dX6_run_0 ?_
  refine kx_ald1 (pc := 1) C dX6_run_1 ?_
  refine kx_geti (pc := 2) C fl_X6_27 fd_1_0 hT dX6_run_2 ?_
  refine kx_puti (pc := 5) C fl_X6_33 fp_X6_5 fd_58_5 rfl rfl dX6_run_5 ?_
  refine kx_ald0 (pc := 8) C dX6_run_8 ?_
  refine kx_ild3 (pc := 9) C dX6_run_9 ?_
  refine kx_puti (pc := 10) C fl_X6_34 fp_X6_6 fd_58_6 rfl rfl dX6_run_10 ?_
  refine kx_ald0 (pc := 13) C dX6_run_13 ?_
  refine kx_ald1 (pc := 14) C dX6_run_14 ?_
  refine kx_geti (pc := 15) C fl_X6_37 fd_1_3 (show _ = nI (a 3) by rw [kx_up, if_neg (by omega), kx_up, if_neg (by omega)]; exact hev) dX6_run_15 ?_
  refine kx_iconst (pc := 18) C (v := nI 1) dX6_run_18 (by decide) ?_
  first | refine kx_iaddN (pc := 19) C dX6_run_19 ?_ | refine kx_iadd (pc := 19) C dX6_run_19 ?_
  refine kx_puti (pc := 20) C fl_X6_38 fp_X6_7 fd_58_7 rfl rfl dX6_run_20 ?_
  refine kx_ald0 (pc := 23) C dX6_run_23 ?_
  refine kx_ald1 (pc := 24) C dX6_run_24 ?_
  refine kx_geti (pc := 25) C fl_X6_41 fd_1_4 (show _ = nI (a 8) by rw [kx_up, if_neg (by omega), kx_up, if_neg (by omega), kx_up, if_neg (by omega)]; exact hme) dX6_run_25 ?_
  refine kx_puti (pc := 28) C fl_X6_44 fp_X6_8 fd_58_8 rfl rfl dX6_run_28 ?_
  refine kx_ald0 (pc := 31) C dX6_run_31 ?_
  refine kx_iconst (pc := 32) C (v := nI 0) dX6_run_32 (by decide) ?_
  refine kx_puti (pc := 33) C fl_X6_45 fp_X6_9 fd_58_9 rfl rfl dX6_run_33 ?_
  refine kx_ald0 (pc := 36) C dX6_run_36 ?_
  refine kx_iconst (pc := 37) C (v := -1) dX6_run_37 (by decide) ?_
  refine kx_puti (pc := 38) C fl_X6_48 fp_X6_10 fd_58_10 rfl rfl dX6_run_38 ?_
  refine kx_iconst (pc := 41) C (v := nI 0) dX6_run_41 (by decide) ?_
  refine kx_ist4 (pc := 42) C dX6_run_42 (by decide) rfl ?_
  refine loop (a 0) 0 _ (by omega) (by omega) (by simp [kx_up]) (by simp [kx_up]) (by simp [kx_up]) (by simp [kx_up]) (by simp [kx_up, sp_mx]) (by simp [kx_up]) (fun u hu => absurd hu (by omega)) (fun u hu => absurd hu (by omega)) (fun u hu => absurd hu (by omega)) (fun d j hd => ?_)
  rw [kx_up, if_neg (by omega), kx_up, if_neg (by omega), kx_up, if_neg (by omega), kx_up, if_neg (by omega), kx_up, if_neg (by omega), kx_up, if_neg (by omega)]
def sp_store (a : Nat → Nat) (s n i : Int32) : Int32 := if (0 ≤ s.toInt ∧ s.toInt < (a 2 : Int)) ∧ (1 ≤ n.toInt ∧ n.toInt ≤ 5) ∧ -1 ≤ i.toInt ∧ i.toInt ≤ n.toInt - 1 then (if a 0 = 0 then -4 else if i = -1 then iI ((sp_bv (sp_sx a (kx_n s) (kx_n n)) ((a 0) ^ kx_n n) : Int) - 1) else nI (sp_dg (a 0) (kx_n n) (sp_ba (sp_sx a (kx_n s) (kx_n n)) ((a 0) ^ kx_n n)) (kx_n i))) else -1
theorem sp_bv_pos {S : Nat → Nat} : ∀ {X : Nat}, 0 < X → 0 < sp_bv S X
  | 0, h => absurd h (by omega)
  | X + 1, _ => by
    unfold sp_bv
    split <;> omega
set_option maxHeartbeats 4000000 in
set_option maxRecDepth 100000 in
theorem m_X8_store {h : kx_H} {a : Nat → Nat} (s n i : Int32) (hC : st_CH h a) (hB : st_B a) : kx_MI 10 yX8_store cX8_store 4 .int [.ref 0, .int s, .int n, .int i] h (fun r h1 => r = sp_store a s n i ∧ ∀ d j, (d < 58 ∨ 64 ≤ d) → h1 d j = h d j) := by
  refine kx_mkI (own := RX8) (L0 := [some (.ref 0), some (.int s), some (.int n), some (.int i)]) rfl (by decide +kernel) (Nat.le_of_ble_eq_true rfl) rfl (fun F C hR => ?_)
  obtain ⟨⟨hT, hE, hS, hev, hme⟩, ⟨hlen, hten, hkd⟩, hYD, hHD, hBR⟩ := id hC
  obtain ⟨⟨b0, b1, b2, b3, b8, b8'⟩, hRB, bl, byy, bh, bz, bb⟩ := id hB
  have hl9 := hRB.1
  refine kx_ald0 (pc := 0) C dX8_store_0 ?_
  refine kx_getr (pc := 1) C fl_X8_10 fd_0_0 dX8_store_1 ?_
  refine kx_ild1 (pc := 4) C dX8_store_4 ?_
  refine kx_callVI1 (pc := 5) C cs_X8_139 ob_1 (m_X2_hasSpinner _ (by assumption) (by omega)) (by decide) dX8_store_5 (Nat.le_of_ble_eq_true rfl) (fun r5 h5 q5 => ?_)
  obtain ⟨z5, rfl⟩ := q5
  have z5 := z5.symm
  subst z5
  refine kx_if_eq (pc := 8) C 31 dX8_store_8 (by decide) (fun c8 => ?_) (fun c8 => ?_)
  · refine kx_iconst (pc := 31) C (v := -1) dX8_store_31 (by decide) ?_
    have nc : ¬ ((0 ≤ s.toInt ∧ s.toInt < (a 2 : Int)) ∧ (1 ≤ n.toInt ∧ n.toInt ≤ 5) ∧ -1 ≤ i.toInt ∧ i.toInt ≤ n.toInt - 1) := fun z => by
      first
        | (have c28 := kx_if0 c28
           rw [kx_Tsub (by rw [show (nI 1).toInt = 1 from rfl]; omega) (by rw [show (nI 1).toInt = 1 from rfl]; omega), show (nI 1).toInt = 1 from rfl, show (-1 : Int32).toInt = -1 from rfl] at c28
           exact c28 z.2.2)
        | exact kx_if0 c17 z.2.1
        | exact kx_if0 c8 z.1
    exact hR dX8_store_32 rfl ⟨by rw [sp_store, if_neg nc], fun d k _ => rfl⟩
  · refine kx_ild2 (pc := 11) C dX8_store_11 ?_
    refine kx_iconst (pc := 12) C (v := nI 1) dX8_store_12 (by decide) ?_
    refine kx_iconst (pc := 13) C (v := nI 5) dX8_store_13 (by decide) ?_
    refine kx_callSI3 (pc := 14) C cs_X8_75 (m_X8_isWithin _ _ _) (by decide) dX8_store_14 (Nat.le_of_ble_eq_true rfl) (fun r14 h14 q14 => ?_)
    obtain ⟨z14, rfl⟩ := q14
    have z14 := z14.symm
    subst z14
    refine kx_if_eq (pc := 17) C 31 dX8_store_17 (by decide) (fun c17 => ?_) (fun c17 => ?_)
    · refine kx_iconst (pc := 31) C (v := -1) dX8_store_31 (by decide) ?_
      have nc : ¬ ((0 ≤ s.toInt ∧ s.toInt < (a 2 : Int)) ∧ (1 ≤ n.toInt ∧ n.toInt ≤ 5) ∧ -1 ≤ i.toInt ∧ i.toInt ≤ n.toInt - 1) := fun z => by
        first
          | (have c28 := kx_if0 c28
             rw [kx_Tsub (by rw [show (nI 1).toInt = 1 from rfl]; omega) (by rw [show (nI 1).toInt = 1 from rfl]; omega), show (nI 1).toInt = 1 from rfl, show (-1 : Int32).toInt = -1 from rfl] at c28
             exact c28 z.2.2)
          | exact kx_if0 c17 z.2.1
          | exact kx_if0 c8 z.1
      exact hR dX8_store_32 rfl ⟨by rw [sp_store, if_neg nc], fun d k _ => rfl⟩
    · refine kx_ild3 (pc := 20) C dX8_store_20 ?_
      refine kx_iconst (pc := 21) C (v := -1) dX8_store_21 (by decide) ?_
      refine kx_ild2 (pc := 22) C dX8_store_22 ?_
      refine kx_iconst (pc := 23) C (v := nI 1) dX8_store_23 (by decide) ?_
      refine kx_isub (pc := 24) C dX8_store_24 ?_
      refine kx_callSI3 (pc := 25) C cs_X8_75 (m_X8_isWithin _ _ _) (by decide) dX8_store_25 (Nat.le_of_ble_eq_true rfl) (fun r25 h25 q25 => ?_)
      obtain ⟨z25, rfl⟩ := q25
      have z25 := z25.symm
      subst z25
      refine kx_if_ne (pc := 28) C 33 dX8_store_28 (by decide) (fun c28 => ?_) (fun c28 => ?_)
      · have c8 := kx_if1 c8
        have c17 := kx_if1 c17
        have c28 := kx_if1 c28
        rw [show (nI 1).toInt = 1 from rfl, show (nI 5).toInt = 5 from rfl] at c17
        rw [kx_Tsub (by rw [show (nI 1).toInt = 1 from rfl]; omega) (by rw [show (nI 1).toInt = 1 from rfl]; omega), show (nI 1).toInt = 1 from rfl, show (-1 : Int32).toInt = -1 from rfl] at c28
        have cc : (0 ≤ s.toInt ∧ s.toInt < (a 2 : Int)) ∧ (1 ≤ n.toInt ∧ n.toInt ≤ 5) ∧ -1 ≤ i.toInt ∧ i.toInt ≤ n.toInt - 1 := ⟨c8, c17, c28⟩
        obtain ⟨x, rfl, hx, hx2⟩ := kx_nat c8.1
        obtain ⟨y, rfl, hy, hy2⟩ := kx_nat (x := n) (by omega)
        refine kx_ald0 (pc := 33) C dX8_store_33 ?_
        refine kx_getr (pc := 34) C fl_X8_10 fd_0_0 dX8_store_34 ?_
        refine kx_geti (pc := 37) C fl_X8_95 fd_1_0 (by first | assumption | exact hlen _ (by omega) | exact hten _ _ (by omega) (by omega) | exact hkd _ (by omega) | exact hYD _ _ (by omega) (by omega) | exact hHD _ _ (by omega) (by omega) | rfl) dX8_store_37 ?_
        refine kx_if_neN (pc := 40) C 46 (by omega) dX8_store_40 (by decide) (fun c40 => ?_) (fun c40 => ?_)
        · refine kx_ald0 (pc := 46) C dX8_store_46 ?_
          refine kx_getr (pc := 47) C fl_X8_42 fd_0_7 dX8_store_47 ?_
          refine kx_ald0 (pc := 50) C dX8_store_50 ?_
          refine kx_getr (pc := 51) C fl_X8_10 fd_0_0 dX8_store_51 ?_
          refine kx_ild1 (pc := 54) C dX8_store_54 ?_
          refine kx_ild2 (pc := 55) C dX8_store_55 ?_
          refine kx_callVV3 (pc := 56) C cs_X8_167 ob_58 (m_X6_run hC hB (by omega) (by omega) (by omega)) (by decide) dX8_store_56 (Nat.le_of_ble_eq_true rfl) (fun h56 q56 => ?_)
          obtain ⟨r1, r2⟩ := q56
          refine kx_ild3 (pc := 59) C dX8_store_59 ?_
          refine kx_iconst (pc := 60) C (v := -1) dX8_store_60 (by decide) ?_
          refine kx_icmp_ne (pc := 61) C 74 dX8_store_61 (by decide) (fun c61 => ?_) (fun c61 => ?_)
          · have ej : 0 ≤ i.toInt := by
              rcases (show i.toInt = -1 ∨ 0 ≤ i.toInt by omega) with q | q
              · exact absurd (kx_eqI.mpr (by rw [q]; rfl)) c61
              · exact q
            obtain ⟨w, rfl, hw, hw2⟩ := kx_nat ej
            have hbp := sp_bv_pos (S := sp_sx a x y) (X := (a 0) ^ y) (Nat.pow_pos c40)
            refine kx_ald0 (pc := 74) C dX8_store_74 ?_
            refine kx_getr (pc := 75) C fl_X8_42 fd_0_7 dX8_store_75 ?_
            refine kx_getr (pc := 78) C fl_X8_174 fd_58_4 dX8_store_78 ?_
            refine kx_ild3 (pc := 81) C dX8_store_81 ?_
            refine kx_iald (pc := 82) C ia_63 (by omega) (r1.2 hbp w (by omega)) dX8_store_82 ?_
            first
              | exact hR dX8_store_83 rfl ⟨by rw [sp_store, if_pos cc, if_neg (by omega), if_pos c61, kx_n, kx_n, kx_n_nI hx2, kx_n_nI hy2], r2⟩
              | exact hR dX8_store_83 rfl ⟨by rw [sp_store, if_pos cc, if_neg (by omega), if_neg c61]; simp only [kx_n, kx_n_nI hx2, kx_n_nI hy2, kx_n_nI hw2], r2⟩
          · refine kx_ald0 (pc := 64) C dX8_store_64 ?_
            refine kx_getr (pc := 65) C fl_X8_42 fd_0_7 dX8_store_65 ?_
            refine kx_geti (pc := 68) C fl_X8_171 fd_58_10 r1.1 dX8_store_68 ?_
            refine kx_goto (pc := 71) C 83 dX8_store_71 (by decide) ?_
            first
              | exact hR dX8_store_83 rfl ⟨by rw [sp_store, if_pos cc, if_neg (by omega), if_pos c61, kx_n, kx_n, kx_n_nI hx2, kx_n_nI hy2], r2⟩
              | exact hR dX8_store_83 rfl ⟨by rw [sp_store, if_pos cc, if_neg (by omega), if_neg c61]; simp only [kx_n, kx_n_nI hx2, kx_n_nI hy2, kx_n_nI hw2], r2⟩
        · refine kx_bipush (pc := 43) C (v := -4) dX8_store_43 (by decide) ?_
          exact hR dX8_store_45 rfl ⟨by rw [sp_store, if_pos cc, if_pos c40], fun d k _ => rfl⟩
      · refine kx_iconst (pc := 31) C (v := -1) dX8_store_31 (by decide) ?_
        have nc : ¬ ((0 ≤ s.toInt ∧ s.toInt < (a 2 : Int)) ∧ (1 ≤ n.toInt ∧ n.toInt ≤ 5) ∧ -1 ≤ i.toInt ∧ i.toInt ≤ n.toInt - 1) := fun z => by
          first
            | (have c28 := kx_if0 c28
               rw [kx_Tsub (by rw [show (nI 1).toInt = 1 from rfl]; omega) (by rw [show (nI 1).toInt = 1 from rfl]; omega), show (nI 1).toInt = 1 from rfl, show (-1 : Int32).toInt = -1 from rfl] at c28
               exact c28 z.2.2)
            | exact kx_if0 c17 z.2.1
            | exact kx_if0 c8 z.1
        exact hR dX8_store_32 rfl ⟨by rw [sp_store, if_neg nc], fun d k _ => rfl⟩
