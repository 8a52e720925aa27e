theorem kx_sub1 (x : Int32) : x - nI 1 = x + Int32.ofInt (-1) := by rw [Int32.sub_eq_add_neg]; rfl
def sp_yy (a : Nat → Nat) (s t e k : Nat) : Nat := min 9 (sp_y a s t e k)
theorem sp_yy_le (a : Nat → Nat) (s t e k : Nat) : sp_yy a s t e k ≤ 9 := Nat.min_le_left _ _
theorem sp_yy_eq {a : Nat → Nat} (hB : st_RB a) {s t e k : Nat} (ht : t < 8) : sp_yy a s t e k = sp_y a s t e k := Nat.min_eq_right (sp_y_le hB ht)
theorem ct_new_yy {a : Nat → Nat} (hB : st_RB a) {s t e : Nat} (ht : t < 8) : ct_new (sp_yy a s) t e = ct_new (sp_y a s) t e := by
  unfold ct_new
  congr 1
  funext i
  congr 2
  funext k
  rw [sp_yy_eq hB ht, sp_yy_eq hB ht]
def sp_cx (a : Nat → Nat) (s : Nat) (w : Nat → Nat) : Option (Nat × List Nat) := ct_rs (fun m => ct_fn (a 1) (sp_yy a s) (a 0) m 0 (fun k => (w k : Int))) 9
set_option maxHeartbeats 4000000 in
set_option maxRecDepth 100000 in
theorem m_X0_run {h : kx_H} {a w : Nat → Nat} {s : Nat} (hC : st_CH h a) (hB : st_B a) (hs : s < 4) (hw : ∀ k, k < 4 → h 56 k = nI (w k)) (hw99 : ∀ k, k < 4 → w k ≤ 99) : kx_MV 12 yX0_run cX0_run 5 [.ref 64, .ref 1, .int (nI s), .ref 56] h (fun g => (match sp_cx a s w with | none => g 64 8 = nI 9 | some (m, l) => g 64 8 = nI m ∧ l.length = m ∧ ∀ j, j < m → g 111 j = nI (l.getD j 0)) ∧ (∀ d j, (d < 64 ∨ 112 ≤ d) → g d j = h d j)) := by
  refine kx_mkV (own := RX0) (L0 := [some (.ref 64), some (.ref 1), some (.int (nI s)), some (.ref 56), none]) rfl (by decide +kernel) (Nat.le_of_ble_eq_true rfl) rfl (fun F C hR => ?_)
  obtain ⟨⟨hT, hE, hS, hev, hme⟩, ⟨hlen, hten, hkd⟩, hYD, hHD, hBR⟩ := id hC
  obtain ⟨⟨b0, b1, b2, b3, b8, b8'⟩, hRB, bl, byy, bh, bz, bb⟩ := id hB
  have loop2 : ∀ (r : Nat) (g : kx_H), r ≤ a 0 → g 64 6 = nI (a 0) → g 64 7 = nI (a 1) → g 64 8 = nI 9 → (∀ k, k < 4 → g 109 k = nI (w k)) → (∀ t e k, r ≤ t → t < a 0 → e < a 1 → k < 4 → g (66 + (t * 4 + e)) k = nI (sp_yy a s t e k)) → (∀ t k, r ≤ t → t ≤ a 0 → k < 4 → g (100 + t) k = nI (ct_hp (a 1) (sp_yy a s) (a 0 - t) t k)) → (∀ t e, r ≤ t → t < a 0 → e < a 1 → g 98 (t * 4 + e) = if ct_new (sp_yy a s) t e = true then 1 else 0) → (∀ d j, (d < 64 ∨ 112 ≤ d) → g d j = h d j) → F 69 [some (.ref 64), some (.ref 1), some (.int (nI s)), some (.ref 56), some (.int (nI r + Int32.ofInt (-1)))] [] g := by
    intro r
    induction r with
    | zero =>
      intro g hr g6 g7 g8 gm gy gh gn gf
      refine kx_ild4 (pc := 69) C dX0_run_69 ?_
      refine kx_if_ltI (pc := 71) C 94 dX0_run_71 (by decide) (fun c71 => ?_) (fun c71 => ?_)
      · refine kx_ald0 (pc := 94) C dX0_run_94 ?_
        refine kx_iconst (pc := 95) C (v := nI 0) dX0_run_95 (by decide) ?_
        refine kx_iconst (pc := 96) C (v := nI 0) dX0_run_96 (by decide) ?_
        refine kx_callVV2 (pc := 97) C cs_X0_55 ob_64 (m_X0_search b0 b1 (sp_yy_le a s) (a 0) 0 0 9 g (fun k => (w k : Int)) (fun _ => 0) (by omega) (by omega) (by omega) ⟨g6, g7, fun t e k ht he hk => gy t e k (by omega) ht he hk, fun t k ht hk => gh t k (by omega) ht hk, fun t e ht he => gn t e (by omega) ht he⟩ (fun k hk => by rw [gm k hk, iI_nI]) (fun k hk => by have := hw99 k hk; omega) (fun j hj => absurd hj (by omega)) g8) (by omega) dX0_run_97 (Nat.le_of_ble_eq_true rfl) (fun h97 q97 => ?_)
        obtain ⟨k1, k2, k3, k4, k5⟩ := q97
        refine hR dX0_run_100 ⟨?_, fun d j hd => by rw [k5 d j (by omega) (by omega)]; exact gf d j hd⟩
        have k1 : ct_post g h97 0 (fun _ => 0) (sp_cx a s w) := k1
        cases z : sp_cx a s w with
        | none => rw [z] at k1; exact k1.1.trans g8
        | some x =>
          obtain ⟨m, l⟩ := x
          rw [z] at k1
          exact ⟨by rw [k1.1, Nat.zero_add], k1.2.1, fun j hj => by rw [k1.2.2 j (by omega), if_neg (by omega)]; rfl⟩
      · exact absurd c71 (by decide)
    | succ r ih =>
      intro g hr g6 g7 g8 gm gy gh gn gf
      have hrd : st_RD 2 4 12 g a := st_RD.kept2 ⟨hlen, hten, hkd⟩ (fun j => gf 2 j (by omega)) (fun d j h1 h2 => gf d j (by omega)) (fun j => gf 12 j (by omega))
      have hhd : st_HD 19 g a := hHD.kept (fun d j h1 h2 => gf d j (by omega))
      rw [sp_m1]
      refine kx_ild4 (pc := 69) C dX0_run_69 ?_
      refine kx_if_ltI (pc := 71) C 94 dX0_run_71 (by decide) (fun c71 => ?_) (fun c71 => ?_)
      · rw [kx_T (by omega)] at c71
        omega
      · refine kx_ald0 (pc := 74) C dX0_run_74 ?_
        refine kx_ald1 (pc := 75) C dX0_run_75 ?_
        refine kx_ild2 (pc := 76) C dX0_run_76 ?_
        refine kx_ild4 (pc := 77) C dX0_run_77 ?_
        refine kx_callVV3 (pc := 79) C cs_X0_47 ob_64 (m_X0_spinAll hrd hhd (by rw [gf 1 3 (by omega)]; exact hev) (by rw [gf 1 4 (by omega)]; exact hme) hB hs (show r < 8 by omega) g7) (by omega) dX0_run_79 (Nat.le_of_ble_eq_true rfl) (fun h79 q79 => ?_)
        obtain ⟨s1, s2, s3⟩ := q79
        refine kx_ald0 (pc := 82) C dX0_run_82 ?_
        refine kx_ild4 (pc := 83) C dX0_run_83 ?_
        refine kx_callVV1 (pc := 85) C cs_X0_51 ob_64 (m_X0_addHope (w := fun _ => 0) (f := fun k => ct_hp (a 1) (sp_yy a s) (a 0 - (r + 1)) (r + 1) k) (y := sp_yy a s) (show r < 8 by omega) b1 (by rw [s3 64 7 (by omega) (by omega)]; exact g7) (fun e k he hk => by rw [s1 e k he hk, sp_yy_eq hRB (by omega)]) (fun e k _ _ => sp_yy_le a s r e k) (fun k hk => by rw [s3 _ _ (by omega) (by omega)]; exact gh (r + 1) k (by omega) (by omega) hk)) (by omega) dX0_run_85 (Nat.le_of_ble_eq_true rfl) (fun h85 q85 => ?_)
        obtain ⟨u1, u2⟩ := q85
        refine kx_inc4 (pc := 88) C dX0_run_88 (by decide) rfl rfl ?_
        refine kx_goto (pc := 91) C 69 dX0_run_91 (by decide) ?_
        refine ih h85 (by omega) (by rw [u2 _ _ (by omega), s3 _ _ (by omega) (by omega)]; exact g6) (by rw [u2 _ _ (by omega), s3 _ _ (by omega) (by omega)]; exact g7) (by rw [u2 _ _ (by omega), s3 _ _ (by omega) (by omega)]; exact g8) (fun k hk => by rw [u2 _ _ (by omega), s3 _ _ (by omega) (by omega)]; exact gm k hk) (fun t e k h1 h2 h3 h4 => ?_) (fun t k h1 h2 h3 => ?_) (fun t e h1 h2 h3 => ?_) (fun d j hd => by rw [u2 _ _ (by omega), s3 _ _ (by omega) (by omega)]; exact gf d j hd)
        · rw [u2 _ _ (by omega)]
          by_cases z : t = r
          · rw [z, s1 e k h3 h4, sp_yy_eq hRB (by omega)]
          · rw [s3 _ _ (by omega) (by omega)]; exact gy t e k (by omega) h2 h3 h4
        · by_cases z : t = r
          · rw [z, u1 k h3, show a 0 - r = (a 0 - (r + 1)) + 1 by omega]; rfl
          · rw [u2 _ _ (by omega), s3 _ _ (by omega) (by omega)]; exact gh t k (by omega) h2 h3
        · rw [u2 _ _ (by omega)]
          by_cases z : t = r
          · rw [z, s2 e h3, ct_new_yy hRB (by omega)]
          · rw [s3 98 _ (by omega) (by omega)]; exact gn t e (by omega) h2 h3
  have loop1 : ∀ (q k : Nat) (g : kx_H), 4 - k = q → k ≤ 4 → g 64 6 = nI (a 0) → g 64 7 = nI (a 1) → g 64 8 = nI 9 → (∀ i, i < k → g 109 i = nI (w i)) → (∀ i, i < k → g (100 + a 0) i = 0) → (∀ d j, (d < 64 ∨ 112 ≤ d) → g d j = h d j) → F 25 [some (.ref 64), some (.ref 1), some (.int (nI s)), some (.ref 56), some (.int (nI k))] [] g := by
    intro q
    induction q with
    | zero =>
      intro k g hq hk g6 g7 g8 gm gh gf
      have fin := loop2 (a 0) g (by omega) g6 g7 g8 (fun i hi => gm i (by omega)) (fun t e k h1 h2 _ _ => absurd h1 (by omega)) (fun t i h1 h2 h3 => by rw [show t = a 0 by omega, gh i (by omega), Nat.sub_self]; rfl) (fun t e h1 h2 _ => absurd h1 (by omega)) gf
      refine kx_ild4 (pc := 25) C dX0_run_25 ?_
      refine kx_iconst (pc := 27) C (v := nI 4) dX0_run_27 (by decide) ?_
      refine kx_icmp_geN (pc := 28) C 61 (by omega) (by omega) dX0_run_28 (by decide) (fun c28 => ?_) (fun c28 => ?_)
      · refine kx_ald0 (pc := 61) C dX0_run_61 ?_
        refine kx_geti (pc := 62) C fl_X0_39 fd_64_6 (by first | assumption | rfl) dX0_run_62 ?_
        refine kx_iconst (pc := 65) C (v := nI 1) dX0_run_65 (by decide) ?_
        refine kx_isub (pc := 66) C dX0_run_66 ?_
        refine kx_ist4 (pc := 67) C dX0_run_67 (by decide) rfl ?_
        rw [kx_sub1]
        exact fin
      · omega
    | succ q ih =>
      intro k g hq hk g6 g7 g8 gm gh gf
      have ew : g 56 k = nI (w k) := by rw [gf 56 k (by omega)]; exact hw k (by omega)
      refine kx_ild4 (pc := 25) C dX0_run_25 ?_
      refine kx_iconst (pc := 27) C (v := nI 4) dX0_run_27 (by decide) ?_
      refine kx_icmp_geN (pc := 28) C 61 (by omega) (by omega) dX0_run_28 (by decide) (fun c28 => ?_) (fun c28 => ?_)
      · omega
      · refine kx_ald0 (pc := 31) C dX0_run_31 ?_
        refine kx_getr (pc := 32) C fl_X0_23 fd_64_3 dX0_run_32 ?_
        refine kx_ild4 (pc := 35) C dX0_run_35 ?_
        refine kx_ald3 (pc := 37) C dX0_run_37 ?_
        refine kx_ild4 (pc := 38) C dX0_run_38 ?_
        refine kx_iald (pc := 40) C ia_56 (by omega) (by first | assumption | rfl) dX0_run_40 ?_
        refine kx_iast (pc := 41) C ia_109 (by omega) dX0_run_41 ?_
        refine kx_ald0 (pc := 42) C dX0_run_42 ?_
        refine kx_getr (pc := 43) C fl_X0_20 fd_64_2 dX0_run_43 ?_
        refine kx_ald0 (pc := 46) C dX0_run_46 ?_
        refine kx_geti (pc := 47) C fl_X0_39 fd_64_6 (show _ = nI (a 0) by rw [kx_up, if_neg (by omega)]; exact g6) dX0_run_47 ?_
        refine kx_aald1 (pc := 50) C ra_99 (by omega) dX0_run_50 ?_
        refine kx_ild4 (pc := 51) C dX0_run_51 ?_
        refine kx_iconst (pc := 53) C (v := nI 0) dX0_run_53 (by decide) ?_
        refine kx_iast (pc := 54) C (if_hope _ (by omega)) (by omega) dX0_run_54 ?_
        first | refine kx_inc4 (pc := 55) C (v := nI (_ + 1)) dX0_run_55 (by decide) rfl (nI_1 _) ?_ | refine kx_inc4 (pc := 55) C dX0_run_55 (by decide) rfl rfl ?_
        refine kx_goto (pc := 58) C 25 dX0_run_58 (by decide) ?_
        refine ih (k + 1) _ (by omega) (by omega) (by rw [kx_up, if_neg (by omega), kx_up, if_neg (by omega)]; exact g6) (by rw [kx_up, if_neg (by omega), kx_up, if_neg (by omega)]; exact g7) (by rw [kx_up, if_neg (by omega), kx_up, if_neg (by omega)]; exact g8) (fun i hi => ?_) (fun i hi => ?_) (fun d j hd => by rw [kx_up, if_neg (by omega), kx_up, if_neg (by omega)]; exact gf d j hd)
        · by_cases z : i = k
          · rw [z, kx_up, if_neg (by omega), kx_up, if_pos ⟨rfl, rfl⟩]
          · rw [kx_up, if_neg (by omega), kx_up, if_neg (by omega)]; exact gm i (by omega)
        · by_cases z : i = k
          · rw [z, kx_up, if_pos ⟨rfl, rfl⟩]; rfl
          · rw [kx_up, if_neg (by omega), kx_up, if_neg (by omega)]; exact gh i (by omega)
  refine kx_ald0 (pc := 0) C dX0_run_0 ?_
  refine kx_ald1 (pc := 1) C dX0_run_1 ?_
  refine kx_geti (pc := 2) C fl_X0_33 fd_1_0 hT dX0_run_2 ?_
  refine kx_puti (pc := 5) C fl_X0_39 fp_X0_6 fd_64_6 rfl rfl dX0_run_5 ?_
  refine kx_ald0 (pc := 8) C dX0_run_8 ?_
  refine kx_ald1 (pc := 9) C dX0_run_9 ?_
  refine kx_geti (pc := 10) C fl_X0_40 fd_1_1 (show _ = nI (a 1) by rw [kx_up, if_neg (by omega)]; exact hE) dX0_run_10 ?_
  refine kx_puti (pc := 13) C fl_X0_43 fp_X0_7 fd_64_7 rfl rfl dX0_run_13 ?_
  refine kx_ald0 (pc := 16) C dX0_run_16 ?_
  refine kx_bipush (pc := 17) C (v := nI 9) dX0_run_17 (by decide) ?_
  refine kx_puti (pc := 19) C fl_X0_44 fp_X0_8 fd_64_8 rfl rfl dX0_run_19 ?_
  refine kx_iconst (pc := 22) C (v := nI 0) dX0_run_22 (by decide) ?_
  refine kx_ist4 (pc := 23) C dX0_run_23 (by decide) rfl ?_
  exact loop1 4 0 _ (by omega) (by omega) (by simp [kx_up]) (by simp [kx_up]) (by simp [kx_up]) (fun i hi => absurd hi (by omega)) (fun i hi => absurd hi (by omega)) (fun d j hd => by rw [kx_up, if_neg (by omega), kx_up, if_neg (by omega), kx_up, if_neg (by omega)])
set_option maxHeartbeats 4000000 in
set_option maxRecDepth 100000 in
theorem m_X0_isFound {h : kx_H} {b : Nat} (hb : h 64 8 = nI b) (hb9 : b ≤ 9) : kx_MI 1 yX0_isFound cX0_isFound 1 .boolean [.ref 64] h (fun r h1 => h1 = h ∧ r = if b ≤ 8 then 1 else 0) := by
  refine kx_mkI (own := RX0) (L0 := [some (.ref 64)]) rfl (by decide +kernel) (Nat.le_of_ble_eq_true rfl) rfl (fun F C hR => ?_)
  refine kx_ald0 (pc := 0) C dX0_isFound_0 ?_
  refine kx_geti (pc := 1) C fl_X0_44 fd_64_8 (by first | assumption | rfl) dX0_isFound_1 ?_
  refine kx_bipush (pc := 4) C (v := nI 8) dX0_isFound_4 (by decide) ?_
  refine kx_icmp_gtN (pc := 6) C 13 (by omega) (by omega) dX0_isFound_6 (by decide) (fun c6 => ?_) (fun c6 => ?_)
  · refine kx_iconst (pc := 13) C (v := nI 0) dX0_isFound_13 (by decide) ?_
    first | exact hR dX0_isFound_14 rfl ⟨rfl, by rw [if_neg (by omega)]; rfl⟩ | exact hR dX0_isFound_14 rfl ⟨rfl, by rw [if_pos (by omega)]; rfl⟩
  · refine kx_iconst (pc := 9) C (v := nI 1) dX0_isFound_9 (by decide) ?_
    refine kx_goto (pc := 10) C 14 dX0_isFound_10 (by decide) ?_
    first | exact hR dX0_isFound_14 rfl ⟨rfl, by rw [if_neg (by omega)]; rfl⟩ | exact hR dX0_isFound_14 rfl ⟨rfl, by rw [if_pos (by omega)]; rfl⟩
def sp_coat (a sl sn : Nat → Nat) (it : kx_H) (s v l i k : Int32) : Int32 := if (0 ≤ s.toInt ∧ s.toInt < (a 2 : Int)) ∧ ((0 ≤ v.toInt ∧ v.toInt ≤ 3) ∧ 0 ≤ l.toInt ∧ l.toInt ≤ 2) ∧ -1 ≤ k.toInt ∧ k.toInt ≤ 7 then (if sp_take sl sn it (kx_n v) l i 4 99 = 0 then (match sp_cx a (kx_n s) (sp_val it (kx_n v) (kx_n i)) with | none => -4 | some (m, r) => if k = -1 then nI m else if kx_n k < m then nI (r.getD (kx_n k) 0) else -4) else sp_take sl sn it (kx_n v) l i 4 99) else -1
theorem sp_cx_le {a : Nat → Nat} {s : Nat} {w : Nat → Nat} {m : Nat} {l : List Nat} (h0 : a 0 ≤ 8) (h : sp_cx a s w = some (m, l)) : m ≤ 8 := by
  have h1 := ct_rs_some h
  have h2 := ct_fn_hope h1.2.1
  omega
set_option maxHeartbeats 4000000 in
set_option maxRecDepth 100000 in
theorem m_X8_coat {h : kx_H} {a sl sn : Nat → Nat} {it : kx_H} (s v l i k : Int32) (hC : st_CH h a) (hB : st_B a) (hs : st_SH h sl sn it) : kx_MI 13 yX8_coat cX8_coat 7 .int [.ref 0, .int s, .int v, .int l, .int i, .int k] h (fun r h1 => r = sp_coat a sl sn it s v l i k ∧ ∀ d q, d ≠ 56 → (d < 64 ∨ 112 ≤ d) → h1 d q = h d q) := by
  refine kx_mkI (own := RX8) (L0 := [some (.ref 0), some (.int s), some (.int v), some (.int l), some (.int i), some (.int k), none]) rfl (by decide +kernel) (Nat.le_of_ble_eq_true rfl) rfl (fun F C hR => ?_)
  obtain ⟨⟨hT, hE, hS, hev, hme⟩, ⟨hlen, hten, hkd⟩, hYD, hHD, hBR⟩ := id hC
  obtain ⟨⟨b0, b1, b2, b3, b8, b8'⟩, hRB, bl, byy, bh, bz, bb⟩ := id hB
  have hl9 := hRB.1
  refine kx_ald0 (pc := 0) C dX8_coat_0 ?_
  refine kx_getr (pc := 1) C fl_X8_10 fd_0_0 dX8_coat_1 ?_
  refine kx_ild1 (pc := 4) C dX8_coat_4 ?_
  refine kx_callVI1 (pc := 5) C cs_X8_139 ob_1 (m_X2_hasSpinner _ (by assumption) (by omega)) (by decide) dX8_coat_5 (Nat.le_of_ble_eq_true rfl) (fun r5 h5 q5 => ?_)
  obtain ⟨z5, rfl⟩ := q5
  have z5 := z5.symm
  subst z5
  refine kx_if_eq (pc := 8) C 30 dX8_coat_8 (by decide) (fun c8 => ?_) (fun c8 => ?_)
  · refine kx_iconst (pc := 30) C (v := -1) dX8_coat_30 (by decide) ?_
    have nc : ¬ ((0 ≤ s.toInt ∧ s.toInt < (a 2 : Int)) ∧ ((0 ≤ v.toInt ∧ v.toInt ≤ 3) ∧ 0 ≤ l.toInt ∧ l.toInt ≤ 2) ∧ -1 ≤ k.toInt ∧ k.toInt ≤ 7) := fun z => by
      first
        | (have c27 := kx_if0 c27
           rw [show (nI 7).toInt = 7 from rfl, show (-1 : Int32).toInt = -1 from rfl] at c27
           exact c27 z.2.2)
        | exact kx_if0 c16 z.2.1
        | exact kx_if0 c8 z.1
    exact hR dX8_coat_31 rfl ⟨by rw [sp_coat, if_neg nc], fun d k _ _ => rfl⟩
  · refine kx_ild2 (pc := 11) C dX8_coat_11 ?_
    refine kx_ild3 (pc := 12) C dX8_coat_12 ?_
    refine kx_callSI2 (pc := 13) C cs_X8_208 (m_X8_isSheetOfLane _ _) (by decide) dX8_coat_13 (Nat.le_of_ble_eq_true rfl) (fun r13 h13 q13 => ?_)
    obtain ⟨z13, rfl⟩ := q13
    have z13 := z13.symm
    subst z13
    refine kx_if_eq (pc := 16) C 30 dX8_coat_16 (by decide) (fun c16 => ?_) (fun c16 => ?_)
    · refine kx_iconst (pc := 30) C (v := -1) dX8_coat_30 (by decide) ?_
      have nc : ¬ ((0 ≤ s.toInt ∧ s.toInt < (a 2 : Int)) ∧ ((0 ≤ v.toInt ∧ v.toInt ≤ 3) ∧ 0 ≤ l.toInt ∧ l.toInt ≤ 2) ∧ -1 ≤ k.toInt ∧ k.toInt ≤ 7) := fun z => by
        first
          | (have c27 := kx_if0 c27
             rw [show (nI 7).toInt = 7 from rfl, show (-1 : Int32).toInt = -1 from rfl] at c27
             exact c27 z.2.2)
          | exact kx_if0 c16 z.2.1
          | exact kx_if0 c8 z.1
      exact hR dX8_coat_31 rfl ⟨by rw [sp_coat, if_neg nc], fun d k _ _ => rfl⟩
    · refine kx_ild5 (pc := 19) C dX8_coat_19 ?_
      refine kx_iconst (pc := 21) C (v := -1) dX8_coat_21 (by decide) ?_
      refine kx_bipush (pc := 22) C (v := nI 7) dX8_coat_22 (by decide) ?_
      refine kx_callSI3 (pc := 24) C cs_X8_75 (m_X8_isWithin _ _ _) (by decide) dX8_coat_24 (Nat.le_of_ble_eq_true rfl) (fun r24 h24 q24 => ?_)
      obtain ⟨z24, rfl⟩ := q24
      have z24 := z24.symm
      subst z24
      refine kx_if_ne (pc := 27) C 32 dX8_coat_27 (by decide) (fun c27 => ?_) (fun c27 => ?_)
      · have c8 := kx_if1 c8
        have c16 := kx_if1 c16
        have c27 := kx_if1 c27
        rw [show (nI 7).toInt = 7 from rfl, show (-1 : Int32).toInt = -1 from rfl] at c27
        have cc : (0 ≤ s.toInt ∧ s.toInt < (a 2 : Int)) ∧ ((0 ≤ v.toInt ∧ v.toInt ≤ 3) ∧ 0 ≤ l.toInt ∧ l.toInt ≤ 2) ∧ -1 ≤ k.toInt ∧ k.toInt ≤ 7 := ⟨c8, c16, c27⟩
        obtain ⟨x, rfl, hx, hx2⟩ := kx_nat c8.1
        obtain ⟨z, rfl, hz, hz2⟩ := kx_nat c16.1.1
        refine kx_ald0 (pc := 32) C dX8_coat_32 ?_
        refine kx_ild2 (pc := 33) C dX8_coat_33 ?_
        refine kx_ild3 (pc := 34) C dX8_coat_34 ?_
        refine kx_ild4 (pc := 35) C dX8_coat_35 ?_
        refine kx_iconst (pc := 37) C (v := nI 4) dX8_coat_37 (by decide) ?_
        refine kx_bipush (pc := 38) C (v := nI 99) dX8_coat_38 (by decide) ?_
        refine kx_callVI5 (pc := 40) C cs_X8_211 ob_0 (m_X8_takeItems _ _ hs (show z < 4 by omega) (by omega) (by omega)) (by decide) dX8_coat_40 (Nat.le_of_ble_eq_true rfl) (fun r40 h40 q40 => ?_)
        obtain ⟨rfl, k1, k2⟩ := q40
        refine kx_ist6 (pc := 43) C dX8_coat_43 (by decide) rfl ?_
        refine kx_ild6 (pc := 45) C dX8_coat_45 ?_
        refine kx_if_eq (pc := 47) C 53 dX8_coat_47 (by decide) (fun c47 => ?_) (fun c47 => ?_)
        · have k1b := k1 c47
          have ok := (sp_take_0 c47).2
          have hv : ∀ q, q < 4 → h40 56 q = nI (sp_val it z (kx_n i) q) := fun q hq => by rw [k1b q hq]; exact (sp_okI_v ok hq).1
          have hv9 : ∀ q, q < 4 → sp_val it z (kx_n i) q ≤ 99 := fun q hq => (sp_okI_v ok hq).2
          have hC2 : st_CH h40 a := kx_frame2 hC (fun d q hd => k2 d q (by omega))
          refine kx_ald0 (pc := 53) C dX8_coat_53 ?_
          refine kx_getr (pc := 54) C fl_X8_49 fd_0_8 dX8_coat_54 ?_
          refine kx_ald0 (pc := 57) C dX8_coat_57 ?_
          refine kx_getr (pc := 58) C fl_X8_10 fd_0_0 dX8_coat_58 ?_
          refine kx_ild1 (pc := 61) C dX8_coat_61 ?_
          refine kx_ald0 (pc := 62) C dX8_coat_62 ?_
          refine kx_getr (pc := 63) C fl_X8_32 fd_0_5 dX8_coat_63 ?_
          refine kx_callVV3 (pc := 66) C cs_X8_215 ob_64 (m_X0_run (w := sp_val it z (kx_n i)) hC2 hB (by omega) hv hv9) (by decide) dX8_coat_66 (Nat.le_of_ble_eq_true rfl) (fun h66 q66 => ?_)
          obtain ⟨r1, r2⟩ := q66
          obtain ⟨bb1, hbb1, hbb9⟩ : ∃ b : Nat, h66 64 8 = nI b ∧ b ≤ 9 := by
            cases w : sp_cx a x (sp_val it z (kx_n i)) with
            | none => rw [w] at r1; exact ⟨9, r1, by omega⟩
            | some y =>
              obtain ⟨m, r⟩ := y
              rw [w] at r1
              have := sp_cx_le b0 w
              exact ⟨m, r1.1, by omega⟩
          refine kx_ald0 (pc := 69) C dX8_coat_69 ?_
          refine kx_getr (pc := 70) C fl_X8_49 fd_0_8 dX8_coat_70 ?_
          refine kx_callVI0 (pc := 73) C cs_X8_218 ob_64 (m_X0_isFound hbb1 hbb9) (by decide) dX8_coat_73 (Nat.le_of_ble_eq_true rfl) (fun r73 h73 q73 => ?_)
          obtain ⟨z73, rfl⟩ := q73
          have z73 := z73.symm
          subst z73
          refine kx_if_ne (pc := 76) C 82 dX8_coat_76 (by decide) (fun c76 => ?_) (fun c76 => ?_)
          · have c76 := kx_if1 c76
            obtain ⟨m, r, ex, e1, e2, e3⟩ : ∃ (m : Nat) (r : List Nat), sp_cx a x (sp_val it z (kx_n i)) = some (m, r) ∧ h66 64 8 = nI m ∧ m ≤ 8 ∧ ∀ j, j < m → h66 111 j = nI (r.getD j 0) := by
              cases w : sp_cx a x (sp_val it z (kx_n i)) with
              | none => rw [w] at r1; rw [r1] at hbb1; have := (nI_eq (by omega) (by omega)).mp hbb1; omega
              | some y =>
                obtain ⟨m, r⟩ := y
                rw [w] at r1
                exact ⟨m, r, rfl, r1.1, sp_cx_le b0 w, r1.2.2⟩
            refine kx_ild5 (pc := 82) C dX8_coat_82 ?_
            refine kx_iconst (pc := 84) C (v := -1) dX8_coat_84 (by decide) ?_
            refine kx_icmp_ne (pc := 85) C 96 dX8_coat_85 (by decide) (fun c85 => ?_) (fun c85 => ?_)
            · have ej : 0 ≤ k.toInt := by
                rcases (show k.toInt = -1 ∨ 0 ≤ k.toInt by omega) with q | q
                · exact absurd (kx_eqI.mpr (by rw [q]; rfl)) c85
                · exact q
              obtain ⟨y, rfl, hy, hy2⟩ := kx_nat ej
              refine kx_ild5 (pc := 96) C dX8_coat_96 ?_
              refine kx_ald0 (pc := 98) C dX8_coat_98 ?_
              refine kx_getr (pc := 99) C fl_X8_49 fd_0_8 dX8_coat_99 ?_
              refine kx_geti (pc := 102) C fl_X8_222 fd_64_8 e1 dX8_coat_102 ?_
              refine kx_icmp_geN (pc := 105) C 121 (by omega) (by omega) dX8_coat_105 (by decide) (fun c105 => ?_) (fun c105 => ?_)
              · refine kx_bipush (pc := 121) C (v := -4) dX8_coat_121 (by decide) ?_
                first
                  | exact hR dX8_coat_123 rfl ⟨by rw [sp_coat, if_pos cc]; simp only [kx_n, kx_n_nI hz2, kx_n_nI hx2, kx_n_nI hy2]; rw [if_pos c47, ex]; simp only []; rw [if_neg c85, if_neg (Nat.not_lt.mpr c105)], fun d k h1 h2 => by rw [r2 d k h2, k2 d k h1]⟩
                  | exact hR dX8_coat_123 rfl ⟨by rw [sp_coat, if_pos cc]; simp only [kx_n, kx_n_nI hz2, kx_n_nI hx2, kx_n_nI hy2]; rw [if_pos c47, ex]; simp only []; rw [if_neg c85, if_pos c105], fun d k h1 h2 => by rw [r2 d k h2, k2 d k h1]⟩
              · refine kx_ald0 (pc := 108) C dX8_coat_108 ?_
                refine kx_getr (pc := 109) C fl_X8_49 fd_0_8 dX8_coat_109 ?_
                refine kx_getr (pc := 112) C fl_X8_225 fd_64_5 dX8_coat_112 ?_
                refine kx_ild5 (pc := 115) C dX8_coat_115 ?_
                refine kx_iald (pc := 117) C ia_111 (by omega) (e3 _ (by omega)) dX8_coat_117 ?_
                refine kx_goto (pc := 118) C 123 dX8_coat_118 (by decide) ?_
                first
                  | exact hR dX8_coat_123 rfl ⟨by rw [sp_coat, if_pos cc]; simp only [kx_n, kx_n_nI hz2, kx_n_nI hx2, kx_n_nI hy2]; rw [if_pos c47, ex]; simp only []; rw [if_neg c85, if_neg (Nat.not_lt.mpr c105)], fun d k h1 h2 => by rw [r2 d k h2, k2 d k h1]⟩
                  | exact hR dX8_coat_123 rfl ⟨by rw [sp_coat, if_pos cc]; simp only [kx_n, kx_n_nI hz2, kx_n_nI hx2, kx_n_nI hy2]; rw [if_pos c47, ex]; simp only []; rw [if_neg c85, if_pos c105], fun d k h1 h2 => by rw [r2 d k h2, k2 d k h1]⟩
            · refine kx_ald0 (pc := 88) C dX8_coat_88 ?_
              refine kx_getr (pc := 89) C fl_X8_49 fd_0_8 dX8_coat_89 ?_
              refine kx_geti (pc := 92) C fl_X8_222 fd_64_8 e1 dX8_coat_92 ?_
              exact hR dX8_coat_95 rfl ⟨by rw [sp_coat, if_pos cc]; simp only [kx_n, kx_n_nI hz2, kx_n_nI hx2]; rw [if_pos c47, ex]; simp only []; rw [if_pos c85], fun d k h1 h2 => by rw [r2 d k h2, k2 d k h1]⟩
          · have c76 := kx_if0 c76
            have ex : sp_cx a x (sp_val it z (kx_n i)) = none := by
              cases w : sp_cx a x (sp_val it z (kx_n i)) with
              | none => rfl
              | some y =>
                obtain ⟨m, r⟩ := y
                rw [w] at r1
                have h8 := sp_cx_le b0 w
                have hq := r1.1
                rw [hbb1] at hq
                have := (nI_eq (by omega) (by omega)).mp hq
                omega
            refine kx_bipush (pc := 79) C (v := -4) dX8_coat_79 (by decide) ?_
            exact hR dX8_coat_81 rfl ⟨by rw [sp_coat, if_pos cc]; simp only [kx_n, kx_n_nI hz2, kx_n_nI hx2]; rw [if_pos c47, ex], fun d k h1 h2 => by rw [r2 d k h2, k2 d k h1]⟩
        · refine kx_ild6 (pc := 50) C dX8_coat_50 ?_
          exact hR dX8_coat_52 rfl ⟨by rw [sp_coat, if_pos cc, kx_n, kx_n_nI hz2, if_neg c47], fun d k h1 h2 => k2 d k h1⟩
      · refine kx_iconst (pc := 30) C (v := -1) dX8_coat_30 (by decide) ?_
        have nc : ¬ ((0 ≤ s.toInt ∧ s.toInt < (a 2 : Int)) ∧ ((0 ≤ v.toInt ∧ v.toInt ≤ 3) ∧ 0 ≤ l.toInt ∧ l.toInt ≤ 2) ∧ -1 ≤ k.toInt ∧ k.toInt ≤ 7) := fun z => by
          first
            | (have c27 := kx_if0 c27
               rw [show (nI 7).toInt = 7 from rfl, show (-1 : Int32).toInt = -1 from rfl] at c27
               exact c27 z.2.2)
            | exact kx_if0 c16 z.2.1
            | exact kx_if0 c8 z.1
        exact hR dX8_coat_31 rfl ⟨by rw [sp_coat, if_neg nc], fun d k _ _ => rfl⟩
