/-! THE REFERENCE'S SHEETS -/
def st_MS (h : kx_H) (sl sn : Nat → Nat) (it : kx_H) : Prop := ∀ j, j < 4 → ((sl j = 0 ∧ h 131 j = -1) ∨ (0 < sl j ∧ sl j ≤ 3 ∧ h 131 j = nI (sn j) ∧ h 132 j = nI (sl j - 1))) ∧ sn j ≤ 24 ∧ ∀ k, k < 24 → h 133 (24 * j + k) = it j k
theorem st_MS.kept {h g : kx_H} {sl sn : Nat → Nat} {it : kx_H} (hs : st_MS h sl sn it) (hg : ∀ d j, d = 131 ∨ d = 132 ∨ d = 133 → g d j = h d j) : st_MS g sl sn it := by
  intro j hj
  obtain ⟨h1, h2, h3⟩ := hs j hj
  rw [hg 131 _ (by omega), hg 132 _ (by omega)]
  exact ⟨h1, h2, fun k hk => by rw [hg 133 _ (by omega)]; exact h3 k hk⟩
theorem st_MS.at {h : kx_H} {sl sn : Nat → Nat} {it : kx_H} (hs : st_MS h sl sn it) {j i k : Nat} (hj : j < 4) (hk : i + k < 24) : h 133 (24 * j + i + k) = it j (i + k) := by
  rw [Nat.add_assoc]; exact (hs j hj).2.2 _ hk
theorem st_MS.null {h : kx_H} {sl sn : Nat → Nat} {it : kx_H} (hs : st_MS h sl sn it) {j : Nat} (hj : j < 4) : (h 131 j).toInt < 0 ↔ sl j = 0 := by
  have h24 := (hs j hj).2.1
  rcases (hs j hj).1 with ⟨z, q⟩ | ⟨z, z2, q, -⟩
  · rw [q]; exact ⟨fun _ => z, fun _ => by decide⟩
  · rw [q, kx_T (by omega)]
    exact ⟨fun y => by omega, fun y => by omega⟩
theorem st_MS.one {h g : kx_H} {sl sn : Nat → Nat} {it : kx_H} (hs : st_MS h sl sn it) {j x y : Nat} {f : Nat → Int32} (hj : j < 4) (h0 : (x = 0 ∧ g 131 j = -1) ∨ (0 < x ∧ x ≤ 3 ∧ g 131 j = nI y ∧ g 132 j = nI (x - 1))) (hy : y ≤ 24) (h2 : ∀ k, k < 24 → g 133 (24 * j + k) = f k) (hg1 : ∀ i, i ≠ j → g 131 i = h 131 i ∧ g 132 i = h 132 i) (hg2 : ∀ p, p < 24 * j ∨ 24 * j + 24 ≤ p → g 133 p = h 133 p) : st_MS g (up sl j x) (up sn j y) (upI it j f) := by
  intro i hi
  by_cases z : i = j
  · subst z
    rw [up_s, up_s, upI, if_pos rfl]
    exact ⟨h0, hy, h2⟩
  · obtain ⟨q1, q2, q3⟩ := hs i hi
    rw [up_o z, up_o z, upI, if_neg z, (hg1 i z).1, (hg1 i z).2]
    exact ⟨q1, q2, fun k hk => by rw [hg2 _ (by omega)]; exact q3 k hk⟩
set_option maxHeartbeats 4000000 in
set_option maxRecDepth 100000 in
theorem m_X9_isSheet {h : kx_H} (v l : Int32)  : kx_MI 2 yX9_isSheet cX9_isSheet 2 .boolean [.int v, .int l] h (fun r h1 => h1 = h ∧ r = if (0 ≤ v.toInt ∧ v.toInt ≤ 3) ∧ 0 ≤ l.toInt ∧ l.toInt ≤ 2 then 1 else 0) := by
  refine kx_mkI (own := RX9) (L0 := [some (.int v), some (.int l)]) rfl (by decide +kernel) (Nat.le_of_ble_eq_true rfl) rfl (fun F C hR => ?_)
  refine kx_ild0 (pc := 0) C dX9_isSheet_0 ?_
  refine kx_i2l (pc := 1) C dX9_isSheet_1 ?_
  refine kx_lconst (pc := 2) C (v := 0) dX9_isSheet_2 (by decide) ?_
  refine kx_ldc2 (pc := 3) C dX9_isSheet_3 cn_X9_82 ?_
  refine kx_callSI3 (pc := 6) C cs_X9_52 (m_X9_in (p := 0) (q := _) (r := 3) (by rfl) (kx_L _) (by rfl)) (by decide) dX9_isSheet_6 (Nat.le_of_ble_eq_true rfl) (fun r6 h6 q6 => ?_)
  obtain ⟨z6, rfl⟩ := q6
  have z6 := z6.symm
  subst z6
  refine kx_if_eq (pc := 9) C 28 dX9_isSheet_9 (by decide) (fun c9 => ?_) (fun c9 => ?_)
  · refine kx_iconst (pc := 28) C (v := nI 0) dX9_isSheet_28 (by decide) ?_
    first
      | exact hR dX9_isSheet_29 rfl ⟨rfl, by rw [if_pos ⟨kx_if1 c9, kx_if1 c21⟩]; rfl⟩
      | exact hR dX9_isSheet_29 rfl ⟨rfl, by rw [if_neg (fun z => kx_if0 c21 z.2)]; rfl⟩
      | exact hR dX9_isSheet_29 rfl ⟨rfl, by rw [if_neg (fun z => kx_if0 c9 z.1)]; rfl⟩
  · refine kx_ild1 (pc := 12) C dX9_isSheet_12 ?_
    refine kx_i2l (pc := 13) C dX9_isSheet_13 ?_
    refine kx_lconst (pc := 14) C (v := 0) dX9_isSheet_14 (by decide) ?_
    refine kx_ldc2 (pc := 15) C dX9_isSheet_15 cn_X9_131 ?_
    refine kx_callSI3 (pc := 18) C cs_X9_52 (m_X9_in (p := 0) (q := _) (r := 2) (by rfl) (kx_L _) (by rfl)) (by decide) dX9_isSheet_18 (Nat.le_of_ble_eq_true rfl) (fun r18 h18 q18 => ?_)
    obtain ⟨z18, rfl⟩ := q18
    have z18 := z18.symm
    subst z18
    refine kx_if_eq (pc := 21) C 28 dX9_isSheet_21 (by decide) (fun c21 => ?_) (fun c21 => ?_)
    · refine kx_iconst (pc := 28) C (v := nI 0) dX9_isSheet_28 (by decide) ?_
      first
        | exact hR dX9_isSheet_29 rfl ⟨rfl, by rw [if_pos ⟨kx_if1 c9, kx_if1 c21⟩]; rfl⟩
        | exact hR dX9_isSheet_29 rfl ⟨rfl, by rw [if_neg (fun z => kx_if0 c21 z.2)]; rfl⟩
        | exact hR dX9_isSheet_29 rfl ⟨rfl, by rw [if_neg (fun z => kx_if0 c9 z.1)]; rfl⟩
    · refine kx_iconst (pc := 24) C (v := nI 1) dX9_isSheet_24 (by decide) ?_
      refine kx_goto (pc := 25) C 29 dX9_isSheet_25 (by decide) ?_
      first
        | exact hR dX9_isSheet_29 rfl ⟨rfl, by rw [if_pos ⟨kx_if1 c9, kx_if1 c21⟩]; rfl⟩
        | exact hR dX9_isSheet_29 rfl ⟨rfl, by rw [if_neg (fun z => kx_if0 c21 z.2)]; rfl⟩
        | exact hR dX9_isSheet_29 rfl ⟨rfl, by rw [if_neg (fun z => kx_if0 c9 z.1)]; rfl⟩
set_option maxHeartbeats 4000000 in
set_option maxRecDepth 100000 in
theorem m_X9_found {h : kx_H} {sl sn : Nat → Nat} {it : kx_H} {j : Nat} (l i n : Int32) (hs : st_MS h sl sn it) (hj : j < 4) (hn : 0 ≤ n.toInt) : kx_MI 1 yX9_found cX9_found 5 .int [.ref 127, .int (nI j), .int l, .int i, .int n] h (fun r h1 => h1 = h ∧ r = sp_ref sl sn j l i n.toInt) := by
  refine kx_mkI (own := RX9) (L0 := [some (.ref 127), some (.int (nI j)), some (.int l), some (.int i), some (.int n)]) rfl (by decide +kernel) (Nat.le_of_ble_eq_true rfl) rfl (fun F C hR => ?_)
  have h24 := (hs j hj).2.1
  have hnl := hs.null hj
  have h0 := (hs j hj).1
  refine kx_ald0 (pc := 0) C dX9_found_0 ?_
  refine kx_getr (pc := 1) C fl_X9_19 fd_127_5 dX9_found_1 ?_
  refine kx_ild1 (pc := 4) C dX9_found_4 ?_
  refine kx_iald (pc := 5) C ia_131 (by omega) rfl dX9_found_5 ?_
  refine kx_if_geI (pc := 6) C 14 dX9_found_6 (by decide) (fun c6 => ?_) (fun c6 => ?_)
  · have z0 : ¬ sl j = 0 := fun z => by have := hnl.mpr z; omega
    have z1 : h 131 j = nI (sn j) ∧ h 132 j = nI (sl j - 1) := by
      rcases h0 with ⟨z, q⟩ | ⟨z, z2, q⟩
      · exact absurd z z0
      · exact q
    refine kx_ald0 (pc := 14) C dX9_found_14 ?_
    refine kx_getr (pc := 15) C fl_X9_22 fd_127_6 dX9_found_15 ?_
    refine kx_ild1 (pc := 18) C dX9_found_18 ?_
    refine kx_iald (pc := 19) C ia_132 (by omega) rfl dX9_found_19 ?_
    refine kx_ild2 (pc := 20) C dX9_found_20 ?_
    refine kx_icmp_eq (pc := 21) C 29 dX9_found_21 (by decide) (fun c21 => ?_) (fun c21 => ?_)
    · rw [z1.2] at c21
      refine kx_ild3 (pc := 29) C dX9_found_29 ?_
      refine kx_if_ltI (pc := 30) C 50 dX9_found_30 (by decide) (fun c30 => ?_) (fun c30 => ?_)
      · refine kx_bipush (pc := 50) C (v := -13) dX9_found_50 (by decide) ?_
        refine kx_goto (pc := 52) C 56 dX9_found_52 (by decide) ?_
        first
          | exact hR dX9_found_56 rfl ⟨rfl, by rw [sp_ref, if_pos z0]⟩
          | exact hR dX9_found_56 rfl ⟨rfl, by rw [sp_ref, if_neg z0, if_pos c21]⟩
          | exact hR dX9_found_56 rfl ⟨rfl, by rw [sp_ref, if_neg z0, if_neg (fun z => z c21), if_neg (by omega)]⟩
          | exact hR dX9_found_56 rfl ⟨rfl, by rw [sp_ref, if_neg z0, if_neg (fun z => z c21), if_pos (by omega)]; rfl⟩
      · refine kx_ild3 (pc := 33) C dX9_found_33 ?_
        refine kx_i2l (pc := 34) C dX9_found_34 ?_
        refine kx_ild4 (pc := 35) C dX9_found_35 ?_
        refine kx_i2l (pc := 37) C dX9_found_37 ?_
        refine kx_ladd (pc := 38) C dX9_found_38 ?_
        refine kx_ald0 (pc := 39) C dX9_found_39 ?_
        refine kx_getr (pc := 40) C fl_X9_19 fd_127_5 dX9_found_40 ?_
        refine kx_ild1 (pc := 43) C dX9_found_43 ?_
        refine kx_iald (pc := 44) C ia_131 (by omega) rfl dX9_found_44 ?_
        refine kx_i2l (pc := 45) C dX9_found_45 ?_
        refine kx_lcmp (pc := 46) C dX9_found_46 ?_
        refine kx_if_le (pc := 47) C 55 dX9_found_47 (by decide) (fun c47 => ?_) (fun c47 => ?_)
        · rw [lg_cmp_le, Int64.le_iff_toInt_le, lg_i2l_add, kx_L, z1.1, kx_T (by omega)] at c47
          refine kx_iconst (pc := 55) C (v := nI 0) dX9_found_55 (by decide) ?_
          first
            | exact hR dX9_found_56 rfl ⟨rfl, by rw [sp_ref, if_pos z0]⟩
            | exact hR dX9_found_56 rfl ⟨rfl, by rw [sp_ref, if_neg z0, if_pos c21]⟩
            | exact hR dX9_found_56 rfl ⟨rfl, by rw [sp_ref, if_neg z0, if_neg (fun z => z c21), if_neg (by omega)]⟩
            | exact hR dX9_found_56 rfl ⟨rfl, by rw [sp_ref, if_neg z0, if_neg (fun z => z c21), if_pos (by omega)]; rfl⟩
        · rw [lg_cmp_le, Int64.le_iff_toInt_le, lg_i2l_add, kx_L, z1.1, kx_T (by omega)] at c47
          refine kx_bipush (pc := 50) C (v := -13) dX9_found_50 (by decide) ?_
          refine kx_goto (pc := 52) C 56 dX9_found_52 (by decide) ?_
          first
            | exact hR dX9_found_56 rfl ⟨rfl, by rw [sp_ref, if_pos z0]⟩
            | exact hR dX9_found_56 rfl ⟨rfl, by rw [sp_ref, if_neg z0, if_pos c21]⟩
            | exact hR dX9_found_56 rfl ⟨rfl, by rw [sp_ref, if_neg z0, if_neg (fun z => z c21), if_neg (by omega)]⟩
            | exact hR dX9_found_56 rfl ⟨rfl, by rw [sp_ref, if_neg z0, if_neg (fun z => z c21), if_pos (by omega)]; rfl⟩
    · rw [z1.2] at c21
      refine kx_bipush (pc := 24) C (v := -12) dX9_found_24 (by decide) ?_
      refine kx_goto (pc := 26) C 56 dX9_found_26 (by decide) ?_
      first
        | exact hR dX9_found_56 rfl ⟨rfl, by rw [sp_ref, if_pos z0]⟩
        | exact hR dX9_found_56 rfl ⟨rfl, by rw [sp_ref, if_neg z0, if_pos c21]⟩
        | exact hR dX9_found_56 rfl ⟨rfl, by rw [sp_ref, if_neg z0, if_neg (fun z => z c21), if_neg (by omega)]⟩
        | exact hR dX9_found_56 rfl ⟨rfl, by rw [sp_ref, if_neg z0, if_neg (fun z => z c21), if_pos (by omega)]; rfl⟩
  · have z0 : sl j = 0 := hnl.mp (by omega)
    refine kx_bipush (pc := 9) C (v := -11) dX9_found_9 (by decide) ?_
    refine kx_goto (pc := 11) C 56 dX9_found_11 (by decide) ?_
    first
      | exact hR dX9_found_56 rfl ⟨rfl, by rw [sp_ref, if_pos z0]⟩
      | exact hR dX9_found_56 rfl ⟨rfl, by rw [sp_ref, if_neg z0, if_pos c21]⟩
      | exact hR dX9_found_56 rfl ⟨rfl, by rw [sp_ref, if_neg z0, if_neg (fun z => z c21), if_neg (by omega)]⟩
      | exact hR dX9_found_56 rfl ⟨rfl, by rw [sp_ref, if_neg z0, if_neg (fun z => z c21), if_pos (by omega)]; rfl⟩
set_option maxHeartbeats 4000000 in
set_option maxRecDepth 100000 in
theorem m_X9_barred {h : kx_H} {sl sn : Nat → Nat} {it : kx_H} {j n most : Nat} (l v : Int32) (hs : st_MS h sl sn it) (hj : j < 4) (hn : n ≤ 16) (hm : most ≤ 99) : kx_MI 2 yX9_barred cX9_barred 8 .int [.ref 127, .int (nI j), .int l, .int v, .int (nI n), .int (nI most)] h (fun r h1 => h1 = h ∧ r = sp_take sl sn it j l v n most) := by
  refine kx_mkI (own := RX9) (L0 := [some (.ref 127), some (.int (nI j)), some (.int l), some (.int v), some (.int (nI n)), some (.int (nI most)), none, none]) rfl (by decide +kernel) (Nat.le_of_ble_eq_true rfl) rfl (fun F C hR => ?_)
  have fin : ∀ (w : Int32) (k : Nat), ¬ w = 0 → w = sp_take sl sn it j l v n most → k < 2 ^ 31 → F 14 [some (.ref 127), some (.int (nI j)), some (.int l), some (.int v), some (.int (nI n)), some (.int (nI most)), some (.int w), some (.int (nI k))] [] h := by
    intro w k hw hr hk
    refine kx_ild7 (pc := 14) C dX9_barred_14 ?_
    refine kx_ild4 (pc := 16) C dX9_barred_16 ?_
    refine kx_icmp_geN (pc := 18) C 65 (by omega) (by omega) dX9_barred_18 (by decide) (fun c18 => ?_) (fun c18 => ?_)
    · refine kx_ild6 (pc := 65) C dX9_barred_65 ?_
      exact hR dX9_barred_67 rfl ⟨rfl, hr⟩
    · refine kx_ild6 (pc := 21) C dX9_barred_21 ?_
      refine kx_if_ne (pc := 23) C 65 dX9_barred_23 (by decide) (fun c23 => ?_) (fun c23 => ?_)
      · refine kx_ild6 (pc := 65) C dX9_barred_65 ?_
        exact hR dX9_barred_67 rfl ⟨rfl, hr⟩
      · exact absurd c23 hw
  have loop : ∀ i : Nat, v = nI i → i < 2 ^ 31 → i + n ≤ 24 → sp_ref sl sn j l v n = 0 → ∀ (q k : Nat), n - k = q → k ≤ n → (∀ x, x < k → decide (0 ≤ (it j (i + x)).toInt ∧ (it j (i + x)).toInt ≤ (most : Int)) = true) → F 14 [some (.ref 127), some (.int (nI j)), some (.int l), some (.int v), some (.int (nI n)), some (.int (nI most)), some (.int 0), some (.int (nI k))] [] h := by
    intro i e hi2 hin hrf q
    subst e
    induction q with
    | zero =>
      intro k hq hk hb
      refine kx_ild7 (pc := 14) C dX9_barred_14 ?_
      refine kx_ild4 (pc := 16) C dX9_barred_16 ?_
      refine kx_icmp_geN (pc := 18) C 65 (by omega) (by omega) dX9_barred_18 (by decide) (fun c18 => ?_) (fun c18 => ?_)
      · refine kx_ild6 (pc := 65) C dX9_barred_65 ?_
        exact hR dX9_barred_67 rfl ⟨rfl, by rw [sp_take, if_pos hrf, kx_n, kx_n_nI hi2, if_pos (show sp_okI it j i n most = true from sp_all_iff.mpr (fun x hx => hb x (by omega)))]⟩
      · omega
    | succ q ih =>
      intro k hq hk hb
      have hv : h 133 (24 * j + i + k) = it j (i + k) := hs.at hj (by omega)
      refine kx_ild7 (pc := 14) C dX9_barred_14 ?_
      refine kx_ild4 (pc := 16) C dX9_barred_16 ?_
      refine kx_icmp_geN (pc := 18) C 65 (by omega) (by omega) dX9_barred_18 (by decide) (fun c18 => ?_) (fun c18 => ?_)
      · omega
      · refine kx_ild6 (pc := 21) C dX9_barred_21 ?_
        refine kx_if_ne (pc := 23) C 65 dX9_barred_23 (by decide) (fun c23 => ?_) (fun c23 => ?_)
        · exact absurd rfl c23
        · refine kx_ald0 (pc := 26) C dX9_barred_26 ?_
          refine kx_getr (pc := 27) C fl_X9_25 fd_127_7 dX9_barred_27 ?_
          refine kx_bipush (pc := 30) C (v := nI 24) dX9_barred_30 (by decide) ?_
          refine kx_ild1 (pc := 32) C dX9_barred_32 ?_
          first | refine kx_imulN (pc := 33) C dX9_barred_33 ?_ | refine kx_imul (pc := 33) C dX9_barred_33 ?_
          refine kx_ild3 (pc := 34) C dX9_barred_34 ?_
          first | refine kx_iaddN (pc := 35) C dX9_barred_35 ?_ | refine kx_iadd (pc := 35) C dX9_barred_35 ?_
          refine kx_ild7 (pc := 36) C dX9_barred_36 ?_
          first | refine kx_iaddN (pc := 38) C dX9_barred_38 ?_ | refine kx_iadd (pc := 38) C dX9_barred_38 ?_
          refine kx_iald (pc := 39) C ia_133 (by omega) hv dX9_barred_39 ?_
          refine kx_i2l (pc := 40) C dX9_barred_40 ?_
          refine kx_lconst (pc := 41) C (v := 0) dX9_barred_41 (by decide) ?_
          refine kx_ild5 (pc := 42) C dX9_barred_42 ?_
          refine kx_i2l (pc := 44) C dX9_barred_44 ?_
          refine kx_callSI3 (pc := 45) C cs_X9_52 (m_X9_in (p := 0) (q := _) (r := (most : Int)) (by rfl) (kx_L _) (by rw [kx_L, kx_T (by omega)])) (by decide) dX9_barred_45 (Nat.le_of_ble_eq_true rfl) (fun r45 h45 q45 => ?_)
          obtain ⟨z45, rfl⟩ := q45
          have z45 := z45.symm
          subst z45
          refine kx_if_eq (pc := 48) C 55 dX9_barred_48 (by decide) (fun c48 => ?_) (fun c48 => ?_)
          · refine kx_bipush (pc := 55) C (v := -2) dX9_barred_55 (by decide) ?_
            refine kx_ist6 (pc := 57) C dX9_barred_57 (by decide) rfl ?_
            first | refine kx_inc7 (pc := 59) C (v := nI (_ + 1)) dX9_barred_59 (by decide) rfl (nI_1 _) ?_ | refine kx_inc7 (pc := 59) C dX9_barred_59 (by decide) rfl rfl ?_
            refine kx_goto (pc := 62) C 14 dX9_barred_62 (by decide) ?_
            first
              | (have c48 := kx_if1 c48
                 refine ih (k + 1) (by omega) (by omega) (fun x hx => ?_)
                 rcases Nat.lt_or_ge x k with y | y
                 · exact hb x y
                 · rw [show x = k by omega]; exact decide_eq_true c48)
              | (have c48 := kx_if0 c48
                 refine fin _ _ (by decide) ?_ (by omega)
                 rw [sp_take, if_pos hrf, kx_n, kx_n_nI hi2, if_neg (fun z => c48 (by have := sp_all_iff.mp z k (by omega); simpa using this))])
          · refine kx_iconst (pc := 51) C (v := nI 0) dX9_barred_51 (by decide) ?_
            refine kx_goto (pc := 52) C 57 dX9_barred_52 (by decide) ?_
            refine kx_ist6 (pc := 57) C dX9_barred_57 (by decide) rfl ?_
            first | refine kx_inc7 (pc := 59) C (v := nI (_ + 1)) dX9_barred_59 (by decide) rfl (nI_1 _) ?_ | refine kx_inc7 (pc := 59) C dX9_barred_59 (by decide) rfl rfl ?_
            refine kx_goto (pc := 62) C 14 dX9_barred_62 (by decide) ?_
            first
              | (have c48 := kx_if1 c48
                 refine ih (k + 1) (by omega) (by omega) (fun x hx => ?_)
                 rcases Nat.lt_or_ge x k with y | y
                 · exact hb x y
                 · rw [show x = k by omega]; exact decide_eq_true c48)
              | (have c48 := kx_if0 c48
                 refine fin _ _ (by decide) ?_ (by omega)
                 rw [sp_take, if_pos hrf, kx_n, kx_n_nI hi2, if_neg (fun z => c48 (by have := sp_all_iff.mp z k (by omega); simpa using this))])
  refine kx_ald0 (pc := 0) C dX9_barred_0 ?_
  refine kx_ild1 (pc := 1) C dX9_barred_1 ?_
  refine kx_ild2 (pc := 2) C dX9_barred_2 ?_
  refine kx_ild3 (pc := 3) C dX9_barred_3 ?_
  refine kx_ild4 (pc := 4) C dX9_barred_4 ?_
  refine kx_callVI4 (pc := 6) C cs_X9_133 ob_127 (m_X9_found _ _ _ hs hj (by rw [kx_T (by omega)]; omega)) (by decide) dX9_barred_6 (Nat.le_of_ble_eq_true rfl) (fun r6 h6 q6 => ?_)
  obtain ⟨z6, rfl⟩ := q6
  have z6 := z6.symm
  subst z6
  rw [kx_T (show n < 2 ^ 31 by omega)]
  refine kx_ist6 (pc := 9) C dX9_barred_9 (by decide) rfl ?_
  refine kx_iconst (pc := 11) C (v := nI 0) dX9_barred_11 (by decide) ?_
  refine kx_ist7 (pc := 12) C dX9_barred_12 (by decide) rfl ?_
  by_cases rz : sp_ref sl sn j l v n = 0
  · have rf := sp_ref_0 rz
    obtain ⟨i, rfl, hi, hi2⟩ := kx_nat rf.2.2.1
    rw [rz]
    exact loop i rfl hi2 (by have := rf.2.2.2.2; have := (hs j hj).2.1; omega) rz n 0 (by omega) (by omega) (fun x hx => absurd hx (by omega))
  · exact fin _ 0 rz (by rw [sp_take, if_neg rz]) (by omega)
set_option maxHeartbeats 4000000 in
set_option maxRecDepth 100000 in
theorem m_X9_sheet {h : kx_H} {sl sn : Nat → Nat} {it : kx_H} (v l n : Int32) (hs : st_MS h sl sn it) : kx_MI 3 yX9_sheet cX9_sheet 5 .int [.ref 127, .int v, .int l, .int n] h (fun r h1 => r = sp_sheet v l n ∧ (¬ sp_sheetC v l n → h1 = h) ∧ (sp_sheetC v l n → st_MS h1 (up sl (kx_n v) (kx_n l + 1)) (up sn (kx_n v) (kx_n n)) (upI it (kx_n v) (fun _ => 0))) ∧ ∀ d k, d ≠ 131 → d ≠ 132 → d ≠ 133 → h1 d k = h d k) := by
  refine kx_mkI (own := RX9) (L0 := [some (.ref 127), some (.int v), some (.int l), some (.int n), none]) rfl (by decide +kernel) (Nat.le_of_ble_eq_true rfl) rfl (fun F C hR => ?_)
  have loop : ∀ (j i m : Nat), v = nI j → l = nI i → n = nI m → j < 4 → i < 3 → m ≤ 24 → sp_sheetC v l n → ∀ (q k : Nat) (g : kx_H), 24 - k = q → k ≤ 24 → (g 131 j = nI m) → (g 132 j = nI i) → (∀ x, x ≠ j → g 131 x = h 131 x ∧ g 132 x = h 132 x) → (∀ p, p < k → g 133 (24 * j + p) = 0) → (∀ p, p < 24 * j ∨ 24 * j + k ≤ p → g 133 p = h 133 p) → (∀ d x, d ≠ 131 → d ≠ 132 → d ≠ 133 → g d x = h d x) → F 40 [some (.ref 127), some (.int (nI j)), some (.int (nI i)), some (.int (nI m)), some (.int (nI k))] [] g := by
    intro j i m e1 e2 e3 hj hi hm hC q
    subst e1; subst e2; subst e3
    induction q with
    | zero =>
      intro k g hq hk g1 g2 g3 g4 g5 g6
      refine kx_ild4 (pc := 40) C dX9_sheet_40 ?_
      refine kx_bipush (pc := 42) C (v := nI 24) dX9_sheet_42 (by decide) ?_
      refine kx_icmp_geN (pc := 44) C 66 (by omega) (by omega) dX9_sheet_44 (by decide) (fun c44 => ?_) (fun c44 => ?_)
      · refine kx_ild3 (pc := 66) C dX9_sheet_66 ?_
        refine hR dX9_sheet_67 rfl ⟨by rw [sp_sheet, if_pos hC.1, if_neg (by have := hC.2; omega)], fun z => absurd hC z, fun _ => ?_, g6⟩
        rw [kx_n, kx_n, kx_n, kx_n_nI (by omega), kx_n_nI (by omega), kx_n_nI (by omega)]
        exact hs.one hj (Or.inr ⟨by omega, by omega, g1, g2⟩) hm (fun p hp => g4 p (by omega)) g3 (fun p hp => g5 p (by omega))
      · omega
    | succ q ih =>
      intro k g hq hk g1 g2 g3 g4 g5 g6
      refine kx_ild4 (pc := 40) C dX9_sheet_40 ?_
      refine kx_bipush (pc := 42) C (v := nI 24) dX9_sheet_42 (by decide) ?_
      refine kx_icmp_geN (pc := 44) C 66 (by omega) (by omega) dX9_sheet_44 (by decide) (fun c44 => ?_) (fun c44 => ?_)
      · omega
      · refine kx_ald0 (pc := 47) C dX9_sheet_47 ?_
        refine kx_getr (pc := 48) C fl_X9_25 fd_127_7 dX9_sheet_48 ?_
        refine kx_bipush (pc := 51) C (v := nI 24) dX9_sheet_51 (by decide) ?_
        refine kx_ild1 (pc := 53) C dX9_sheet_53 ?_
        first | refine kx_imulN (pc := 54) C dX9_sheet_54 ?_ | refine kx_imul (pc := 54) C dX9_sheet_54 ?_
        refine kx_ild4 (pc := 55) C dX9_sheet_55 ?_
        first | refine kx_iaddN (pc := 57) C dX9_sheet_57 ?_ | refine kx_iadd (pc := 57) C dX9_sheet_57 ?_
        refine kx_iconst (pc := 58) C (v := nI 0) dX9_sheet_58 (by decide) ?_
        refine kx_iast (pc := 59) C ia_133 (by omega) dX9_sheet_59 ?_
        first | refine kx_inc4 (pc := 60) C (v := nI (_ + 1)) dX9_sheet_60 (by decide) rfl (nI_1 _) ?_ | refine kx_inc4 (pc := 60) C dX9_sheet_60 (by decide) rfl rfl ?_
        refine kx_goto (pc := 63) C 40 dX9_sheet_63 (by decide) ?_
        refine ih (k + 1) _ (by omega) (by omega) (by rw [kx_up, if_neg (by omega)]; exact g1) (by rw [kx_up, if_neg (by omega)]; exact g2) (fun x hx => by rw [kx_up, if_neg (by omega), kx_up, if_neg (by omega)]; exact g3 x hx) (fun p hp => ?_) (fun p hp => by rw [kx_up, if_neg (by omega)]; exact g5 p (by omega)) (fun d x h1 h2 h3 => by rw [kx_up, if_neg (by omega)]; exact g6 d x h1 h2 h3)
        by_cases z : p = k
        · rw [z, kx_up, if_pos ⟨rfl, rfl⟩]; rfl
        · rw [kx_up, if_neg (by omega)]; exact g4 p (by omega)
  refine kx_ild1 (pc := 0) C dX9_sheet_0 ?_
  refine kx_ild2 (pc := 1) C dX9_sheet_1 ?_
  refine kx_callSI2 (pc := 2) C cs_X9_143 (m_X9_isSheet _ _) (by decide) dX9_sheet_2 (Nat.le_of_ble_eq_true rfl) (fun r2 h2 q2 => ?_)
  obtain ⟨z2, rfl⟩ := q2
  have z2 := z2.symm
  subst z2
  refine kx_if_eq (pc := 5) C 14 dX9_sheet_5 (by decide) (fun c5 => ?_) (fun c5 => ?_)
  · refine kx_iconst (pc := 14) C (v := -1) dX9_sheet_14 (by decide) ?_
    have nc : ¬ (((0 ≤ v.toInt ∧ v.toInt ≤ 3) ∧ 0 ≤ l.toInt ∧ l.toInt ≤ 2) ∧ n.toInt ≤ 24) := fun z => by
      first
        | (rw [show (nI 24).toInt = 24 from rfl] at c11; omega)
        | exact kx_if0 c5 z.1
    exact hR dX9_sheet_15 rfl ⟨by rw [sp_sheet, if_neg nc], fun _ => rfl, fun z => absurd z.1 nc, fun d k _ _ _ => rfl⟩
  · refine kx_ild3 (pc := 8) C dX9_sheet_8 ?_
    refine kx_bipush (pc := 9) C (v := nI 24) dX9_sheet_9 (by decide) ?_
    refine kx_icmp_leI (pc := 11) C 16 dX9_sheet_11 (by decide) (fun c11 => ?_) (fun c11 => ?_)
    · have c5 := kx_if1 c5
      rw [show (nI 24).toInt = 24 from rfl] at c11
      refine kx_ild3 (pc := 16) C dX9_sheet_16 ?_
      refine kx_if_geI (pc := 17) C 23 dX9_sheet_17 (by decide) (fun c17 => ?_) (fun c17 => ?_)
      · obtain ⟨j, rfl, hj, hj2⟩ := kx_nat c5.1.1
        obtain ⟨i, rfl, hi, hi2⟩ := kx_nat c5.2.1
        obtain ⟨m, rfl, hm, hm2⟩ := kx_nat c17
        refine kx_ald0 (pc := 23) C dX9_sheet_23 ?_
        refine kx_getr (pc := 24) C fl_X9_19 fd_127_5 dX9_sheet_24 ?_
        refine kx_ild1 (pc := 27) C dX9_sheet_27 ?_
        refine kx_ild3 (pc := 28) C dX9_sheet_28 ?_
        refine kx_iast (pc := 29) C ia_131 (by omega) dX9_sheet_29 ?_
        refine kx_ald0 (pc := 30) C dX9_sheet_30 ?_
        refine kx_getr (pc := 31) C fl_X9_22 fd_127_6 dX9_sheet_31 ?_
        refine kx_ild1 (pc := 34) C dX9_sheet_34 ?_
        refine kx_ild2 (pc := 35) C dX9_sheet_35 ?_
        refine kx_iast (pc := 36) C ia_132 (by omega) dX9_sheet_36 ?_
        refine kx_iconst (pc := 37) C (v := nI 0) dX9_sheet_37 (by decide) ?_
        refine kx_ist4 (pc := 38) C dX9_sheet_38 (by decide) rfl ?_
        exact loop j i m rfl rfl rfl (by omega) (by omega) (by omega) ⟨⟨c5, c11⟩, c17⟩ 24 0 _ (by omega) (by omega) (by rw [kx_up, if_neg (by omega), kx_up, if_pos ⟨rfl, rfl⟩]) (by rw [kx_up, if_pos ⟨rfl, rfl⟩]) (fun x hx => by rw [kx_up, if_neg (by omega), kx_up, if_neg (by omega), kx_up, if_neg (by omega), kx_up, if_neg (by omega)]; exact ⟨rfl, rfl⟩) (fun p hp => absurd hp (by omega)) (fun p hp => by rw [kx_up, if_neg (by omega), kx_up, if_neg (by omega)]) (fun d x h1 h2 h3 => by rw [kx_up, if_neg (by omega), kx_up, if_neg (by omega)])
      · refine kx_bipush (pc := 20) C (v := -14) dX9_sheet_20 (by decide) ?_
        exact hR dX9_sheet_22 rfl ⟨by rw [sp_sheet, if_pos ⟨c5, c11⟩, if_pos (by omega)], fun _ => rfl, fun z => absurd z.2 (by omega), fun d k _ _ _ => rfl⟩
    · refine kx_iconst (pc := 14) C (v := -1) dX9_sheet_14 (by decide) ?_
      have nc : ¬ (((0 ≤ v.toInt ∧ v.toInt ≤ 3) ∧ 0 ≤ l.toInt ∧ l.toInt ≤ 2) ∧ n.toInt ≤ 24) := fun z => by
        first
          | (rw [show (nI 24).toInt = 24 from rfl] at c11; omega)
          | exact kx_if0 c5 z.1
      exact hR dX9_sheet_15 rfl ⟨by rw [sp_sheet, if_neg nc], fun _ => rfl, fun z => absurd z.1 nc, fun d k _ _ _ => rfl⟩
set_option maxHeartbeats 4000000 in
set_option maxRecDepth 100000 in
theorem m_X9_drop {h : kx_H} {sl sn : Nat → Nat} {it : kx_H} (v : Int32) (hs : st_MS h sl sn it) : kx_MI 2 yX9_drop cX9_drop 3 .int [.ref 127, .int v] h (fun r h1 => r = sp_drop sl sn v ∧ st_MS h1 (sp_dropL sl v) sn it ∧ ∀ d k, d ≠ 131 → d ≠ 132 → d ≠ 133 → h1 d k = h d k) := by
  refine kx_mkI (own := RX9) (L0 := [some (.ref 127), some (.int v), none]) rfl (by decide +kernel) (Nat.le_of_ble_eq_true rfl) rfl (fun F C hR => ?_)
  refine kx_ild1 (pc := 0) C dX9_drop_0 ?_
  refine kx_i2l (pc := 1) C dX9_drop_1 ?_
  refine kx_lconst (pc := 2) C (v := 0) dX9_drop_2 (by decide) ?_
  refine kx_ldc2 (pc := 3) C dX9_drop_3 cn_X9_82 ?_
  refine kx_callSI3 (pc := 6) C cs_X9_52 (m_X9_in (p := 0) (q := _) (r := 3) (by rfl) (kx_L _) (by rfl)) (by decide) dX9_drop_6 (Nat.le_of_ble_eq_true rfl) (fun r6 h6 q6 => ?_)
  obtain ⟨z6, rfl⟩ := q6
  have z6 := z6.symm
  subst z6
  refine kx_if_ne (pc := 9) C 14 dX9_drop_9 (by decide) (fun c9 => ?_) (fun c9 => ?_)
  · have c9 := kx_if1 c9
    obtain ⟨j, rfl, hj, hj2⟩ := kx_nat c9.1
    have hnl := hs.null (j := j) (by omega)
    obtain ⟨s1, s3, s4⟩ := hs j (by omega)
    refine kx_ald0 (pc := 14) C dX9_drop_14 ?_
    refine kx_getr (pc := 15) C fl_X9_19 fd_127_5 dX9_drop_15 ?_
    refine kx_ild1 (pc := 18) C dX9_drop_18 ?_
    refine kx_iald (pc := 19) C ia_131 (by omega) rfl dX9_drop_19 ?_
    refine kx_if_geI (pc := 20) C 26 dX9_drop_20 (by decide) (fun c20 => ?_) (fun c20 => ?_)
    · refine kx_ald0 (pc := 26) C dX9_drop_26 ?_
      refine kx_getr (pc := 27) C fl_X9_19 fd_127_5 dX9_drop_27 ?_
      refine kx_ild1 (pc := 30) C dX9_drop_30 ?_
      refine kx_iald (pc := 31) C ia_131 (by omega) rfl dX9_drop_31 ?_
      refine kx_ist2 (pc := 32) C dX9_drop_32 (by decide) rfl ?_
      refine kx_ald0 (pc := 33) C dX9_drop_33 ?_
      refine kx_getr (pc := 34) C fl_X9_19 fd_127_5 dX9_drop_34 ?_
      refine kx_ild1 (pc := 37) C dX9_drop_37 ?_
      refine kx_iconst (pc := 38) C (v := -1) dX9_drop_38 (by decide) ?_
      refine kx_iast (pc := 39) C ia_131 (by omega) dX9_drop_39 ?_
      refine kx_ild2 (pc := 40) C dX9_drop_40 ?_
      have z0 : ¬ sl j = 0 := fun z => by have := hnl.mpr z; omega
      have z1 : h 131 j = nI (sn j) := by
        rcases s1 with ⟨z, q⟩ | ⟨z, z2, q, -⟩
        · exact absurd z z0
        · exact q
      refine hR dX9_drop_41 rfl ⟨by rw [sp_drop, if_pos c9, kx_n, kx_n_nI hj2, if_neg z0]; exact z1, ?_, fun d k h1 h2 h3 => by rw [kx_up, if_neg (by omega)]⟩
      rw [sp_dropL, if_pos c9, kx_n, kx_n_nI hj2]
      have := hs.one (g := kx_up h 131 j (-1)) (x := 0) (y := sn j) (f := it j) (show j < 4 by omega) (Or.inl ⟨rfl, by simp [kx_up]⟩) s3 (fun k hk => by rw [kx_up, if_neg (by omega)]; exact s4 k hk) (fun i hi => by rw [kx_up, if_neg (by omega), kx_up, if_neg (by omega)]; exact ⟨rfl, rfl⟩) (fun p hp => by rw [kx_up, if_neg (by omega)])
      rw [up_id, upI_id] at this
      exact this
    · refine kx_bipush (pc := 23) C (v := -11) dX9_drop_23 (by decide) ?_
      have z0 : sl j = 0 := hnl.mp (by omega)
      refine hR dX9_drop_25 rfl ⟨by rw [sp_drop, if_pos c9, kx_n, kx_n_nI hj2, if_pos z0], ?_, fun d k _ _ _ => rfl⟩
      rw [sp_dropL, if_pos c9, kx_n, kx_n_nI hj2]
      have e := up_id (a := sl) (k := j)
      rw [z0] at e
      rw [e]
      exact hs
  · refine kx_iconst (pc := 12) C (v := -1) dX9_drop_12 (by decide) ?_
    exact hR dX9_drop_13 rfl ⟨by rw [sp_drop, if_neg (kx_if0 c9)], by rw [sp_dropL, if_neg (kx_if0 c9)]; exact hs, fun d k _ _ _ => rfl⟩
set_option maxHeartbeats 4000000 in
set_option maxRecDepth 100000 in
theorem m_X9_item {h : kx_H} {sl sn : Nat → Nat} {it : kx_H} (v l i : Int32) (x : Int64) (hs : st_MS h sl sn it) : kx_MI 3 yX9_item cX9_item 7 .int [.ref 127, .int v, .int l, .int i, .long x] h (fun r h1 => r = sp_item sl sn v l i ∧ st_MS h1 sl sn (sp_itemI sl sn it v l i x) ∧ ∀ d k, d ≠ 131 → d ≠ 132 → d ≠ 133 → h1 d k = h d k) := by
  refine kx_mkI (own := RX9) (L0 := [some (.ref 127), some (.int v), some (.int l), some (.int i), some (.long x), none, none]) rfl (by decide +kernel) (Nat.le_of_ble_eq_true rfl) rfl (fun F C hR => ?_)
  refine kx_ild1 (pc := 0) C dX9_item_0 ?_
  refine kx_ild2 (pc := 1) C dX9_item_1 ?_
  refine kx_callSI2 (pc := 2) C cs_X9_143 (m_X9_isSheet _ _) (by decide) dX9_item_2 (Nat.le_of_ble_eq_true rfl) (fun r2 h2 q2 => ?_)
  obtain ⟨z2, rfl⟩ := q2
  have z2 := z2.symm
  subst z2
  refine kx_if_ne (pc := 5) C 10 dX9_item_5 (by decide) (fun c5 => ?_) (fun c5 => ?_)
  · have c5 := kx_if1 c5
    obtain ⟨j, rfl, hj, hj2⟩ := kx_nat c5.1.1
    obtain ⟨s1, s3, s4⟩ := hs j (by omega)
    refine kx_ald0 (pc := 10) C dX9_item_10 ?_
    refine kx_ild1 (pc := 11) C dX9_item_11 ?_
    refine kx_ild2 (pc := 12) C dX9_item_12 ?_
    refine kx_ild3 (pc := 13) C dX9_item_13 ?_
    refine kx_iconst (pc := 14) C (v := nI 1) dX9_item_14 (by decide) ?_
    refine kx_callVI4 (pc := 15) C cs_X9_133 ob_127 (m_X9_found _ _ _ hs (by omega) (by decide)) (by decide) dX9_item_15 (Nat.le_of_ble_eq_true rfl) (fun r15 h15 q15 => ?_)
    obtain ⟨z15, rfl⟩ := q15
    have z15 := z15.symm
    subst z15
    rw [show (nI 1).toInt = 1 from rfl]
    refine kx_ist6 (pc := 18) C dX9_item_18 (by decide) rfl ?_
    refine kx_ild6 (pc := 20) C dX9_item_20 ?_
    refine kx_if_geI (pc := 22) C 28 dX9_item_22 (by decide) (fun c22 => ?_) (fun c22 => ?_)
    · have rz : sp_ref sl sn j l i 1 = 0 := by
        revert c22
        unfold sp_ref
        split
        · intro z; exact absurd z (by decide)
        · split
          · intro z; exact absurd z (by decide)
          · split
            · intro _; rfl
            · intro z; exact absurd z (by decide)
      have rf := sp_ref_0 rz
      obtain ⟨m, rfl, hm, hm2⟩ := kx_nat rf.2.2.1
      have hm24 : m < 24 := by have := rf.2.2.2.2; omega
      have one : ∀ w, w = sp_cut l x → 1 = sp_item sl sn (nI j) l (nI m) ∧ st_MS (kx_up h 133 (24 * j + m) w) sl sn (sp_itemI sl sn it (nI j) l (nI m) x) ∧ ∀ d k, d ≠ 131 → d ≠ 132 → d ≠ 133 → kx_up h 133 (24 * j + m) w d k = h d k := by
        intro w ew
        refine ⟨by rw [sp_item, if_pos c5, kx_n, kx_n_nI hj2, if_pos rz], ?_, fun d k h1 h2 h3 => by rw [kx_up, if_neg (by omega)]⟩
        rw [sp_itemI, kx_n, kx_n, kx_n_nI hj2, if_pos ⟨c5, rz⟩, kx_n_nI hm2, ew]
        have := hs.one (g := kx_up h 133 (24 * j + m) (sp_cut l x)) (x := sl j) (y := sn j) (f := fun k => if k = m then sp_cut l x else it j k) (show j < 4 by omega) (by rw [kx_up, if_neg (by omega), kx_up, if_neg (by omega)]; exact s1) s3 (fun k hk => by
          by_cases z : k = m
          · rw [kx_up, if_pos ⟨rfl, by omega⟩, if_pos z]
          · rw [kx_up, if_neg (by omega), if_neg z]; exact s4 k hk) (fun i hi => by rw [kx_up, if_neg (by omega), kx_up, if_neg (by omega)]; exact ⟨rfl, rfl⟩) (fun p hp => by rw [kx_up, if_neg (by omega)])
        rw [up_id, up_id] at this
        exact this
      refine kx_ald0 (pc := 28) C dX9_item_28 ?_
      refine kx_getr (pc := 29) C fl_X9_25 fd_127_7 dX9_item_29 ?_
      refine kx_bipush (pc := 32) C (v := nI 24) dX9_item_32 (by decide) ?_
      refine kx_ild1 (pc := 34) C dX9_item_34 ?_
      first | refine kx_imulN (pc := 35) C dX9_item_35 ?_ | refine kx_imul (pc := 35) C dX9_item_35 ?_
      refine kx_ild3 (pc := 36) C dX9_item_36 ?_
      first | refine kx_iaddN (pc := 37) C dX9_item_37 ?_ | refine kx_iadd (pc := 37) C dX9_item_37 ?_
      refine kx_ild2 (pc := 38) C dX9_item_38 ?_
      refine kx_if_ne (pc := 39) C 49 dX9_item_39 (by decide) (fun c39 => ?_) (fun c39 => ?_)
      · refine kx_ild2 (pc := 49) C dX9_item_49 ?_
        refine kx_iconst (pc := 50) C (v := nI 1) dX9_item_50 (by decide) ?_
        refine kx_icmp_ne (pc := 51) C 61 dX9_item_51 (by decide) (fun c51 => ?_) (fun c51 => ?_)
        · refine kx_lld4 (pc := 61) C dX9_item_61 ?_
          refine kx_l2i (pc := 63) C dX9_item_63 ?_
          refine kx_iast (pc := 64) C ia_133 (by omega) dX9_item_64 ?_
          refine kx_iconst (pc := 65) C (v := nI 1) dX9_item_65 (by decide) ?_
          first
            | exact hR dX9_item_66 rfl (one _ (by rw [sp_cut, if_pos c39]))
            | exact hR dX9_item_66 rfl (one _ (by rw [sp_cut, if_neg c39, if_pos c51]))
            | exact hR dX9_item_66 rfl (one _ (by rw [sp_cut, if_neg c39, if_neg c51]))
        · refine kx_lld4 (pc := 54) C dX9_item_54 ?_
          refine kx_l2i (pc := 56) C dX9_item_56 ?_
          refine kx_i2s (pc := 57) C dX9_item_57 ?_
          refine kx_goto (pc := 58) C 64 dX9_item_58 (by decide) ?_
          refine kx_iast (pc := 64) C ia_133 (by omega) dX9_item_64 ?_
          refine kx_iconst (pc := 65) C (v := nI 1) dX9_item_65 (by decide) ?_
          first
            | exact hR dX9_item_66 rfl (one _ (by rw [sp_cut, if_pos c39]))
            | exact hR dX9_item_66 rfl (one _ (by rw [sp_cut, if_neg c39, if_pos c51]))
            | exact hR dX9_item_66 rfl (one _ (by rw [sp_cut, if_neg c39, if_neg c51]))
      · refine kx_lld4 (pc := 42) C dX9_item_42 ?_
        refine kx_l2i (pc := 44) C dX9_item_44 ?_
        refine kx_i2b (pc := 45) C dX9_item_45 ?_
        refine kx_goto (pc := 46) C 64 dX9_item_46 (by decide) ?_
        refine kx_iast (pc := 64) C ia_133 (by omega) dX9_item_64 ?_
        refine kx_iconst (pc := 65) C (v := nI 1) dX9_item_65 (by decide) ?_
        first
          | exact hR dX9_item_66 rfl (one _ (by rw [sp_cut, if_pos c39]))
          | exact hR dX9_item_66 rfl (one _ (by rw [sp_cut, if_neg c39, if_pos c51]))
          | exact hR dX9_item_66 rfl (one _ (by rw [sp_cut, if_neg c39, if_neg c51]))
    · have rz : ¬ sp_ref sl sn j l i 1 = 0 := fun z => by rw [z] at c22; exact absurd c22 (by decide)
      refine kx_ild6 (pc := 25) C dX9_item_25 ?_
      exact hR dX9_item_27 rfl ⟨by rw [sp_item, if_pos c5, kx_n, kx_n_nI hj2, if_neg rz], by rw [sp_itemI, kx_n, kx_n_nI hj2, if_neg (fun z => rz z.2)]; exact hs, fun d k _ _ _ => rfl⟩
  · refine kx_iconst (pc := 8) C (v := -1) dX9_item_8 (by decide) ?_
    exact hR dX9_item_9 rfl ⟨by rw [sp_item, if_neg (kx_if0 c5)], by rw [sp_itemI, if_neg (fun z => kx_if0 c5 z.1)]; exact hs, fun d k _ _ _ => rfl⟩
