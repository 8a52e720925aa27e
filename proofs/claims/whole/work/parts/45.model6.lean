set_option maxHeartbeats 4000000 in
set_option maxRecDepth 100000 in
theorem m_X9_points {h : kx_H} {a : Nat → Nat} {e t j p : Nat} (w : Int32) (hM : ∀ k, k < 141 → k ≠ 4 → k ≠ 5 → k ≠ 6 → h 128 k = nI (a k)) (hRB : st_RB a) (he : e < 4) (ht : t < 8) (hj : j ≤ 9) (hp : p ≤ 9) : kx_MI 3 yX9_points cX9_points 10 .int [.ref 127, .int (nI e), .int (nI t), .int (nI j), .int (nI p), .int w] h (fun r h1 => h1 = h ∧ r = if w = 0 then iI (sp_P0 (sp_tf a e t) (a (81 + t)) j p) else iI (sp_P1 (sp_tf a e t) (a (81 + t)) j p)) := by
  refine kx_mkI (own := RX9) (L0 := [some (.ref 127), some (.int (nI e)), some (.int (nI t)), some (.int (nI j)), some (.int (nI p)), some (.int w), none, none, none, none]) rfl (by decide +kernel) (Nat.le_of_ble_eq_true rfl) rfl (fun F C hR => ?_)
  have hl := hRB.1 t ht
  have hL : h 128 (81 + t) = nI (a (81 + t)) := hM _ (by omega) (by omega) (by omega) (by omega)
  have hte : ∀ i, i < a (81 + t) → sp_te a e t i ≤ 9 := fun i hi => sp_te_le hRB ht hi
  have part : ∀ k : Nat, k ≤ a (81 + t) → k = sp_go (sp_tf a e t) (a (81 + t)) p → F 36 [some (.ref 127), some (.int (nI e)), some (.int (nI t)), some (.int (nI j)), some (.int (nI p)), some (.int w), some (.int (nI k)), none, none, none] [] h := by
    intro k hk ek
    have sums : ∀ (q i : Nat), ¬ w = 0 → min k j - i = q → i ≤ min k j → F 76 [some (.ref 127), some (.int (nI e)), some (.int (nI t)), some (.int (nI j)), some (.int (nI p)), some (.int w), some (.int (nI k)), some (.int (nI (min k j))), some (.int (iI (sp_sm (sp_tf a e t) i))), some (.int (nI i))] [] h := by
      intro q
      induction q with
      | zero =>
        intro i hw hq hi
        refine kx_ild9 (pc := 76) C dX9_points_76 ?_
        refine kx_ild7 (pc := 78) C dX9_points_78 ?_
        refine kx_icmp_geN (pc := 80) C 107 (by omega) (by omega) dX9_points_80 (by decide) (fun c80 => ?_) (fun c80 => ?_)
        · refine kx_ild8 (pc := 107) C dX9_points_107 ?_
          exact hR dX9_points_109 rfl ⟨rfl, by rw [if_neg hw, sp_P1, ← ek, show min j k = i by omega]⟩
        · omega
      | succ q ih =>
        intro i hw hq hi
        have t9 := hte i (by omega)
        have h3 := ih (i + 1) hw (by omega) (by omega)
        rw [show sp_sm (sp_tf a e t) (i + 1) = sp_sm (sp_tf a e t) i + ((sp_tf a e t i / 3 : Nat) - 1 : Int) from rfl, show sp_tf a e t i = sp_te a e t i from if_pos (by omega)] at h3
        refine kx_ild9 (pc := 76) C dX9_points_76 ?_
        refine kx_ild7 (pc := 78) C dX9_points_78 ?_
        refine kx_icmp_geN (pc := 80) C 107 (by omega) (by omega) dX9_points_80 (by decide) (fun c80 => ?_) (fun c80 => ?_)
        · omega
        · refine kx_ild8 (pc := 83) C dX9_points_83 ?_
          refine kx_ald0 (pc := 85) C dX9_points_85 ?_
          refine kx_ild1 (pc := 86) C dX9_points_86 ?_
          refine kx_ild2 (pc := 87) C dX9_points_87 ?_
          refine kx_ild9 (pc := 88) C dX9_points_88 ?_
          refine kx_callVI3 (pc := 90) C cs_X9_93 ob_127 (m_X9_tellsIt (fun k h1 h2 h3 h4 _ => hM k h1 h2 h3 h4) hRB (by omega) (by omega) (by omega)) (by decide) dX9_points_90 (Nat.le_of_ble_eq_true rfl) (fun r90 h90 q90 => ?_)
          obtain ⟨z90, rfl⟩ := q90
          have z90 := z90.symm
          subst z90
          refine kx_callSI1 (pc := 93) C cs_X9_111 (m_X9_sortOf (by omega)) (by decide) dX9_points_93 (Nat.le_of_ble_eq_true rfl) (fun r93 h93 q93 => ?_)
          obtain ⟨z93, rfl⟩ := q93
          have z93 := z93.symm
          subst z93
          refine kx_iconst (pc := 96) C (v := nI 1) dX9_points_96 (by decide) ?_
          refine kx_isub (pc := 97) C dX9_points_97 ?_
          refine kx_iadd (pc := 98) C dX9_points_98 ?_
          refine kx_ist8 (pc := 99) C dX9_points_99 (by decide) rfl ?_
          first | refine kx_inc9 (pc := 101) C (v := nI (_ + 1)) dX9_points_101 (by decide) rfl (nI_1 _) ?_ | refine kx_inc9 (pc := 101) C dX9_points_101 (by decide) rfl rfl ?_
          refine kx_goto (pc := 104) C 76 dX9_points_104 (by decide) ?_
          rw [iI_nI (sp_te a e t i / 3), iI_nI 1, iI_sub, iI_add]
          exact h3
    refine kx_ild6 (pc := 36) C dX9_points_36 ?_
    refine kx_ild3 (pc := 38) C dX9_points_38 ?_
    refine kx_icmp_geN (pc := 39) C 47 (by omega) (by omega) dX9_points_39 (by decide) (fun c39 => ?_) (fun c39 => ?_)
    · refine kx_ild3 (pc := 47) C dX9_points_47 ?_
      refine kx_ist7 (pc := 48) C dX9_points_48 (by decide) rfl ?_
      refine kx_ild5 (pc := 50) C dX9_points_50 ?_
      refine kx_if_ne (pc := 52) C 70 dX9_points_52 (by decide) (fun c52 => ?_) (fun c52 => ?_)
      · refine kx_iconst (pc := 70) C (v := nI 0) dX9_points_70 (by decide) ?_
        refine kx_ist8 (pc := 71) C dX9_points_71 (by decide) rfl ?_
        refine kx_iconst (pc := 73) C (v := nI 0) dX9_points_73 (by decide) ?_
        refine kx_ist9 (pc := 74) C dX9_points_74 (by decide) rfl ?_
        first
          | (have h3 := sums _ 0 c52 rfl (by omega)
             rw [show min k j = k by omega] at h3
             exact h3)
          | (have h3 := sums _ 0 c52 rfl (by omega)
             rw [show min k j = j by omega] at h3
             exact h3)
      · refine kx_ild7 (pc := 55) C dX9_points_55 ?_
        refine kx_ild6 (pc := 57) C dX9_points_57 ?_
        refine kx_ild3 (pc := 59) C dX9_points_59 ?_
        refine kx_icmp_geN (pc := 60) C 67 (by omega) (by omega) dX9_points_60 (by decide) (fun c60 => ?_) (fun c60 => ?_)
        · refine kx_iconst (pc := 67) C (v := nI 0) dX9_points_67 (by decide) ?_
          refine kx_isub (pc := 68) C dX9_points_68 ?_
          first
            | omega
            | exact hR dX9_points_69 rfl ⟨rfl, by rw [if_pos c52, sp_P0, ← ek, if_pos (by omega), iI_nI, iI_nI, iI_sub]; rfl⟩
            | exact hR dX9_points_69 rfl ⟨rfl, by rw [if_pos c52, sp_P0, ← ek, if_neg (by omega), iI_nI, iI_nI, iI_sub]; exact congrArg iI (by omega)⟩
        · refine kx_iconst (pc := 63) C (v := nI 3) dX9_points_63 (by decide) ?_
          refine kx_goto (pc := 64) C 68 dX9_points_64 (by decide) ?_
          refine kx_isub (pc := 68) C dX9_points_68 ?_
          first
            | omega
            | exact hR dX9_points_69 rfl ⟨rfl, by rw [if_pos c52, sp_P0, ← ek, if_pos (by omega), iI_nI, iI_nI, iI_sub]; rfl⟩
            | exact hR dX9_points_69 rfl ⟨rfl, by rw [if_pos c52, sp_P0, ← ek, if_neg (by omega), iI_nI, iI_nI, iI_sub]; exact congrArg iI (by omega)⟩
    · refine kx_ild6 (pc := 42) C dX9_points_42 ?_
      refine kx_goto (pc := 44) C 48 dX9_points_44 (by decide) ?_
      refine kx_ist7 (pc := 48) C dX9_points_48 (by decide) rfl ?_
      refine kx_ild5 (pc := 50) C dX9_points_50 ?_
      refine kx_if_ne (pc := 52) C 70 dX9_points_52 (by decide) (fun c52 => ?_) (fun c52 => ?_)
      · refine kx_iconst (pc := 70) C (v := nI 0) dX9_points_70 (by decide) ?_
        refine kx_ist8 (pc := 71) C dX9_points_71 (by decide) rfl ?_
        refine kx_iconst (pc := 73) C (v := nI 0) dX9_points_73 (by decide) ?_
        refine kx_ist9 (pc := 74) C dX9_points_74 (by decide) rfl ?_
        first
          | (have h3 := sums _ 0 c52 rfl (by omega)
             rw [show min k j = k by omega] at h3
             exact h3)
          | (have h3 := sums _ 0 c52 rfl (by omega)
             rw [show min k j = j by omega] at h3
             exact h3)
      · refine kx_ild7 (pc := 55) C dX9_points_55 ?_
        refine kx_ild6 (pc := 57) C dX9_points_57 ?_
        refine kx_ild3 (pc := 59) C dX9_points_59 ?_
        refine kx_icmp_geN (pc := 60) C 67 (by omega) (by omega) dX9_points_60 (by decide) (fun c60 => ?_) (fun c60 => ?_)
        · refine kx_iconst (pc := 67) C (v := nI 0) dX9_points_67 (by decide) ?_
          refine kx_isub (pc := 68) C dX9_points_68 ?_
          first
            | omega
            | exact hR dX9_points_69 rfl ⟨rfl, by rw [if_pos c52, sp_P0, ← ek, if_pos (by omega), iI_nI, iI_nI, iI_sub]; rfl⟩
            | exact hR dX9_points_69 rfl ⟨rfl, by rw [if_pos c52, sp_P0, ← ek, if_neg (by omega), iI_nI, iI_nI, iI_sub]; exact congrArg iI (by omega)⟩
        · refine kx_iconst (pc := 63) C (v := nI 3) dX9_points_63 (by decide) ?_
          refine kx_goto (pc := 64) C 68 dX9_points_64 (by decide) ?_
          refine kx_isub (pc := 68) C dX9_points_68 ?_
          first
            | omega
            | exact hR dX9_points_69 rfl ⟨rfl, by rw [if_pos c52, sp_P0, ← ek, if_pos (by omega), iI_nI, iI_nI, iI_sub]; rfl⟩
            | exact hR dX9_points_69 rfl ⟨rfl, by rw [if_pos c52, sp_P0, ← ek, if_neg (by omega), iI_nI, iI_nI, iI_sub]; exact congrArg iI (by omega)⟩
  have loop : ∀ (q k : Nat), a (81 + t) - k = q → k ≤ a (81 + t) → (∀ i, i < k → decide (sp_tf a e t i < p) = false) → F 3 [some (.ref 127), some (.int (nI e)), some (.int (nI t)), some (.int (nI j)), some (.int (nI p)), some (.int w), some (.int (nI k)), none, none, none] [] h := by
    intro q
    induction q with
    | zero =>
      intro k hq hk hb
      refine kx_ild6 (pc := 3) C dX9_points_3 ?_
      refine kx_ald0 (pc := 5) C dX9_points_5 ?_
      refine kx_getr (pc := 6) C fl_X9_7 fd_127_0 dX9_points_6 ?_
      refine kx_bipush (pc := 9) C (v := nI 81) dX9_points_9 (by decide) ?_
      refine kx_ild2 (pc := 11) C dX9_points_11 ?_
      first | refine kx_iaddN (pc := 12) C dX9_points_12 ?_ | refine kx_iadd (pc := 12) C dX9_points_12 ?_
      refine kx_iald (pc := 13) C ia_128 (by omega) hL dX9_points_13 ?_
      refine kx_icmp_geN (pc := 14) C 36 (by omega) (by omega) dX9_points_14 (by decide) (fun c14 => ?_) (fun c14 => ?_)
      · have ek : k = a (81 + t) := by omega
        refine part k hk ?_
        rw [ek] at hb ⊢
        exact (sp_fst_none hb).symm
      · omega
    | succ q ih =>
      intro k hq hk hb
      have t9 := hte k (by omega)
      have etf : sp_tf a e t k = sp_te a e t k := if_pos (by omega)
      refine kx_ild6 (pc := 3) C dX9_points_3 ?_
      refine kx_ald0 (pc := 5) C dX9_points_5 ?_
      refine kx_getr (pc := 6) C fl_X9_7 fd_127_0 dX9_points_6 ?_
      refine kx_bipush (pc := 9) C (v := nI 81) dX9_points_9 (by decide) ?_
      refine kx_ild2 (pc := 11) C dX9_points_11 ?_
      first | refine kx_iaddN (pc := 12) C dX9_points_12 ?_ | refine kx_iadd (pc := 12) C dX9_points_12 ?_
      refine kx_iald (pc := 13) C ia_128 (by omega) hL dX9_points_13 ?_
      refine kx_icmp_geN (pc := 14) C 36 (by omega) (by omega) dX9_points_14 (by decide) (fun c14 => ?_) (fun c14 => ?_)
      · omega
      · refine kx_ald0 (pc := 17) C dX9_points_17 ?_
        refine kx_ild1 (pc := 18) C dX9_points_18 ?_
        refine kx_ild2 (pc := 19) C dX9_points_19 ?_
        refine kx_ild6 (pc := 20) C dX9_points_20 ?_
        refine kx_callVI3 (pc := 22) C cs_X9_93 ob_127 (m_X9_tellsIt (fun k h1 h2 h3 h4 _ => hM k h1 h2 h3 h4) hRB (by omega) (by omega) (by omega)) (by decide) dX9_points_22 (Nat.le_of_ble_eq_true rfl) (fun r22 h22 q22 => ?_)
        obtain ⟨z22, rfl⟩ := q22
        have z22 := z22.symm
        subst z22
        refine kx_ild4 (pc := 25) C dX9_points_25 ?_
        refine kx_icmp_ltN (pc := 27) C 36 (by omega) (by omega) dX9_points_27 (by decide) (fun c27 => ?_) (fun c27 => ?_)
        · exact part k hk (by rw [sp_go]; exact (sp_fst_at (p := fun i => decide (sp_tf a e t i < p)) (decide_eq_true (by rw [etf]; exact c27)) hb (by omega)).symm)
        · first | refine kx_inc6 (pc := 30) C (v := nI (_ + 1)) dX9_points_30 (by decide) rfl (nI_1 _) ?_ | refine kx_inc6 (pc := 30) C dX9_points_30 (by decide) rfl rfl ?_
          refine kx_goto (pc := 33) C 3 dX9_points_33 (by decide) ?_
          refine ih (k + 1) (by omega) (by omega) (fun i hi => ?_)
          rcases Nat.lt_or_ge i k with y | y
          · exact hb i y
          · rw [show i = k by omega]; exact decide_eq_false (by rw [etf]; omega)
  refine kx_iconst (pc := 0) C (v := nI 0) dX9_points_0 (by decide) ?_
  refine kx_ist6 (pc := 1) C dX9_points_1 (by decide) rfl ?_
  exact loop _ 0 rfl (by omega) (fun i hi => absurd hi (by omega))
set_option maxHeartbeats 4000000 in
set_option maxRecDepth 100000 in
theorem m_X9_play {h : kx_H} {a : Nat → Nat} (e t j p w : Int32) (hH : st_MH 128 h a) (hB : st_B a) : kx_MI 4 yX9_play cX9_play 6 .int [.ref 127, .int e, .int t, .int j, .int p, .int w] h (fun r h1 => h1 = h ∧ r = sp_play a e t j p w) := by
  refine kx_mkI (own := RX9) (L0 := [some (.ref 127), some (.int e), some (.int t), some (.int j), some (.int p), some (.int w)]) rfl (by decide +kernel) (Nat.le_of_ble_eq_true rfl) rfl (fun F C hR => ?_)
  obtain ⟨hM, hMB⟩ := id hH
  obtain ⟨⟨b0, b1, b2, b3, b8, b8'⟩, hRB, bl, byy, bh, bz, bb⟩ := id hB
  have hl9 := hRB.1
  have hT : h 128 0 = nI (a 0) := hM 0 (by omega) (by omega) (by omega) (by omega)
  have hE : h 128 1 = nI (a 1) := hM 1 (by omega) (by omega) (by omega) (by omega)
  have hS : h 128 2 = nI (a 2) := hM 2 (by omega) (by omega) (by omega) (by omega)
  have hev : h 128 3 = nI (a 3) := hM 3 (by omega) (by omega) (by omega) (by omega)
  have hme : h 128 8 = nI (a 8) := hM 8 (by omega) (by omega) (by omega) (by omega)
  refine kx_ald0 (pc := 0) C dX9_play_0 ?_
  refine kx_ild1 (pc := 1) C dX9_play_1 ?_
  refine kx_callVI1 (pc := 2) C cs_X9_90 ob_127 (m_X9_isTeller _ (by assumption) (by omega)) (by decide) dX9_play_2 (Nat.le_of_ble_eq_true rfl) (fun r2 h2 q2 => ?_)
  obtain ⟨z2, rfl⟩ := q2
  have z2 := z2.symm
  subst z2
  refine kx_if_eq (pc := 5) C 59 dX9_play_5 (by decide) (fun c5 => ?_) (fun c5 => ?_)
  · refine kx_ldc (pc := 59) C dX9_play_59 cn_X9_122 ?_
    exact hR dX9_play_61 rfl ⟨rfl, by
      rw [sp_play, if_neg (fun z => by
        first
          | exact kx_if0 c56 z.2.2.2
          | exact kx_if0 c45 z.2.2.1
          | (have := z.2.1.2; rw [kx_n, kx_n_nI hy2] at this; exact kx_if0 c32 this)
          | exact kx_if0 c13 z.2.1.1
          | exact kx_if0 c5 z.1)]⟩
  · refine kx_ald0 (pc := 8) C dX9_play_8 ?_
    refine kx_ild2 (pc := 9) C dX9_play_9 ?_
    refine kx_callVI1 (pc := 10) C cs_X9_72 ob_127 (m_X9_isTale _ (by assumption) (by omega)) (by decide) dX9_play_10 (Nat.le_of_ble_eq_true rfl) (fun r10 h10 q10 => ?_)
    obtain ⟨z10, rfl⟩ := q10
    have z10 := z10.symm
    subst z10
    refine kx_if_eq (pc := 13) C 59 dX9_play_13 (by decide) (fun c13 => ?_) (fun c13 => ?_)
    · refine kx_ldc (pc := 59) C dX9_play_59 cn_X9_122 ?_
      exact hR dX9_play_61 rfl ⟨rfl, by
        rw [sp_play, if_neg (fun z => by
          first
            | exact kx_if0 c56 z.2.2.2
            | exact kx_if0 c45 z.2.2.1
            | (have := z.2.1.2; rw [kx_n, kx_n_nI hy2] at this; exact kx_if0 c32 this)
            | exact kx_if0 c13 z.2.1.1
            | exact kx_if0 c5 z.1)]⟩
    · have c13 := kx_if1 c13
      obtain ⟨y, rfl, hy, hy2⟩ := kx_nat c13.1
      have ly := hl9 y (by omega)
      refine kx_ild3 (pc := 16) C dX9_play_16 ?_
      refine kx_i2l (pc := 17) C dX9_play_17 ?_
      refine kx_lconst (pc := 18) C (v := 1) dX9_play_18 (by decide) ?_
      refine kx_ald0 (pc := 19) C dX9_play_19 ?_
      refine kx_getr (pc := 20) C fl_X9_7 fd_127_0 dX9_play_20 ?_
      refine kx_bipush (pc := 23) C (v := nI 81) dX9_play_23 (by decide) ?_
      refine kx_ild2 (pc := 25) C dX9_play_25 ?_
      first | refine kx_iaddN (pc := 26) C dX9_play_26 ?_ | refine kx_iadd (pc := 26) C dX9_play_26 ?_
      refine kx_iald (pc := 27) C ia_128 (by omega) (by first | assumption | exact hM _ (by omega) (by omega) (by omega) (by omega) | rfl) dX9_play_27 ?_
      refine kx_i2l (pc := 28) C dX9_play_28 ?_
      refine kx_callSI3 (pc := 29) C cs_X9_52 (m_X9_in (p := 1) (q := _) (r := (a (81 + y) : Int)) (by rfl) (kx_L _) (by rw [kx_L, kx_T (by omega)])) (by decide) dX9_play_29 (Nat.le_of_ble_eq_true rfl) (fun r29 h29 q29 => ?_)
      obtain ⟨z29, rfl⟩ := q29
      have z29 := z29.symm
      subst z29
      refine kx_if_eq (pc := 32) C 59 dX9_play_32 (by decide) (fun c32 => ?_) (fun c32 => ?_)
      · refine kx_ldc (pc := 59) C dX9_play_59 cn_X9_122 ?_
        exact hR dX9_play_61 rfl ⟨rfl, by
          rw [sp_play, if_neg (fun z => by
            first
              | exact kx_if0 c56 z.2.2.2
              | exact kx_if0 c45 z.2.2.1
              | (have := z.2.1.2; rw [kx_n, kx_n_nI hy2] at this; exact kx_if0 c32 this)
              | exact kx_if0 c13 z.2.1.1
              | exact kx_if0 c5 z.1)]⟩
      · refine kx_ild4 (pc := 35) C dX9_play_35 ?_
        refine kx_i2l (pc := 37) C dX9_play_37 ?_
        refine kx_lconst (pc := 38) C (v := 0) dX9_play_38 (by decide) ?_
        refine kx_ldc2 (pc := 39) C dX9_play_39 cn_X9_80 ?_
        refine kx_callSI3 (pc := 42) C cs_X9_52 (m_X9_in (p := 0) (q := _) (r := 9) (by rfl) (kx_L _) (by rfl)) (by decide) dX9_play_42 (Nat.le_of_ble_eq_true rfl) (fun r42 h42 q42 => ?_)
        obtain ⟨z42, rfl⟩ := q42
        have z42 := z42.symm
        subst z42
        refine kx_if_eq (pc := 45) C 59 dX9_play_45 (by decide) (fun c45 => ?_) (fun c45 => ?_)
        · refine kx_ldc (pc := 59) C dX9_play_59 cn_X9_122 ?_
          exact hR dX9_play_61 rfl ⟨rfl, by
            rw [sp_play, if_neg (fun z => by
              first
                | exact kx_if0 c56 z.2.2.2
                | exact kx_if0 c45 z.2.2.1
                | (have := z.2.1.2; rw [kx_n, kx_n_nI hy2] at this; exact kx_if0 c32 this)
                | exact kx_if0 c13 z.2.1.1
                | exact kx_if0 c5 z.1)]⟩
        · refine kx_ild5 (pc := 48) C dX9_play_48 ?_
          refine kx_i2l (pc := 50) C dX9_play_50 ?_
          refine kx_lconst (pc := 51) C (v := 0) dX9_play_51 (by decide) ?_
          refine kx_lconst (pc := 52) C (v := 1) dX9_play_52 (by decide) ?_
          refine kx_callSI3 (pc := 53) C cs_X9_52 (m_X9_in (p := 0) (q := _) (r := 1) (by rfl) (kx_L _) (by rfl)) (by decide) dX9_play_53 (Nat.le_of_ble_eq_true rfl) (fun r53 h53 q53 => ?_)
          obtain ⟨z53, rfl⟩ := q53
          have z53 := z53.symm
          subst z53
          refine kx_if_ne (pc := 56) C 62 dX9_play_56 (by decide) (fun c56 => ?_) (fun c56 => ?_)
          · have c5 := kx_if1 c5
            have c32 := kx_if1 c32
            have c45 := kx_if1 c45
            have c56 := kx_if1 c56
            obtain ⟨x, rfl, hx, hx2⟩ := kx_nat c5.1
            obtain ⟨m, rfl, hm, hm2⟩ := kx_nat (x := j) (by omega)
            obtain ⟨o, rfl, ho, ho2⟩ := kx_nat c45.1
            refine kx_ald0 (pc := 62) C dX9_play_62 ?_
            refine kx_ild1 (pc := 63) C dX9_play_63 ?_
            refine kx_ild2 (pc := 64) C dX9_play_64 ?_
            refine kx_ild3 (pc := 65) C dX9_play_65 ?_
            refine kx_ild4 (pc := 66) C dX9_play_66 ?_
            refine kx_ild5 (pc := 68) C dX9_play_68 ?_
            refine kx_callVI5 (pc := 70) C cs_X9_123 ob_127 (m_X9_points _ hM hRB (by omega) (by omega) (by omega) (by omega)) (by decide) dX9_play_70 (Nat.le_of_ble_eq_true rfl) (fun r70 h70 q70 => ?_)
            obtain ⟨z70, rfl⟩ := q70
            have z70 := z70.symm
            subst z70
            exact hR dX9_play_73 rfl ⟨rfl, by
              rw [sp_play, kx_n, kx_n, kx_n, kx_n, kx_n_nI hx2, kx_n_nI hy2, kx_n_nI hm2, kx_n_nI ho2]
              exact (if_pos (⟨c5, ⟨c13, c32⟩, c45, c56⟩ : _ ∧ (_ ∧ _) ∧ _ ∧ _)).symm⟩
          · refine kx_ldc (pc := 59) C dX9_play_59 cn_X9_122 ?_
            exact hR dX9_play_61 rfl ⟨rfl, by
              rw [sp_play, if_neg (fun z => by
                first
                  | exact kx_if0 c56 z.2.2.2
                  | exact kx_if0 c45 z.2.2.1
                  | (have := z.2.1.2; rw [kx_n, kx_n_nI hy2] at this; exact kx_if0 c32 this)
                  | exact kx_if0 c13 z.2.1.1
                  | exact kx_if0 c5 z.1)]⟩
theorem sp_Rf_n4 {f : Nat → Nat} {n m : Nat} (hm : m < 1000) : sp_Rf f n m = -4 ↔ sp_ct (sp_Rx f n) m = 0 := by
  unfold sp_Rf
  split
  · next z => exact ⟨fun _ => z, fun _ => rfl⟩
  · next z =>
    have := sp_ct_pos.mp (Nat.pos_of_ne_zero z)
    exact ⟨fun y => absurd y (kx_m4 (by omega)), fun y => absurd y z⟩
theorem sp_tf_le {a : Nat → Nat} (hb : st_RB a) {e t : Nat} (ht : t < 8) (i : Nat) : sp_tf a e t i ≤ 9 := by
  unfold sp_tf
  split
  · next z => exact sp_te_le hb ht z
  · omega
set_option maxHeartbeats 4000000 in
set_option maxRecDepth 100000 in
theorem m_X9_rests {h : kx_H} {a : Nat → Nat} (te tt w : Int32) (hH : st_MH 128 h a) (hB : st_B a) : kx_MI 4 yX9_rests cX9_rests 10 .int [.ref 127, .int te, .int tt, .int w] h (fun r h1 => h1 = h ∧ r = sp_rests a te tt w) := by
  refine kx_mkI (own := RX9) (L0 := [some (.ref 127), some (.int te), some (.int tt), some (.int w), none, none, none, none, none, none]) rfl (by decide +kernel) (Nat.le_of_ble_eq_true rfl) rfl (fun F C hR => ?_)
  obtain ⟨hM, hMB⟩ := id hH
  obtain ⟨⟨b0, b1, b2, b3, b8, b8'⟩, hRB, bl, byy, bh, bz, bb⟩ := id hB
  have hl9 := hRB.1
  have hT : h 128 0 = nI (a 0) := hM 0 (by omega) (by omega) (by omega) (by omega)
  have hE : h 128 1 = nI (a 1) := hM 1 (by omega) (by omega) (by omega) (by omega)
  have hS : h 128 2 = nI (a 2) := hM 2 (by omega) (by omega) (by omega) (by omega)
  have hev : h 128 3 = nI (a 3) := hM 3 (by omega) (by omega) (by omega) (by omega)
  have hme : h 128 8 = nI (a 8) := hM 8 (by omega) (by omega) (by omega) (by omega)
  have main : ∀ (e t : Nat), e < 4 → t < 8 → (∀ r, r = (if w = 0 then nI (sp_ct (sp_Rx (sp_tf a e t) (a (81 + t))) (10 * a (81 + t))) else sp_Rf (sp_tf a e t) (a (81 + t)) (10 * a (81 + t))) → r = sp_rests a te tt w) → ∀ (c j : Nat) (o7 o8 o9 : Option Value), a (81 + t) - j = c → j ≤ a (81 + t) → F 38 [some (.ref 127), some (.int (nI e)), some (.int (nI t)), some (.int w), some (.int (nI (sp_ct (sp_Rx (sp_tf a e t) (a (81 + t))) (10 * j)))), some (.int (sp_Rf (sp_tf a e t) (a (81 + t)) (10 * j))), some (.int (nI (j + 1))), o7, o8, o9] [] h := by
    intro e t he ht hfin c
    have hl := hl9 t ht
    have hL : h 128 (81 + t) = nI (a (81 + t)) := hM _ (by omega) (by omega) (by omega) (by omega)
    have hf9 := fun i => sp_tf_le hRB (e := e) ht i
    induction c with
    | zero =>
      intro j o7 o8 o9 hc hj
      have ej : j = a (81 + t) := by omega
      refine kx_ild6 (pc := 38) C dX9_rests_38 ?_
      refine kx_ald0 (pc := 40) C dX9_rests_40 ?_
      refine kx_getr (pc := 41) C fl_X9_7 fd_127_0 dX9_rests_41 ?_
      refine kx_bipush (pc := 44) C (v := nI 81) dX9_rests_44 (by decide) ?_
      refine kx_ild2 (pc := 46) C dX9_rests_46 ?_
      first | refine kx_iaddN (pc := 47) C dX9_rests_47 ?_ | refine kx_iadd (pc := 47) C dX9_rests_47 ?_
      refine kx_iald (pc := 48) C ia_128 (by omega) hL dX9_rests_48 ?_
      refine kx_icmp_gtN (pc := 49) C 232 (by omega) (by omega) dX9_rests_49 (by decide) (fun c49 => ?_) (fun c49 => ?_)
      · refine kx_ild3 (pc := 232) C dX9_rests_232 ?_
        refine kx_if_ne (pc := 233) C 241 dX9_rests_233 (by decide) (fun c233 => ?_) (fun c233 => ?_)
        · refine kx_ild5 (pc := 241) C dX9_rests_241 ?_
          first
            | exact hR dX9_rests_243 rfl ⟨rfl, hfin _ (by rw [if_pos c233, ej])⟩
            | exact hR dX9_rests_243 rfl ⟨rfl, hfin _ (by rw [if_neg c233, ej])⟩
        · refine kx_ild4 (pc := 236) C dX9_rests_236 ?_
          refine kx_goto (pc := 238) C 243 dX9_rests_238 (by decide) ?_
          first
            | exact hR dX9_rests_243 rfl ⟨rfl, hfin _ (by rw [if_pos c233, ej])⟩
            | exact hR dX9_rests_243 rfl ⟨rfl, hfin _ (by rw [if_neg c233, ej])⟩
      · omega
    | succ c ih =>
      intro j o7 o8 o9 hc hj
      have inner : ∀ (d p : Nat) (o8 o9 : Option Value), 10 - p = d → p ≤ 10 → F 55 [some (.ref 127), some (.int (nI e)), some (.int (nI t)), some (.int w), some (.int (nI (sp_ct (sp_Rx (sp_tf a e t) (a (81 + t))) (10 * j + p)))), some (.int (sp_Rf (sp_tf a e t) (a (81 + t)) (10 * j + p))), some (.int (nI (j + 1))), some (.int (nI p)), o8, o9] [] h := by
        intro d
        induction d with
        | zero =>
          intro p o8 o9 hd hp
          have ep : p = 10 := by omega
          subst ep
          have h3 := ih (j + 1)
          rw [show 10 * (j + 1) = 10 * j + 10 by omega] at h3
          refine kx_ild7 (pc := 55) C dX9_rests_55 ?_
          refine kx_bipush (pc := 57) C (v := nI 10) dX9_rests_57 (by decide) ?_
          refine kx_icmp_geN (pc := 59) C 226 (by omega) (by omega) dX9_rests_59 (by decide) (fun c59 => ?_) (fun c59 => ?_)
          · first | refine kx_inc6 (pc := 226) C (v := nI (_ + 1)) dX9_rests_226 (by decide) rfl (nI_1 _) ?_ | refine kx_inc6 (pc := 226) C dX9_rests_226 (by decide) rfl rfl ?_
            refine kx_goto (pc := 229) C 38 dX9_rests_229 (by decide) ?_
            exact h3 _ _ _ (by omega) (by omega)
          · omega
        | succ d ih2 =>
          intro p o8 o9 hd hp
          have eRx : sp_Rx (sp_tf a e t) (a (81 + t)) (10 * j + p) = sp_R (sp_tf a e t) (a (81 + t)) (j + 1) p := by
            have := sp_Rx_at (f := sp_tf a e t) (n := a (81 + t)) (j := j + 1) (p := p) (by omega) (by omega)
            rw [show j + 1 - 1 = j by omega] at this
            exact this
          have ctl := sp_ct_le (sp_Rx (sp_tf a e t) (a (81 + t))) (10 * j + p)
          have h3 := ih2 (p + 1)
          rw [show 10 * j + (p + 1) = 10 * j + p + 1 by omega] at h3
          have fn4 := sp_Rf_n4 (f := sp_tf a e t) (n := a (81 + t)) (m := 10 * j + p) (by omega)
          have end_ : ∀ (b : Bool) (o9 : Option Value), b = sp_Rx (sp_tf a e t) (a (81 + t)) (10 * j + p) → F 178 [some (.ref 127), some (.int (nI e)), some (.int (nI t)), some (.int w), some (.int (nI (sp_ct (sp_Rx (sp_tf a e t) (a (81 + t))) (10 * j + p)))), some (.int (sp_Rf (sp_tf a e t) (a (81 + t)) (10 * j + p))), some (.int (nI (j + 1))), some (.int (nI p)), some (.int (if b = true then 1 else 0)), o9] [] h := by
            intro b o9 hb
            cases b with
            | true =>
              refine kx_ild4 (pc := 178) C dX9_rests_178 ?_
              refine kx_ild8 (pc := 180) C dX9_rests_180 ?_
              refine kx_if_eq (pc := 182) C 189 dX9_rests_182 (by decide) (fun c182 => ?_) (fun c182 => ?_)
              · exact absurd c182 (by decide)
              · refine kx_iconst (pc := 185) C (v := nI 1) dX9_rests_185 (by decide) ?_
                refine kx_goto (pc := 186) C 190 dX9_rests_186 (by decide) ?_
                first | refine kx_iaddN (pc := 190) C dX9_rests_190 ?_ | refine kx_iadd (pc := 190) C dX9_rests_190 ?_
                refine kx_ist4 (pc := 191) C dX9_rests_191 (by decide) rfl ?_
                refine kx_ild8 (pc := 193) C dX9_rests_193 ?_
                refine kx_if_eq (pc := 195) C 216 dX9_rests_195 (by decide) (fun c195 => ?_) (fun c195 => ?_)
                · exact absurd c195 (by decide)
                · refine kx_ild5 (pc := 198) C dX9_rests_198 ?_
                  refine kx_bipush (pc := 200) C (v := -4) dX9_rests_200 (by decide) ?_
                  refine kx_icmp_ne (pc := 202) C 216 dX9_rests_202 (by decide) (fun c202 => ?_) (fun c202 => ?_)
                  · refine kx_ild5 (pc := 216) C dX9_rests_216 ?_
                    refine kx_ist5 (pc := 218) C dX9_rests_218 (by decide) rfl ?_
                    first | refine kx_inc7 (pc := 220) C (v := nI (_ + 1)) dX9_rests_220 (by decide) rfl (nI_1 _) ?_ | refine kx_inc7 (pc := 220) C dX9_rests_220 (by decide) rfl rfl ?_
                    refine kx_goto (pc := 223) C 55 dX9_rests_223 (by decide) ?_
                    first
                      | (rw [sp_ct_yes hb.symm, sp_Rf_first hb.symm (fn4.mp c202), show (10 * j + p) / 10 = j by omega, show (10 * j + p) % 10 = p by omega] at h3
                         exact h3 _ _ (by omega) (by omega))
                      | (rw [sp_ct_yes hb.symm, sp_Rf_more hb.symm (Nat.pos_of_ne_zero (fun z => c202 (fn4.mpr z)))] at h3
                         exact h3 _ _ (by omega) (by omega))
                  · refine kx_bipush (pc := 205) C (v := nI 10) dX9_rests_205 (by decide) ?_
                    refine kx_ild6 (pc := 207) C dX9_rests_207 ?_
                    first | refine kx_imulN (pc := 209) C dX9_rests_209 ?_ | refine kx_imul (pc := 209) C dX9_rests_209 ?_
                    refine kx_ild7 (pc := 210) C dX9_rests_210 ?_
                    first | refine kx_iaddN (pc := 212) C dX9_rests_212 ?_ | refine kx_iadd (pc := 212) C dX9_rests_212 ?_
                    refine kx_goto (pc := 213) C 218 dX9_rests_213 (by decide) ?_
                    refine kx_ist5 (pc := 218) C dX9_rests_218 (by decide) rfl ?_
                    first | refine kx_inc7 (pc := 220) C (v := nI (_ + 1)) dX9_rests_220 (by decide) rfl (nI_1 _) ?_ | refine kx_inc7 (pc := 220) C dX9_rests_220 (by decide) rfl rfl ?_
                    refine kx_goto (pc := 223) C 55 dX9_rests_223 (by decide) ?_
                    first
                      | (rw [sp_ct_yes hb.symm, sp_Rf_first hb.symm (fn4.mp c202), show (10 * j + p) / 10 = j by omega, show (10 * j + p) % 10 = p by omega] at h3
                         exact h3 _ _ (by omega) (by omega))
                      | (rw [sp_ct_yes hb.symm, sp_Rf_more hb.symm (Nat.pos_of_ne_zero (fun z => c202 (fn4.mpr z)))] at h3
                         exact h3 _ _ (by omega) (by omega))
            | false =>
              refine kx_ild4 (pc := 178) C dX9_rests_178 ?_
              refine kx_ild8 (pc := 180) C dX9_rests_180 ?_
              refine kx_if_eq (pc := 182) C 189 dX9_rests_182 (by decide) (fun c182 => ?_) (fun c182 => ?_)
              · refine kx_iconst (pc := 189) C (v := nI 0) dX9_rests_189 (by decide) ?_
                first | refine kx_iaddN (pc := 190) C dX9_rests_190 ?_ | refine kx_iadd (pc := 190) C dX9_rests_190 ?_
                refine kx_ist4 (pc := 191) C dX9_rests_191 (by decide) rfl ?_
                refine kx_ild8 (pc := 193) C dX9_rests_193 ?_
                refine kx_if_eq (pc := 195) C 216 dX9_rests_195 (by decide) (fun c195 => ?_) (fun c195 => ?_)
                · refine kx_ild5 (pc := 216) C dX9_rests_216 ?_
                  refine kx_ist5 (pc := 218) C dX9_rests_218 (by decide) rfl ?_
                  first | refine kx_inc7 (pc := 220) C (v := nI (_ + 1)) dX9_rests_220 (by decide) rfl (nI_1 _) ?_ | refine kx_inc7 (pc := 220) C dX9_rests_220 (by decide) rfl rfl ?_
                  refine kx_goto (pc := 223) C 55 dX9_rests_223 (by decide) ?_
                  rw [sp_ct_nope hb.symm, sp_Rf_no hb.symm] at h3
                  exact h3 _ _ (by omega) (by omega)
                · exact absurd rfl c195
              · exact absurd rfl c182
          have lq : ∀ (r q : Nat), 10 - q = r → q ≤ 10 → F 128 [some (.ref 127), some (.int (nI e)), some (.int (nI t)), some (.int w), some (.int (nI (sp_ct (sp_Rx (sp_tf a e t) (a (81 + t))) (10 * j + p)))), some (.int (sp_Rf (sp_tf a e t) (a (81 + t)) (10 * j + p))), some (.int (nI (j + 1))), some (.int (nI p)), some (.int (if (sp_TR (sp_tf a e t) (a (81 + t)) (j + 1) p && sp_all (fun q => decide (sp_P1 (sp_tf a e t) (a (81 + t)) (j + 1) q ≤ sp_P1 (sp_tf a e t) (a (81 + t)) (j + 1) p)) q) = true then 1 else 0)), some (.int (nI q))] [] h := by
            intro r
            induction r with
            | zero =>
              intro q hr hq
              have eq : q = 10 := by omega
              subst eq
              refine kx_ild9 (pc := 128) C dX9_rests_128 ?_
              refine kx_bipush (pc := 130) C (v := nI 10) dX9_rests_130 (by decide) ?_
              refine kx_icmp_geN (pc := 132) C 178 (by omega) (by omega) dX9_rests_132 (by decide) (fun c132 => ?_) (fun c132 => ?_)
              · exact end_ _ _ (by rw [eRx]; rfl)
              · omega
            | succ r ih3 =>
              intro q hr hq
              have h4 := ih3 (q + 1) (by omega) (by omega)
              rw [show sp_all (fun q => decide (sp_P1 (sp_tf a e t) (a (81 + t)) (j + 1) q ≤ sp_P1 (sp_tf a e t) (a (81 + t)) (j + 1) p)) (q + 1) = (sp_all (fun q => decide (sp_P1 (sp_tf a e t) (a (81 + t)) (j + 1) q ≤ sp_P1 (sp_tf a e t) (a (81 + t)) (j + 1) p)) q && decide (sp_P1 (sp_tf a e t) (a (81 + t)) (j + 1) q ≤ sp_P1 (sp_tf a e t) (a (81 + t)) (j + 1) p)) from rfl, ← Bool.and_assoc] at h4
              have b1 := sp_P1_b (f := sp_tf a e t) (n := a (81 + t)) (j := j + 1) (p := q) hf9 (by omega)
              have b2 := sp_P1_b (f := sp_tf a e t) (n := a (81 + t)) (j := j + 1) (p := p) hf9 (by omega)
              refine kx_ild9 (pc := 128) C dX9_rests_128 ?_
              refine kx_bipush (pc := 130) C (v := nI 10) dX9_rests_130 (by decide) ?_
              refine kx_icmp_geN (pc := 132) C 178 (by omega) (by omega) dX9_rests_132 (by decide) (fun c132 => ?_) (fun c132 => ?_)
              · omega
              · refine kx_ild8 (pc := 135) C dX9_rests_135 ?_
                refine kx_if_eq (pc := 137) C 169 dX9_rests_137 (by decide) (fun c137 => ?_) (fun c137 => ?_)
                · refine kx_iconst (pc := 169) C (v := nI 0) dX9_rests_169 (by decide) ?_
                  refine kx_ist8 (pc := 170) C dX9_rests_170 (by decide) rfl ?_
                  first | refine kx_inc9 (pc := 172) C (v := nI (_ + 1)) dX9_rests_172 (by decide) rfl (nI_1 _) ?_ | refine kx_inc9 (pc := 172) C dX9_rests_172 (by decide) rfl rfl ?_
                  refine kx_goto (pc := 175) C 128 dX9_rests_175 (by decide) ?_
                  first
                    | (have f1 := kx_if1 c137
                       rw [iI_T b1.1 b1.2, iI_T b2.1 b2.2] at c162
                       rw [f1, Bool.true_and, decide_eq_true (by omega)] at h4
                       exact h4)
                    | (have f1 := kx_if1 c137
                       rw [iI_T b1.1 b1.2, iI_T b2.1 b2.2] at c162
                       rw [f1, Bool.true_and, decide_eq_false (by omega)] at h4
                       exact h4)
                    | (have f1 := Bool.eq_false_iff.mpr (kx_if0 c137)
                       rw [f1, Bool.false_and] at h4
                       exact h4)
                · refine kx_ald0 (pc := 140) C dX9_rests_140 ?_
                  refine kx_ild1 (pc := 141) C dX9_rests_141 ?_
                  refine kx_ild2 (pc := 142) C dX9_rests_142 ?_
                  refine kx_ild6 (pc := 143) C dX9_rests_143 ?_
                  refine kx_ild9 (pc := 145) C dX9_rests_145 ?_
                  refine kx_iconst (pc := 147) C (v := nI 1) dX9_rests_147 (by decide) ?_
                  refine kx_callVI5 (pc := 148) C cs_X9_123 ob_127 (m_X9_points _ hM hRB (by omega) (by omega) (by omega) (by omega)) (by decide) dX9_rests_148 (Nat.le_of_ble_eq_true rfl) (fun r148 h148 q148 => ?_)
                  obtain ⟨z148, rfl⟩ := q148
                  have z148 := z148.symm
                  subst z148
                  rw [if_neg (show ¬ nI 1 = (0 : Int32) by decide)]
                  refine kx_ald0 (pc := 151) C dX9_rests_151 ?_
                  refine kx_ild1 (pc := 152) C dX9_rests_152 ?_
                  refine kx_ild2 (pc := 153) C dX9_rests_153 ?_
                  refine kx_ild6 (pc := 154) C dX9_rests_154 ?_
                  refine kx_ild7 (pc := 156) C dX9_rests_156 ?_
                  refine kx_iconst (pc := 158) C (v := nI 1) dX9_rests_158 (by decide) ?_
                  refine kx_callVI5 (pc := 159) C cs_X9_123 ob_127 (m_X9_points _ hM hRB (by omega) (by omega) (by omega) (by omega)) (by decide) dX9_rests_159 (Nat.le_of_ble_eq_true rfl) (fun r159 h159 q159 => ?_)
                  obtain ⟨z159, rfl⟩ := q159
                  have z159 := z159.symm
                  subst z159
                  rw [if_neg (show ¬ nI 1 = (0 : Int32) by decide)]
                  refine kx_icmp_gtI (pc := 162) C 169 dX9_rests_162 (by decide) (fun c162 => ?_) (fun c162 => ?_)
                  · refine kx_iconst (pc := 169) C (v := nI 0) dX9_rests_169 (by decide) ?_
                    refine kx_ist8 (pc := 170) C dX9_rests_170 (by decide) rfl ?_
                    first | refine kx_inc9 (pc := 172) C (v := nI (_ + 1)) dX9_rests_172 (by decide) rfl (nI_1 _) ?_ | refine kx_inc9 (pc := 172) C dX9_rests_172 (by decide) rfl rfl ?_
                    refine kx_goto (pc := 175) C 128 dX9_rests_175 (by decide) ?_
                    first
                      | (have f1 := kx_if1 c137
                         rw [iI_T b1.1 b1.2, iI_T b2.1 b2.2] at c162
                         rw [f1, Bool.true_and, decide_eq_true (by omega)] at h4
                         exact h4)
                      | (have f1 := kx_if1 c137
                         rw [iI_T b1.1 b1.2, iI_T b2.1 b2.2] at c162
                         rw [f1, Bool.true_and, decide_eq_false (by omega)] at h4
                         exact h4)
                      | (have f1 := Bool.eq_false_iff.mpr (kx_if0 c137)
                         rw [f1, Bool.false_and] at h4
                         exact h4)
                  · refine kx_iconst (pc := 165) C (v := nI 1) dX9_rests_165 (by decide) ?_
                    refine kx_goto (pc := 166) C 170 dX9_rests_166 (by decide) ?_
                    refine kx_ist8 (pc := 170) C dX9_rests_170 (by decide) rfl ?_
                    first | refine kx_inc9 (pc := 172) C (v := nI (_ + 1)) dX9_rests_172 (by decide) rfl (nI_1 _) ?_ | refine kx_inc9 (pc := 172) C dX9_rests_172 (by decide) rfl rfl ?_
                    refine kx_goto (pc := 175) C 128 dX9_rests_175 (by decide) ?_
                    first
                      | (have f1 := kx_if1 c137
                         rw [iI_T b1.1 b1.2, iI_T b2.1 b2.2] at c162
                         rw [f1, Bool.true_and, decide_eq_true (by omega)] at h4
                         exact h4)
                      | (have f1 := kx_if1 c137
                         rw [iI_T b1.1 b1.2, iI_T b2.1 b2.2] at c162
                         rw [f1, Bool.true_and, decide_eq_false (by omega)] at h4
                         exact h4)
                      | (have f1 := Bool.eq_false_iff.mpr (kx_if0 c137)
                         rw [f1, Bool.false_and] at h4
                         exact h4)
          have lk : ∀ (r k : Nat), a (81 + t) - k = r → k ≤ a (81 + t) → F 68 [some (.ref 127), some (.int (nI e)), some (.int (nI t)), some (.int w), some (.int (nI (sp_ct (sp_Rx (sp_tf a e t) (a (81 + t))) (10 * j + p)))), some (.int (sp_Rf (sp_tf a e t) (a (81 + t)) (10 * j + p))), some (.int (nI (j + 1))), some (.int (nI p)), some (.int (if sp_all (fun k => decide (sp_P0 (sp_tf a e t) (a (81 + t)) (k + 1) p ≤ sp_P0 (sp_tf a e t) (a (81 + t)) (j + 1) p)) k = true then 1 else 0)), some (.int (nI (k + 1)))] [] h := by
            intro r
            induction r with
            | zero =>
              intro k hr hk
              have ek : k = a (81 + t) := by omega
              subst ek
              have h4 := lq 10 0 (by omega) (by omega)
              rw [show ∀ b : Bool, (b && sp_all (fun q => decide (sp_P1 (sp_tf a e t) (a (81 + t)) (j + 1) q ≤ sp_P1 (sp_tf a e t) (a (81 + t)) (j + 1) p)) 0) = b from Bool.and_true] at h4
              refine kx_ild9 (pc := 68) C dX9_rests_68 ?_
              refine kx_ald0 (pc := 70) C dX9_rests_70 ?_
              refine kx_getr (pc := 71) C fl_X9_7 fd_127_0 dX9_rests_71 ?_
              refine kx_bipush (pc := 74) C (v := nI 81) dX9_rests_74 (by decide) ?_
              refine kx_ild2 (pc := 76) C dX9_rests_76 ?_
              first | refine kx_iaddN (pc := 77) C dX9_rests_77 ?_ | refine kx_iadd (pc := 77) C dX9_rests_77 ?_
              refine kx_iald (pc := 78) C ia_128 (by omega) hL dX9_rests_78 ?_
              refine kx_icmp_gtN (pc := 79) C 125 (by omega) (by omega) dX9_rests_79 (by decide) (fun c79 => ?_) (fun c79 => ?_)
              · refine kx_iconst (pc := 125) C (v := nI 0) dX9_rests_125 (by decide) ?_
                refine kx_ist9 (pc := 126) C dX9_rests_126 (by decide) rfl ?_
                exact h4
              · omega
            | succ r ih3 =>
              intro k hr hk
              have h4 := ih3 (k + 1) (by omega) (by omega)
              rw [show sp_all (fun k => decide (sp_P0 (sp_tf a e t) (a (81 + t)) (k + 1) p ≤ sp_P0 (sp_tf a e t) (a (81 + t)) (j + 1) p)) (k + 1) = (sp_all (fun k => decide (sp_P0 (sp_tf a e t) (a (81 + t)) (k + 1) p ≤ sp_P0 (sp_tf a e t) (a (81 + t)) (j + 1) p)) k && decide (sp_P0 (sp_tf a e t) (a (81 + t)) (k + 1) p ≤ sp_P0 (sp_tf a e t) (a (81 + t)) (j + 1) p)) from rfl] at h4
              have b1 := sp_P0_b (f := sp_tf a e t) (n := a (81 + t)) (j := k + 1) (p := p) hl (by omega)
              have b2 := sp_P0_b (f := sp_tf a e t) (n := a (81 + t)) (j := j + 1) (p := p) hl (by omega)
              refine kx_ild9 (pc := 68) C dX9_rests_68 ?_
              refine kx_ald0 (pc := 70) C dX9_rests_70 ?_
              refine kx_getr (pc := 71) C fl_X9_7 fd_127_0 dX9_rests_71 ?_
              refine kx_bipush (pc := 74) C (v := nI 81) dX9_rests_74 (by decide) ?_
              refine kx_ild2 (pc := 76) C dX9_rests_76 ?_
              first | refine kx_iaddN (pc := 77) C dX9_rests_77 ?_ | refine kx_iadd (pc := 77) C dX9_rests_77 ?_
              refine kx_iald (pc := 78) C ia_128 (by omega) hL dX9_rests_78 ?_
              refine kx_icmp_gtN (pc := 79) C 125 (by omega) (by omega) dX9_rests_79 (by decide) (fun c79 => ?_) (fun c79 => ?_)
              · omega
              · refine kx_ild8 (pc := 82) C dX9_rests_82 ?_
                refine kx_if_eq (pc := 84) C 116 dX9_rests_84 (by decide) (fun c84 => ?_) (fun c84 => ?_)
                · refine kx_iconst (pc := 116) C (v := nI 0) dX9_rests_116 (by decide) ?_
                  refine kx_ist8 (pc := 117) C dX9_rests_117 (by decide) rfl ?_
                  first | refine kx_inc9 (pc := 119) C (v := nI (_ + 1)) dX9_rests_119 (by decide) rfl (nI_1 _) ?_ | refine kx_inc9 (pc := 119) C dX9_rests_119 (by decide) rfl rfl ?_
                  refine kx_goto (pc := 122) C 68 dX9_rests_122 (by decide) ?_
                  first
                    | (have f1 := kx_if1 c84
                       rw [iI_T b1.1 b1.2, iI_T b2.1 b2.2] at c109
                       rw [f1, Bool.true_and, decide_eq_true (by omega)] at h4
                       exact h4)
                    | (have f1 := kx_if1 c84
                       rw [iI_T b1.1 b1.2, iI_T b2.1 b2.2] at c109
                       rw [f1, Bool.true_and, decide_eq_false (by omega)] at h4
                       exact h4)
                    | (have f1 := Bool.eq_false_iff.mpr (kx_if0 c84)
                       rw [f1, Bool.false_and] at h4
                       exact h4)
                · refine kx_ald0 (pc := 87) C dX9_rests_87 ?_
                  refine kx_ild1 (pc := 88) C dX9_rests_88 ?_
                  refine kx_ild2 (pc := 89) C dX9_rests_89 ?_
                  refine kx_ild9 (pc := 90) C dX9_rests_90 ?_
                  refine kx_ild7 (pc := 92) C dX9_rests_92 ?_
                  refine kx_iconst (pc := 94) C (v := nI 0) dX9_rests_94 (by decide) ?_
                  refine kx_callVI5 (pc := 95) C cs_X9_123 ob_127 (m_X9_points _ hM hRB (by omega) (by omega) (by omega) (by omega)) (by decide) dX9_rests_95 (Nat.le_of_ble_eq_true rfl) (fun r95 h95 q95 => ?_)
                  obtain ⟨z95, rfl⟩ := q95
                  have z95 := z95.symm
                  subst z95
                  rw [if_pos (show nI 0 = (0 : Int32) from rfl)]
                  refine kx_ald0 (pc := 98) C dX9_rests_98 ?_
                  refine kx_ild1 (pc := 99) C dX9_rests_99 ?_
                  refine kx_ild2 (pc := 100) C dX9_rests_100 ?_
                  refine kx_ild6 (pc := 101) C dX9_rests_101 ?_
                  refine kx_ild7 (pc := 103) C dX9_rests_103 ?_
                  refine kx_iconst (pc := 105) C (v := nI 0) dX9_rests_105 (by decide) ?_
                  refine kx_callVI5 (pc := 106) C cs_X9_123 ob_127 (m_X9_points _ hM hRB (by omega) (by omega) (by omega) (by omega)) (by decide) dX9_rests_106 (Nat.le_of_ble_eq_true rfl) (fun r106 h106 q106 => ?_)
                  obtain ⟨z106, rfl⟩ := q106
                  have z106 := z106.symm
                  subst z106
                  rw [if_pos (show nI 0 = (0 : Int32) from rfl)]
                  refine kx_icmp_gtI (pc := 109) C 116 dX9_rests_109 (by decide) (fun c109 => ?_) (fun c109 => ?_)
                  · refine kx_iconst (pc := 116) C (v := nI 0) dX9_rests_116 (by decide) ?_
                    refine kx_ist8 (pc := 117) C dX9_rests_117 (by decide) rfl ?_
                    first | refine kx_inc9 (pc := 119) C (v := nI (_ + 1)) dX9_rests_119 (by decide) rfl (nI_1 _) ?_ | refine kx_inc9 (pc := 119) C dX9_rests_119 (by decide) rfl rfl ?_
                    refine kx_goto (pc := 122) C 68 dX9_rests_122 (by decide) ?_
                    first
                      | (have f1 := kx_if1 c84
                         rw [iI_T b1.1 b1.2, iI_T b2.1 b2.2] at c109
                         rw [f1, Bool.true_and, decide_eq_true (by omega)] at h4
                         exact h4)
                      | (have f1 := kx_if1 c84
                         rw [iI_T b1.1 b1.2, iI_T b2.1 b2.2] at c109
                         rw [f1, Bool.true_and, decide_eq_false (by omega)] at h4
                         exact h4)
                      | (have f1 := Bool.eq_false_iff.mpr (kx_if0 c84)
                         rw [f1, Bool.false_and] at h4
                         exact h4)
                  · refine kx_iconst (pc := 112) C (v := nI 1) dX9_rests_112 (by decide) ?_
                    refine kx_goto (pc := 113) C 117 dX9_rests_113 (by decide) ?_
                    refine kx_ist8 (pc := 117) C dX9_rests_117 (by decide) rfl ?_
                    first | refine kx_inc9 (pc := 119) C (v := nI (_ + 1)) dX9_rests_119 (by decide) rfl (nI_1 _) ?_ | refine kx_inc9 (pc := 119) C dX9_rests_119 (by decide) rfl rfl ?_
                    refine kx_goto (pc := 122) C 68 dX9_rests_122 (by decide) ?_
                    first
                      | (have f1 := kx_if1 c84
                         rw [iI_T b1.1 b1.2, iI_T b2.1 b2.2] at c109
                         rw [f1, Bool.true_and, decide_eq_true (by omega)] at h4
                         exact h4)
                      | (have f1 := kx_if1 c84
                         rw [iI_T b1.1 b1.2, iI_T b2.1 b2.2] at c109
                         rw [f1, Bool.true_and, decide_eq_false (by omega)] at h4
                         exact h4)
                      | (have f1 := Bool.eq_false_iff.mpr (kx_if0 c84)
                         rw [f1, Bool.false_and] at h4
                         exact h4)
          refine kx_ild7 (pc := 55) C dX9_rests_55 ?_
          refine kx_bipush (pc := 57) C (v := nI 10) dX9_rests_57 (by decide) ?_
          refine kx_icmp_geN (pc := 59) C 226 (by omega) (by omega) dX9_rests_59 (by decide) (fun c59 => ?_) (fun c59 => ?_)
          · omega
          · refine kx_iconst (pc := 62) C (v := nI 1) dX9_rests_62 (by decide) ?_
            refine kx_ist8 (pc := 63) C dX9_rests_63 (by decide) rfl ?_
            refine kx_iconst (pc := 65) C (v := nI 1) dX9_rests_65 (by decide) ?_
            refine kx_ist9 (pc := 66) C dX9_rests_66 (by decide) rfl ?_
            exact lk _ 0 rfl (by omega)
      refine kx_ild6 (pc := 38) C dX9_rests_38 ?_
      refine kx_ald0 (pc := 40) C dX9_rests_40 ?_
      refine kx_getr (pc := 41) C fl_X9_7 fd_127_0 dX9_rests_41 ?_
      refine kx_bipush (pc := 44) C (v := nI 81) dX9_rests_44 (by decide) ?_
      refine kx_ild2 (pc := 46) C dX9_rests_46 ?_
      first | refine kx_iaddN (pc := 47) C dX9_rests_47 ?_ | refine kx_iadd (pc := 47) C dX9_rests_47 ?_
      refine kx_iald (pc := 48) C ia_128 (by omega) hL dX9_rests_48 ?_
      refine kx_icmp_gtN (pc := 49) C 232 (by omega) (by omega) dX9_rests_49 (by decide) (fun c49 => ?_) (fun c49 => ?_)
      · omega
      · refine kx_iconst (pc := 52) C (v := nI 0) dX9_rests_52 (by decide) ?_
        refine kx_ist7 (pc := 53) C dX9_rests_53 (by decide) rfl ?_
        have h3 := inner 10 0 o8 o9 (by omega) (by omega)
        rw [Nat.add_zero] at h3
        exact h3
  refine kx_ald0 (pc := 0) C dX9_rests_0 ?_
  refine kx_ild1 (pc := 1) C dX9_rests_1 ?_
  refine kx_callVI1 (pc := 2) C cs_X9_90 ob_127 (m_X9_isTeller _ (by assumption) (by omega)) (by decide) dX9_rests_2 (Nat.le_of_ble_eq_true rfl) (fun r2 h2 q2 => ?_)
  obtain ⟨z2, rfl⟩ := q2
  have z2 := z2.symm
  subst z2
  refine kx_if_eq (pc := 5) C 26 dX9_rests_5 (by decide) (fun c5 => ?_) (fun c5 => ?_)
  · refine kx_iconst (pc := 26) C (v := -1) dX9_rests_26 (by decide) ?_
    exact hR dX9_rests_27 rfl ⟨rfl, by
      rw [sp_rests, if_neg (fun z => by
        first
          | exact kx_if0 c23 z.2.2
          | exact kx_if0 c13 z.2.1
          | exact kx_if0 c5 z.1)]⟩
  · refine kx_ald0 (pc := 8) C dX9_rests_8 ?_
    refine kx_ild2 (pc := 9) C dX9_rests_9 ?_
    refine kx_callVI1 (pc := 10) C cs_X9_72 ob_127 (m_X9_isTale _ (by assumption) (by omega)) (by decide) dX9_rests_10 (Nat.le_of_ble_eq_true rfl) (fun r10 h10 q10 => ?_)
    obtain ⟨z10, rfl⟩ := q10
    have z10 := z10.symm
    subst z10
    refine kx_if_eq (pc := 13) C 26 dX9_rests_13 (by decide) (fun c13 => ?_) (fun c13 => ?_)
    · refine kx_iconst (pc := 26) C (v := -1) dX9_rests_26 (by decide) ?_
      exact hR dX9_rests_27 rfl ⟨rfl, by
        rw [sp_rests, if_neg (fun z => by
          first
            | exact kx_if0 c23 z.2.2
            | exact kx_if0 c13 z.2.1
            | exact kx_if0 c5 z.1)]⟩
    · refine kx_ild3 (pc := 16) C dX9_rests_16 ?_
      refine kx_i2l (pc := 17) C dX9_rests_17 ?_
      refine kx_lconst (pc := 18) C (v := 0) dX9_rests_18 (by decide) ?_
      refine kx_lconst (pc := 19) C (v := 1) dX9_rests_19 (by decide) ?_
      refine kx_callSI3 (pc := 20) C cs_X9_52 (m_X9_in (p := 0) (q := _) (r := 1) (by rfl) (kx_L _) (by rfl)) (by decide) dX9_rests_20 (Nat.le_of_ble_eq_true rfl) (fun r20 h20 q20 => ?_)
      obtain ⟨z20, rfl⟩ := q20
      have z20 := z20.symm
      subst z20
      refine kx_if_ne (pc := 23) C 28 dX9_rests_23 (by decide) (fun c23 => ?_) (fun c23 => ?_)
      · have c5 := kx_if1 c5
        have c13 := kx_if1 c13
        have c23 := kx_if1 c23
        obtain ⟨x, rfl, hx, hx2⟩ := kx_nat c5.1
        obtain ⟨y, rfl, hy, hy2⟩ := kx_nat c13.1
        refine kx_iconst (pc := 28) C (v := nI 0) dX9_rests_28 (by decide) ?_
        refine kx_ist4 (pc := 29) C dX9_rests_29 (by decide) rfl ?_
        refine kx_bipush (pc := 31) C (v := -4) dX9_rests_31 (by decide) ?_
        refine kx_ist5 (pc := 33) C dX9_rests_33 (by decide) rfl ?_
        refine kx_iconst (pc := 35) C (v := nI 1) dX9_rests_35 (by decide) ?_
        refine kx_ist6 (pc := 36) C dX9_rests_36 (by decide) rfl ?_
        refine main x y (by omega) (by omega) (fun r er => ?_) _ 0 none none none rfl (by omega)
        rw [sp_rests, if_pos ⟨c5, c13, c23⟩, kx_n, kx_n, kx_n_nI hx2, kx_n_nI hy2]
        exact er
      · refine kx_iconst (pc := 26) C (v := -1) dX9_rests_26 (by decide) ?_
        exact hR dX9_rests_27 rfl ⟨rfl, by
          rw [sp_rests, if_neg (fun z => by
            first
              | exact kx_if0 c23 z.2.2
              | exact kx_if0 c13 z.2.1
              | exact kx_if0 c5 z.1)]⟩
