theorem sp_im_eq (a : Nat → Nat) (s : Nat) (dg : Nat → Nat) (e t : Nat) : (if 0 < sp_hv a s dg e t ∧ a 3 + 1 + e ≤ sp_hv a s dg e t + a 8 then (1 : Int32) else 0) = nI (sp_im a s dg e t) := by unfold sp_im; split <;> rfl
theorem sp_im_le (a : Nat → Nat) (s : Nat) (dg : Nat → Nat) (e t : Nat) : sp_im a s dg e t ≤ 1 := by unfold sp_im; split <;> omega
set_option maxHeartbeats 4000000 in
set_option maxRecDepth 100000 in
theorem m_X9_sortsBy {h : kx_H} {a dg : Nat → Nat} {s n : Nat} (hM : ∀ k, k < 141 → k ≠ 4 → k ≠ 5 → k ≠ 6 → h 128 k = nI (a k)) (hB : st_B a) (hs : s < 4) (hn5 : n ≤ 5) (hd : ∀ k, k < n → h 134 k = nI (dg k)) (hd8 : ∀ k, k < n → dg k < 8) : kx_MI 2 yX9_sortsBy cX9_sortsBy 10 .int [.ref 127, .int (nI s), .int (nI n)] h (fun r h1 => r = nI (sp_su a s dg n) ∧ ∀ d j, d ≠ 136 → h1 d j = h d j) := by
  refine kx_mkI (own := RX9) (L0 := [some (.ref 127), some (.int (nI s)), some (.int (nI n)), none, none, none, none, none, none, none]) rfl (by decide +kernel) (Nat.le_of_ble_eq_true rfl) rfl (fun F C hR => ?_)
  obtain ⟨⟨b0, b1, b2, b3, b8, b8'⟩, hRB, bl, byy, bh, bz, bb⟩ := id hB
  have hev : h 128 3 = nI (a 3) := hM 3 (by omega) (by omega) (by omega) (by omega)
  have hme : h 128 8 = nI (a 8) := hM 8 (by omega) (by omega) (by omega) (by omega)
  have main : ∀ (q k : Nat) (g : kx_H) (o5 o6 o7 o8 o9 : Option Value), n - k = q → k ≤ n → (∀ t, t < 8 → g 136 t = nI (sp_hv a s dg k t)) → (∀ d j, d ≠ 136 → g d j = h d j) → F 39 [some (.ref 127), some (.int (nI s)), some (.int (nI n)), some (.int (nI (sp_su a s dg k))), some (.int (nI k)), o5, o6, o7, o8, o9] [] g := by
    intro q
    induction q with
    | zero =>
      intro k g o5 o6 o7 o8 o9 hq hk g1 g2
      have ek : k = n := by omega
      subst ek
      refine kx_ild4 (pc := 39) C dX9_sortsBy_39 ?_
      refine kx_ild2 (pc := 41) C dX9_sortsBy_41 ?_
      refine kx_icmp_geN (pc := 42) C 164 (by omega) (by omega) dX9_sortsBy_42 (by decide) (fun c42 => ?_) (fun c42 => ?_)
      · refine kx_ild3 (pc := 164) C dX9_sortsBy_164 ?_
        exact hR dX9_sortsBy_165 rfl ⟨rfl, g2⟩
      · omega
    | succ q ih =>
      intro k g o5 o6 o7 o8 o9 hq hk g1 g2
      have ht := hd8 k (by omega)
      have er : g 134 k = nI (dg k) := by rw [g2 _ _ (by omega)]; exact hd k (by omega)
      have e3 : g 128 3 = nI (a 3) := by rw [g2 _ _ (by omega)]; exact hev
      have e8 : g 128 8 = nI (a 8) := by rw [g2 _ _ (by omega)]; exact hme
      have eh := g1 (dg k) ht
      have hle := sp_hv_le (a := a) (s := s) (dg := dg) (fun t ht => bh s t hs ht) (e := k) ht
      have im1 := sp_im_le a s dg k (dg k)
      have hl9 := hRB.1 (dg k) ht
      have eL : g 128 (81 + dg k) = nI (a (81 + dg k)) := by rw [g2 _ _ (by omega)]; exact hM _ (by omega) (by omega) (by omega) (by omega)
      have h3 := ih (k + 1)
      rw [show sp_su a s dg (k + 1) = sp_su a s dg k + sp_sw (sp_im a s dg k (dg k)) (fun i => a (9 + 9 * dg k + i)) (a (81 + dg k)) from rfl] at h3
      have inner : ∀ (c i : Nat) (o9 : Option Value), a (81 + dg k) - i = c → i ≤ a (81 + dg k) → F 85 [some (.ref 127), some (.int (nI s)), some (.int (nI n)), some (.int (nI (sp_su a s dg k + sp_sw (sp_im a s dg k (dg k)) (fun i => a (9 + 9 * dg k + i)) i))), some (.int (nI k)), some (.int (nI (dg k))), some (.int (nI (a 3 + 1 + k))), some (.int (nI (sp_im a s dg k (dg k)))), some (.int (nI i)), o9] [] g := by
        intro c
        induction c with
        | zero =>
          intro i o9 hc hi
          have ei : i = a (81 + dg k) := by omega
          refine kx_ild8 (pc := 85) C dX9_sortsBy_85 ?_
          refine kx_ald0 (pc := 87) C dX9_sortsBy_87 ?_
          refine kx_getr (pc := 88) C fl_X9_7 fd_127_0 dX9_sortsBy_88 ?_
          refine kx_bipush (pc := 91) C (v := nI 81) dX9_sortsBy_91 (by decide) ?_
          refine kx_ild5 (pc := 93) C dX9_sortsBy_93 ?_
          first | refine kx_iaddN (pc := 95) C dX9_sortsBy_95 ?_ | refine kx_iadd (pc := 95) C dX9_sortsBy_95 ?_
          refine kx_iald (pc := 96) C ia_128 (by omega) eL dX9_sortsBy_96 ?_
          refine kx_icmp_geN (pc := 97) C 149 (by omega) (by omega) dX9_sortsBy_97 (by decide) (fun c97 => ?_) (fun c97 => ?_)
          · refine kx_ald0 (pc := 149) C dX9_sortsBy_149 ?_
            refine kx_getr (pc := 150) C fl_X9_34 fd_127_10 dX9_sortsBy_150 ?_
            refine kx_ild5 (pc := 153) C dX9_sortsBy_153 ?_
            refine kx_ild6 (pc := 155) C dX9_sortsBy_155 ?_
            refine kx_iast (pc := 157) C ia_136 (by omega) dX9_sortsBy_157 ?_
            first | refine kx_inc4 (pc := 158) C (v := nI (_ + 1)) dX9_sortsBy_158 (by decide) rfl (nI_1 _) ?_ | refine kx_inc4 (pc := 158) C dX9_sortsBy_158 (by decide) rfl rfl ?_
            refine kx_goto (pc := 161) C 39 dX9_sortsBy_161 (by decide) ?_
            rw [ei]
            refine h3 _ _ _ _ _ _ (by omega) (by omega) (fun t ht => ?_) (fun d j hd => by rw [kx_up, if_neg (by omega)]; exact g2 d j hd)
            rw [show sp_hv a s dg (k + 1) t = if t = dg k then a 3 + 1 + k else sp_hv a s dg k t from rfl]
            by_cases z : t = dg k
            · rw [kx_up, if_pos ⟨rfl, z⟩, if_pos z]
            · rw [kx_up, if_neg (by omega), if_neg z]; exact g1 t ht
          · omega
        | succ c ih2 =>
          intro i o9 hc hi
          have ex : g 128 (9 + 9 * dg k + i) = nI (a (9 + 9 * dg k + i)) := by rw [g2 _ _ (by omega)]; exact hM _ (by omega) (by omega) (by omega) (by omega)
          have a9 := hRB.2.1 (dg k) i ht (by omega)
          have h4 := ih2 (i + 1)
          rw [show sp_sw (sp_im a s dg k (dg k)) (fun i => a (9 + 9 * dg k + i)) (i + 1) = sp_sw (sp_im a s dg k (dg k)) (fun i => a (9 + 9 * dg k + i)) i + sp_so (sp_im a s dg k (dg k)) (a (9 + 9 * dg k + i)) from rfl, ← Nat.add_assoc] at h4
          refine kx_ild8 (pc := 85) C dX9_sortsBy_85 ?_
          refine kx_ald0 (pc := 87) C dX9_sortsBy_87 ?_
          refine kx_getr (pc := 88) C fl_X9_7 fd_127_0 dX9_sortsBy_88 ?_
          refine kx_bipush (pc := 91) C (v := nI 81) dX9_sortsBy_91 (by decide) ?_
          refine kx_ild5 (pc := 93) C dX9_sortsBy_93 ?_
          first | refine kx_iaddN (pc := 95) C dX9_sortsBy_95 ?_ | refine kx_iadd (pc := 95) C dX9_sortsBy_95 ?_
          refine kx_iald (pc := 96) C ia_128 (by omega) eL dX9_sortsBy_96 ?_
          refine kx_icmp_geN (pc := 97) C 149 (by omega) (by omega) dX9_sortsBy_97 (by decide) (fun c97 => ?_) (fun c97 => ?_)
          · omega
          · refine kx_ald0 (pc := 100) C dX9_sortsBy_100 ?_
            refine kx_getr (pc := 101) C fl_X9_7 fd_127_0 dX9_sortsBy_101 ?_
            refine kx_bipush (pc := 104) C (v := nI 9) dX9_sortsBy_104 (by decide) ?_
            refine kx_bipush (pc := 106) C (v := nI 9) dX9_sortsBy_106 (by decide) ?_
            refine kx_ild5 (pc := 108) C dX9_sortsBy_108 ?_
            first | refine kx_imulN (pc := 110) C dX9_sortsBy_110 ?_ | refine kx_imul (pc := 110) C dX9_sortsBy_110 ?_
            first | refine kx_iaddN (pc := 111) C dX9_sortsBy_111 ?_ | refine kx_iadd (pc := 111) C dX9_sortsBy_111 ?_
            refine kx_ild8 (pc := 112) C dX9_sortsBy_112 ?_
            first | refine kx_iaddN (pc := 114) C dX9_sortsBy_114 ?_ | refine kx_iadd (pc := 114) C dX9_sortsBy_114 ?_
            refine kx_iald (pc := 115) C ia_128 (by omega) ex dX9_sortsBy_115 ?_
            refine kx_callSI1 (pc := 116) C cs_X9_111 (m_X9_sortOf (by omega)) (by decide) dX9_sortsBy_116 (Nat.le_of_ble_eq_true rfl) (fun r116 h116 q116 => ?_)
            obtain ⟨z116, rfl⟩ := q116
            have z116 := z116.symm
            subst z116
            refine kx_ist9 (pc := 119) C dX9_sortsBy_119 (by decide) rfl ?_
            refine kx_ild3 (pc := 121) C dX9_sortsBy_121 ?_
            refine kx_ild7 (pc := 122) C dX9_sortsBy_122 ?_
            refine kx_if_eqN (pc := 124) C 139 (by omega) dX9_sortsBy_124 (by decide) (fun c124 => ?_) (fun c124 => ?_)
            · refine kx_ild9 (pc := 139) C dX9_sortsBy_139 ?_
              refine kx_iaddN (pc := 141) C dX9_sortsBy_141 ?_
              refine kx_ist3 (pc := 142) C dX9_sortsBy_142 (by decide) rfl ?_
              first | refine kx_inc8 (pc := 143) C (v := nI (_ + 1)) dX9_sortsBy_143 (by decide) rfl (nI_1 _) ?_ | refine kx_inc8 (pc := 143) C dX9_sortsBy_143 (by decide) rfl rfl ?_
              refine kx_goto (pc := 146) C 85 dX9_sortsBy_146 (by decide) ?_
              first
                | (rw [show sp_so (sp_im a s dg k (dg k)) (a (9 + 9 * dg k + i)) = a (9 + 9 * dg k + i) / 3 from if_pos c124] at h4
                   exact h4 _ (by omega) (by omega))
                | (rw [show sp_so (sp_im a s dg k (dg k)) (a (9 + 9 * dg k + i)) = a (9 + 9 * dg k + i) / 3 by unfold sp_so; rw [if_neg (by omega)]; omega] at h4
                   exact h4 _ (by omega) (by omega))
                | (rw [show sp_so (sp_im a s dg k (dg k)) (a (9 + 9 * dg k + i)) = a (9 + 9 * dg k + i) / 3 - 1 from if_neg (by omega)] at h4
                   exact h4 _ (by omega) (by omega))
            · refine kx_ild9 (pc := 127) C dX9_sortsBy_127 ?_
              refine kx_if_leN (pc := 129) C 139 (by omega) dX9_sortsBy_129 (by decide) (fun c129 => ?_) (fun c129 => ?_)
              · refine kx_ild9 (pc := 139) C dX9_sortsBy_139 ?_
                refine kx_iaddN (pc := 141) C dX9_sortsBy_141 ?_
                refine kx_ist3 (pc := 142) C dX9_sortsBy_142 (by decide) rfl ?_
                first | refine kx_inc8 (pc := 143) C (v := nI (_ + 1)) dX9_sortsBy_143 (by decide) rfl (nI_1 _) ?_ | refine kx_inc8 (pc := 143) C dX9_sortsBy_143 (by decide) rfl rfl ?_
                refine kx_goto (pc := 146) C 85 dX9_sortsBy_146 (by decide) ?_
                first
                  | (rw [show sp_so (sp_im a s dg k (dg k)) (a (9 + 9 * dg k + i)) = a (9 + 9 * dg k + i) / 3 from if_pos c124] at h4
                     exact h4 _ (by omega) (by omega))
                  | (rw [show sp_so (sp_im a s dg k (dg k)) (a (9 + 9 * dg k + i)) = a (9 + 9 * dg k + i) / 3 by unfold sp_so; rw [if_neg (by omega)]; omega] at h4
                     exact h4 _ (by omega) (by omega))
                  | (rw [show sp_so (sp_im a s dg k (dg k)) (a (9 + 9 * dg k + i)) = a (9 + 9 * dg k + i) / 3 - 1 from if_neg (by omega)] at h4
                     exact h4 _ (by omega) (by omega))
              · refine kx_ild9 (pc := 132) C dX9_sortsBy_132 ?_
                refine kx_iconst (pc := 134) C (v := nI 1) dX9_sortsBy_134 (by decide) ?_
                refine kx_isubN (pc := 135) C (by omega) dX9_sortsBy_135 ?_
                refine kx_goto (pc := 136) C 141 dX9_sortsBy_136 (by decide) ?_
                refine kx_iaddN (pc := 141) C dX9_sortsBy_141 ?_
                refine kx_ist3 (pc := 142) C dX9_sortsBy_142 (by decide) rfl ?_
                first | refine kx_inc8 (pc := 143) C (v := nI (_ + 1)) dX9_sortsBy_143 (by decide) rfl (nI_1 _) ?_ | refine kx_inc8 (pc := 143) C dX9_sortsBy_143 (by decide) rfl rfl ?_
                refine kx_goto (pc := 146) C 85 dX9_sortsBy_146 (by decide) ?_
                first
                  | (rw [show sp_so (sp_im a s dg k (dg k)) (a (9 + 9 * dg k + i)) = a (9 + 9 * dg k + i) / 3 from if_pos c124] at h4
                     exact h4 _ (by omega) (by omega))
                  | (rw [show sp_so (sp_im a s dg k (dg k)) (a (9 + 9 * dg k + i)) = a (9 + 9 * dg k + i) / 3 by unfold sp_so; rw [if_neg (by omega)]; omega] at h4
                     exact h4 _ (by omega) (by omega))
                  | (rw [show sp_so (sp_im a s dg k (dg k)) (a (9 + 9 * dg k + i)) = a (9 + 9 * dg k + i) / 3 - 1 from if_neg (by omega)] at h4
                     exact h4 _ (by omega) (by omega))
      refine kx_ild4 (pc := 39) C dX9_sortsBy_39 ?_
      refine kx_ild2 (pc := 41) C dX9_sortsBy_41 ?_
      refine kx_icmp_geN (pc := 42) C 164 (by omega) (by omega) dX9_sortsBy_42 (by decide) (fun c42 => ?_) (fun c42 => ?_)
      · omega
      · refine kx_ald0 (pc := 45) C dX9_sortsBy_45 ?_
        refine kx_getr (pc := 46) C fl_X9_28 fd_127_8 dX9_sortsBy_46 ?_
        refine kx_ild4 (pc := 49) C dX9_sortsBy_49 ?_
        refine kx_iald (pc := 51) C ia_134 (by omega) er dX9_sortsBy_51 ?_
        refine kx_ist5 (pc := 52) C dX9_sortsBy_52 (by decide) rfl ?_
        refine kx_ald0 (pc := 54) C dX9_sortsBy_54 ?_
        refine kx_getr (pc := 55) C fl_X9_7 fd_127_0 dX9_sortsBy_55 ?_
        refine kx_iconst (pc := 58) C (v := nI 3) dX9_sortsBy_58 (by decide) ?_
        refine kx_iald (pc := 59) C ia_128 (by omega) e3 dX9_sortsBy_59 ?_
        refine kx_iconst (pc := 60) C (v := nI 1) dX9_sortsBy_60 (by decide) ?_
        refine kx_iaddN (pc := 61) C dX9_sortsBy_61 ?_
        refine kx_ild4 (pc := 62) C dX9_sortsBy_62 ?_
        refine kx_iaddN (pc := 64) C dX9_sortsBy_64 ?_
        refine kx_ist6 (pc := 65) C dX9_sortsBy_65 (by decide) rfl ?_
        refine kx_ald0 (pc := 67) C dX9_sortsBy_67 ?_
        refine kx_ald0 (pc := 68) C dX9_sortsBy_68 ?_
        refine kx_getr (pc := 69) C fl_X9_34 fd_127_10 dX9_sortsBy_69 ?_
        refine kx_ild5 (pc := 72) C dX9_sortsBy_72 ?_
        refine kx_iald (pc := 74) C ia_136 (by omega) eh dX9_sortsBy_74 ?_
        refine kx_ild6 (pc := 75) C dX9_sortsBy_75 ?_
        refine kx_callVI2 (pc := 77) C cs_X9_102 ob_127 (m_X9_isMind e8 (by omega) (by omega) (by omega)) (by decide) dX9_sortsBy_77 (Nat.le_of_ble_eq_true rfl) (fun r77 h77 q77 => ?_)
        obtain ⟨z77, rfl⟩ := q77
        have z77 := z77.symm
        subst z77
        rw [sp_im_eq]
        refine kx_ist7 (pc := 80) C dX9_sortsBy_80 (by decide) rfl ?_
        refine kx_iconst (pc := 82) C (v := nI 0) dX9_sortsBy_82 (by decide) ?_
        refine kx_ist8 (pc := 83) C dX9_sortsBy_83 (by decide) rfl ?_
        exact inner _ 0 o9 rfl (by omega)
  have ini : ∀ (q t : Nat) (g : kx_H), 8 - t = q → t ≤ 8 → (∀ u, u < t → g 136 u = nI (a (109 + 8 * s + u))) → (∀ d j, d ≠ 136 → g d j = h d j) → F 2 [some (.ref 127), some (.int (nI s)), some (.int (nI n)), some (.int (nI t)), none, none, none, none, none, none] [] g := by
    intro q
    induction q with
    | zero =>
      intro t g hq ht g1 g2
      refine kx_ild3 (pc := 2) C dX9_sortsBy_2 ?_
      refine kx_bipush (pc := 3) C (v := nI 8) dX9_sortsBy_3 (by decide) ?_
      refine kx_icmp_geN (pc := 5) C 34 (by omega) (by omega) dX9_sortsBy_5 (by decide) (fun c5 => ?_) (fun c5 => ?_)
      · refine kx_iconst (pc := 34) C (v := nI 0) dX9_sortsBy_34 (by decide) ?_
        refine kx_ist3 (pc := 35) C dX9_sortsBy_35 (by decide) rfl ?_
        refine kx_iconst (pc := 36) C (v := nI 0) dX9_sortsBy_36 (by decide) ?_
        refine kx_ist4 (pc := 37) C dX9_sortsBy_37 (by decide) rfl ?_
        exact main n 0 g _ _ _ _ _ (by omega) (by omega) (fun u hu => g1 u (by omega)) g2
      · omega
    | succ q ih =>
      intro t g hq ht g1 g2
      have ex : g 128 (109 + 8 * s + t) = nI (a (109 + 8 * s + t)) := by rw [g2 _ _ (by omega)]; exact hM _ (by omega) (by omega) (by omega) (by omega)
      refine kx_ild3 (pc := 2) C dX9_sortsBy_2 ?_
      refine kx_bipush (pc := 3) C (v := nI 8) dX9_sortsBy_3 (by decide) ?_
      refine kx_icmp_geN (pc := 5) C 34 (by omega) (by omega) dX9_sortsBy_5 (by decide) (fun c5 => ?_) (fun c5 => ?_)
      · omega
      · refine kx_ald0 (pc := 8) C dX9_sortsBy_8 ?_
        refine kx_getr (pc := 9) C fl_X9_34 fd_127_10 dX9_sortsBy_9 ?_
        refine kx_ild3 (pc := 12) C dX9_sortsBy_12 ?_
        refine kx_ald0 (pc := 13) C dX9_sortsBy_13 ?_
        refine kx_getr (pc := 14) C fl_X9_7 fd_127_0 dX9_sortsBy_14 ?_
        refine kx_bipush (pc := 17) C (v := nI 109) dX9_sortsBy_17 (by decide) ?_
        refine kx_bipush (pc := 19) C (v := nI 8) dX9_sortsBy_19 (by decide) ?_
        refine kx_ild1 (pc := 21) C dX9_sortsBy_21 ?_
        first | refine kx_imulN (pc := 22) C dX9_sortsBy_22 ?_ | refine kx_imul (pc := 22) C dX9_sortsBy_22 ?_
        first | refine kx_iaddN (pc := 23) C dX9_sortsBy_23 ?_ | refine kx_iadd (pc := 23) C dX9_sortsBy_23 ?_
        refine kx_ild3 (pc := 24) C dX9_sortsBy_24 ?_
        first | refine kx_iaddN (pc := 25) C dX9_sortsBy_25 ?_ | refine kx_iadd (pc := 25) C dX9_sortsBy_25 ?_
        refine kx_iald (pc := 26) C ia_128 (by omega) ex dX9_sortsBy_26 ?_
        refine kx_iast (pc := 27) C ia_136 (by omega) dX9_sortsBy_27 ?_
        first | refine kx_inc3 (pc := 28) C (v := nI (_ + 1)) dX9_sortsBy_28 (by decide) rfl (nI_1 _) ?_ | refine kx_inc3 (pc := 28) C dX9_sortsBy_28 (by decide) rfl rfl ?_
        refine kx_goto (pc := 31) C 2 dX9_sortsBy_31 (by decide) ?_
        refine ih (t + 1) _ (by omega) (by omega) (fun u hu => ?_) (fun d j hd => by rw [kx_up, if_neg (by omega)]; exact g2 d j hd)
        by_cases z : u = t
        · rw [z, kx_up, if_pos ⟨rfl, rfl⟩]
        · rw [kx_up, if_neg (by omega)]; exact g1 u (by omega)
  refine kx_iconst (pc := 0) C (v := nI 0) dX9_sortsBy_0 (by decide) ?_
  refine kx_ist3 (pc := 1) C dX9_sortsBy_1 (by decide) rfl ?_
  exact ini 8 0 h (by omega) (by omega) (fun u hu => absurd hu (by omega)) (fun d j _ => rfl)
theorem sp_pw8 {T n : Nat} (hT : T ≤ 8) (hn : n ≤ 5) : T ^ n ≤ 32768 := by
  have h1 : T ^ n ≤ 8 ^ n := Nat.pow_le_pow_left hT n
  have h2 : 8 ^ n ≤ 8 ^ 5 := Nat.pow_le_pow_right (by decide) hn
  have : (8 : Nat) ^ 5 = 32768 := by decide
  omega
theorem sp_bvx {S : Nat → Nat} {x : Nat} : sp_bv S (x + 1) = if sp_bv S x < S x + 1 then S x + 1 else sp_bv S x := rfl
theorem sp_bax {S : Nat → Nat} {x : Nat} : sp_ba S (x + 1) = if sp_bv S x < S x + 1 then x else sp_ba S x := rfl
set_option maxHeartbeats 4000000 in
set_option maxRecDepth 100000 in
theorem m_X9_store {h : kx_H} {a : Nat → Nat} (ts tn i : Int32) (hH : st_MH 128 h a) (hB : st_B a) : kx_MI 3 yX9_store cX9_store 11 .int [.ref 127, .int ts, .int tn, .int i] h (fun r h1 => r = sp_store a ts tn i ∧ ∀ d j, d ≠ 134 → d ≠ 135 → d ≠ 136 → h1 d j = h d j) := by
  refine kx_mkI (own := RX9) (L0 := [some (.ref 127), some (.int ts), some (.int tn), some (.int i), none, none, none, none, none, none, none]) rfl (by decide +kernel) (Nat.le_of_ble_eq_true rfl) rfl (fun F C hR => ?_)
  obtain ⟨hM, hMB⟩ := id hH
  obtain ⟨⟨b0, b1, b2, b3, b8, b8'⟩, hRB, bl, byy, bh, bz, bb⟩ := id hB
  have hl9 := hRB.1
  have hT : h 128 0 = nI (a 0) := hM 0 (by omega) (by omega) (by omega) (by omega)
  have hE : h 128 1 = nI (a 1) := hM 1 (by omega) (by omega) (by omega) (by omega)
  have hS : h 128 2 = nI (a 2) := hM 2 (by omega) (by omega) (by omega) (by omega)
  have hev : h 128 3 = nI (a 3) := hM 3 (by omega) (by omega) (by omega) (by omega)
  have hme : h 128 8 = nI (a 8) := hM 8 (by omega) (by omega) (by omega) (by omega)
  have main : ∀ (s n : Nat), s < 4 → n ≤ 5 → 1 ≤ n → 0 < a 0 → -1 ≤ i.toInt → i.toInt < (n : Int) → (∀ r, r = (if i = -1 then iI ((sp_bv (sp_sx a s n) ((a 0) ^ n) : Int) - 1) else nI (sp_dg (a 0) n (sp_ba (sp_sx a s n) ((a 0) ^ n)) (kx_n i))) → r = sp_store a ts tn i) → ∀ (q x : Nat) (g : kx_H) (o8 o9 o10 : Option Value), (a 0) ^ n - x = q → x ≤ (a 0) ^ n → (0 < sp_bv (sp_sx a s n) x → ∀ e, e < n → g 135 e = nI (sp_dg (a 0) n (sp_ba (sp_sx a s n) x) e)) → (∀ d j, d ≠ 134 → d ≠ 135 → d ≠ 136 → g d j = h d j) → F 84 [some (.ref 127), some (.int (nI s)), some (.int (nI n)), some (.int i), some (.int (nI (a 0))), some (.int (nI ((a 0) ^ n))), some (.int (iI ((sp_bv (sp_sx a s n) x : Int) - 1))), some (.int (nI x)), o8, o9, o10] [] g := by
    intro s n hs hn5 hn1 h0 hi1 hi2 hfin q
    have hpw := sp_pw8 (n := n) b0 hn5
    have hpp : 0 < (a 0) ^ n := Nat.pow_pos h0
    have hbv : ∀ X, sp_bv (sp_sx a s n) X ≤ 136 := fun X => sp_bv_le (fun x _ => sp_sx_le hB h0 hn5)
    induction q with
    | zero =>
      intro x g o8 o9 o10 hq hx g1 g2
      have ex : x = (a 0) ^ n := by omega
      rw [ex]
      rw [ex] at g1
      refine kx_ild7 (pc := 84) C dX9_store_84 ?_
      refine kx_ild5 (pc := 86) C dX9_store_86 ?_
      refine kx_icmp_geN (pc := 88) C 184 (by omega) (by omega) dX9_store_88 (by decide) (fun c88 => ?_) (fun c88 => ?_)
      · refine kx_ild3 (pc := 184) C dX9_store_184 ?_
        refine kx_if_geI (pc := 185) C 193 dX9_store_185 (by decide) (fun c185 => ?_) (fun c185 => ?_)
        · obtain ⟨m, rfl, hm, hm2⟩ := kx_nat c185
          have g1e := g1 (sp_bv_pos hpp) m (by omega)
          refine kx_ald0 (pc := 193) C dX9_store_193 ?_
          refine kx_getr (pc := 194) C fl_X9_31 fd_127_9 dX9_store_194 ?_
          refine kx_ild3 (pc := 197) C dX9_store_197 ?_
          refine kx_iald (pc := 198) C ia_135 (by omega) g1e dX9_store_198 ?_
          first
            | exact hR dX9_store_199 rfl ⟨hfin _ (by rw [if_neg (kx_m1 hm2), kx_n, kx_n_nI hm2]), g2⟩
            | exact hR dX9_store_199 rfl ⟨hfin _ (by rw [if_pos (kx_eqI.mpr (by rw [show (-1 : Int32).toInt = -1 from rfl]; omega))]), g2⟩
        · refine kx_ild6 (pc := 188) C dX9_store_188 ?_
          refine kx_goto (pc := 190) C 199 dX9_store_190 (by decide) ?_
          first
            | exact hR dX9_store_199 rfl ⟨hfin _ (by rw [if_neg (kx_m1 hm2), kx_n, kx_n_nI hm2]), g2⟩
            | exact hR dX9_store_199 rfl ⟨hfin _ (by rw [if_pos (kx_eqI.mpr (by rw [show (-1 : Int32).toInt = -1 from rfl]; omega))]), g2⟩
      · omega
    | succ q ih =>
      intro x g o8 o9 o10 hq hx g1 g2
      have h3 := ih (x + 1)
      rw [sp_bvx, sp_bax] at h3
      have bvx := hbv x
      have sxx := sp_sx_le hB (s := s) (n := n) (x := x) h0 hn5
      have digs : ∀ (r : Nat) (g : kx_H), r ≤ n → (∀ e, r ≤ e → e < n → g 134 e = nI (sp_dg (a 0) n x e)) → (0 < sp_bv (sp_sx a s n) x → ∀ e, e < n → g 135 e = nI (sp_dg (a 0) n (sp_ba (sp_sx a s n) x) e)) → (∀ d j, d ≠ 134 → d ≠ 135 → d ≠ 136 → g d j = h d j) → F 100 [some (.ref 127), some (.int (nI s)), some (.int (nI n)), some (.int i), some (.int (nI (a 0))), some (.int (nI ((a 0) ^ n))), some (.int (iI ((sp_bv (sp_sx a s n) x : Int) - 1))), some (.int (nI x)), some (.int (nI (x / (a 0) ^ (n - r)))), some (.int (nI r + Int32.ofInt (-1))), o10] [] g := by
        intro r
        induction r with
        | zero =>
          intro g hr g0 g1 g2
          have hMg : ∀ k, k < 141 → k ≠ 4 → k ≠ 5 → k ≠ 6 → g 128 k = nI (a k) := fun k h1 h2 h3 h4 => by rw [g2 _ _ (by omega) (by omega) (by omega)]; exact hM k h1 h2 h3 h4
          refine kx_ild9 (pc := 100) C dX9_store_100 ?_
          refine kx_if_ltI (pc := 102) C 130 dX9_store_102 (by decide) (fun c102 => ?_) (fun c102 => ?_)
          · refine kx_ald0 (pc := 130) C dX9_store_130 ?_
            refine kx_ild1 (pc := 131) C dX9_store_131 ?_
            refine kx_ild2 (pc := 132) C dX9_store_132 ?_
            refine kx_callVI2 (pc := 133) C cs_X9_119 ob_127 (m_X9_sortsBy (dg := sp_dg (a 0) n x) hMg hB hs hn5 (fun k hk => g0 k (by omega) hk) (fun k hk => by have := sp_dg_lt (E := a 0) (k := n) (x := x) (s := k) h0; omega)) (by decide) dX9_store_133 (Nat.le_of_ble_eq_true rfl) (fun r133 h133 q133 => ?_)
            obtain ⟨rfl, k2⟩ := q133
            rw [show sp_su a s (sp_dg (a 0) n x) n = sp_sx a s n x from rfl]
            refine kx_ist9 (pc := 136) C dX9_store_136 (by decide) rfl ?_
            refine kx_ild9 (pc := 138) C dX9_store_138 ?_
            refine kx_ild6 (pc := 140) C dX9_store_140 ?_
            refine kx_icmp_leI (pc := 142) C 178 dX9_store_142 (by decide) (fun c142 => ?_) (fun c142 => ?_)
            · have c142 := c142
              rw [iI_T (by omega) (by omega), kx_T (by omega)] at c142
              rw [if_neg (show ¬ sp_bv (sp_sx a s n) x < sp_sx a s n x + 1 by omega), if_neg (show ¬ sp_bv (sp_sx a s n) x < sp_sx a s n x + 1 by omega)] at h3
              first | refine kx_inc7 (pc := 178) C (v := nI (_ + 1)) dX9_store_178 (by decide) rfl (nI_1 _) ?_ | refine kx_inc7 (pc := 178) C dX9_store_178 (by decide) rfl rfl ?_
              refine kx_goto (pc := 181) C 84 dX9_store_181 (by decide) ?_
              exact h3 h133 _ _ _ (by omega) (by omega) (fun hb e he => by rw [k2 _ _ (by omega)]; exact g1 hb e he) (fun d j h1 h2 h3 => by rw [k2 _ _ h3]; exact g2 d j h1 h2 h3)
            · rw [iI_T (by omega) (by omega), kx_T (by omega)] at c142
              rw [if_pos (show sp_bv (sp_sx a s n) x < sp_sx a s n x + 1 by omega), if_pos (show sp_bv (sp_sx a s n) x < sp_sx a s n x + 1 by omega), show (((sp_sx a s n x + 1 : Nat) : Int) - 1) = ((sp_sx a s n x : Nat) : Int) by omega, ← iI_nI] at h3
              have cp : ∀ (c e : Nat) (g : kx_H), n - e = c → e ≤ n → (∀ u, u < n → g 134 u = nI (sp_dg (a 0) n x u)) → (∀ u, u < e → g 135 u = nI (sp_dg (a 0) n x u)) → (∀ d j, d ≠ 134 → d ≠ 135 → d ≠ 136 → g d j = h d j) → F 152 [some (.ref 127), some (.int (nI s)), some (.int (nI n)), some (.int i), some (.int (nI (a 0))), some (.int (nI ((a 0) ^ n))), some (.int (nI (sp_sx a s n x))), some (.int (nI x)), some (.int (nI (x / (a 0) ^ (n - 0)))), some (.int (nI (sp_sx a s n x))), some (.int (nI e))] [] g := by
                intro c
                induction c with
                | zero =>
                  intro e g hc he g3 g4 g5
                  refine kx_ild10 (pc := 152) C dX9_store_152 ?_
                  refine kx_ild2 (pc := 154) C dX9_store_154 ?_
                  refine kx_icmp_geN (pc := 155) C 178 (by omega) (by omega) dX9_store_155 (by decide) (fun c155 => ?_) (fun c155 => ?_)
                  · first | refine kx_inc7 (pc := 178) C (v := nI (_ + 1)) dX9_store_178 (by decide) rfl (nI_1 _) ?_ | refine kx_inc7 (pc := 178) C dX9_store_178 (by decide) rfl rfl ?_
                    refine kx_goto (pc := 181) C 84 dX9_store_181 (by decide) ?_
                    exact h3 g _ _ _ (by omega) (by omega) (fun _ u hu => g4 u (by omega)) g5
                  · omega
                | succ c ih4 =>
                  intro e g hc he g3 g4 g5
                  have er := g3 e (by omega)
                  refine kx_ild10 (pc := 152) C dX9_store_152 ?_
                  refine kx_ild2 (pc := 154) C dX9_store_154 ?_
                  refine kx_icmp_geN (pc := 155) C 178 (by omega) (by omega) dX9_store_155 (by decide) (fun c155 => ?_) (fun c155 => ?_)
                  · omega
                  · refine kx_ald0 (pc := 158) C dX9_store_158 ?_
                    refine kx_getr (pc := 159) C fl_X9_31 fd_127_9 dX9_store_159 ?_
                    refine kx_ild10 (pc := 162) C dX9_store_162 ?_
                    refine kx_ald0 (pc := 164) C dX9_store_164 ?_
                    refine kx_getr (pc := 165) C fl_X9_28 fd_127_8 dX9_store_165 ?_
                    refine kx_ild10 (pc := 168) C dX9_store_168 ?_
                    refine kx_iald (pc := 170) C ia_134 (by omega) er dX9_store_170 ?_
                    refine kx_iast (pc := 171) C ia_135 (by omega) dX9_store_171 ?_
                    first | refine kx_inc10 (pc := 172) C (v := nI (_ + 1)) dX9_store_172 (by decide) rfl (nI_1 _) ?_ | refine kx_inc10 (pc := 172) C dX9_store_172 (by decide) rfl rfl ?_
                    refine kx_goto (pc := 175) C 152 dX9_store_175 (by decide) ?_
                    refine ih4 (e + 1) _ (by omega) (by omega) (fun u hu => by rw [kx_up, if_neg (by omega)]; exact g3 u hu) (fun u hu => ?_) (fun d j h1 h2 h3 => by rw [kx_up, if_neg (by omega)]; exact g5 d j h1 h2 h3)
                    by_cases z : u = e
                    · rw [z, kx_up, if_pos ⟨rfl, rfl⟩]
                    · rw [kx_up, if_neg (by omega)]; exact g4 u (by omega)
              refine kx_ild9 (pc := 145) C dX9_store_145 ?_
              refine kx_ist6 (pc := 147) C dX9_store_147 (by decide) rfl ?_
              refine kx_iconst (pc := 149) C (v := nI 0) dX9_store_149 (by decide) ?_
              refine kx_ist10 (pc := 150) C dX9_store_150 (by decide) rfl ?_
              exact cp n 0 h133 (by omega) (by omega) (fun u hu => by rw [k2 _ _ (by omega)]; exact g0 u (by omega) hu) (fun u hu => absurd hu (by omega)) (fun d j h1 h2 h3 => by rw [k2 _ _ h3]; exact g2 d j h1 h2 h3)
          · exact absurd c102 (by decide)
        | succ r ih2 =>
          intro g hr g0 g1 g2
          have hxl : x / (a 0) ^ (n - (r + 1)) ≤ x := Nat.div_le_self _ _
          have h4 := ih2
          rw [show (a 0) ^ (n - r) = (a 0) ^ (n - (r + 1)) * a 0 by rw [← Nat.pow_succ, show (n - (r + 1)).succ = n - r by omega], ← Nat.div_div_eq_div_mul] at h4
          rw [sp_m1]
          refine kx_ild9 (pc := 100) C dX9_store_100 ?_
          refine kx_if_ltI (pc := 102) C 130 dX9_store_102 (by decide) (fun c102 => ?_) (fun c102 => ?_)
          · rw [kx_T (by omega)] at c102
            omega
          · refine kx_ald0 (pc := 105) C dX9_store_105 ?_
            refine kx_getr (pc := 106) C fl_X9_28 fd_127_8 dX9_store_106 ?_
            refine kx_ild9 (pc := 109) C dX9_store_109 ?_
            refine kx_ild8 (pc := 111) C dX9_store_111 ?_
            refine kx_ild4 (pc := 113) C dX9_store_113 ?_
            refine kx_iremN (pc := 115) C (by omega) (by omega) (by omega) dX9_store_115 ?_
            refine kx_iast (pc := 116) C ia_134 (by omega) dX9_store_116 ?_
            refine kx_ild8 (pc := 117) C dX9_store_117 ?_
            refine kx_ild4 (pc := 119) C dX9_store_119 ?_
            refine kx_idivN (pc := 121) C (by omega) (by omega) (by omega) dX9_store_121 ?_
            refine kx_ist8 (pc := 122) C dX9_store_122 (by decide) rfl ?_
            refine kx_inc9 (pc := 124) C dX9_store_124 (by decide) rfl rfl ?_
            refine kx_goto (pc := 127) C 100 dX9_store_127 (by decide) ?_
            refine h4 _ (by omega) (fun e h1 h2 => ?_) (fun hb e he => by rw [kx_up, if_neg (by omega)]; exact g1 hb e he) (fun d j h1 h2 h3 => by rw [kx_up, if_neg (by omega)]; exact g2 d j h1 h2 h3)
            by_cases z : e = r
            · rw [z, kx_up, if_pos ⟨rfl, rfl⟩, sp_dg, show n - 1 - r = n - (r + 1) by omega]
            · rw [kx_up, if_neg (by omega)]; exact g0 e (by omega) h2
      refine kx_ild7 (pc := 84) C dX9_store_84 ?_
      refine kx_ild5 (pc := 86) C dX9_store_86 ?_
      refine kx_icmp_geN (pc := 88) C 184 (by omega) (by omega) dX9_store_88 (by decide) (fun c88 => ?_) (fun c88 => ?_)
      · omega
      · refine kx_ild7 (pc := 91) C dX9_store_91 ?_
        refine kx_ist8 (pc := 93) C dX9_store_93 (by decide) rfl ?_
        refine kx_ild2 (pc := 95) C dX9_store_95 ?_
        refine kx_iconst (pc := 96) C (v := nI 1) dX9_store_96 (by decide) ?_
        refine kx_isubN (pc := 97) C (by omega) dX9_store_97 ?_
        refine kx_ist9 (pc := 98) C dX9_store_98 (by decide) rfl ?_
        have e1 : nI (n - 1) = nI n + Int32.ofInt (-1) := by
          have := sp_m1 (n - 1)
          rw [show n - 1 + 1 = n by omega] at this
          exact this.symm
        rw [e1]
        have h4 := digs n g (by omega) (fun e h1 h2 => absurd h1 (by omega)) g1 g2
        rw [Nat.sub_self, Nat.pow_zero, Nat.div_one] at h4
        exact h4
  have pw : ∀ (s n : Nat), n ≤ 5 → (F 78 [some (.ref 127), some (.int (nI s)), some (.int (nI n)), some (.int i), some (.int (nI (a 0))), some (.int (nI ((a 0) ^ n))), some (.int (nI n)), none, none, none, none] [] h) → ∀ (q k : Nat), n - k = q → k ≤ n → F 59 [some (.ref 127), some (.int (nI s)), some (.int (nI n)), some (.int i), some (.int (nI (a 0))), some (.int (nI ((a 0) ^ k))), some (.int (nI k)), none, none, none, none] [] h := by
    intro s n hn5 hf q
    induction q with
    | zero =>
      intro k hq hk
      have ek : k = n := by omega
      subst ek
      refine kx_ild6 (pc := 59) C dX9_store_59 ?_
      refine kx_ild2 (pc := 61) C dX9_store_61 ?_
      refine kx_icmp_geN (pc := 62) C 78 (by omega) (by omega) dX9_store_62 (by decide) (fun c62 => ?_) (fun c62 => ?_)
      · exact hf
      · omega
    | succ q ih =>
      intro k hq hk
      refine kx_ild6 (pc := 59) C dX9_store_59 ?_
      refine kx_ild2 (pc := 61) C dX9_store_61 ?_
      refine kx_icmp_geN (pc := 62) C 78 (by omega) (by omega) dX9_store_62 (by decide) (fun c62 => ?_) (fun c62 => ?_)
      · omega
      · refine kx_ild5 (pc := 65) C dX9_store_65 ?_
        refine kx_ild4 (pc := 67) C dX9_store_67 ?_
        first | refine kx_imulN (pc := 69) C dX9_store_69 ?_ | refine kx_imul (pc := 69) C dX9_store_69 ?_
        refine kx_ist5 (pc := 70) C dX9_store_70 (by decide) rfl ?_
        first | refine kx_inc6 (pc := 72) C (v := nI (_ + 1)) dX9_store_72 (by decide) rfl (nI_1 _) ?_ | refine kx_inc6 (pc := 72) C dX9_store_72 (by decide) rfl rfl ?_
        refine kx_goto (pc := 75) C 59 dX9_store_75 (by decide) ?_
        exact ih (k + 1) (by omega) (by omega)
  refine kx_ald0 (pc := 0) C dX9_store_0 ?_
  refine kx_ild1 (pc := 1) C dX9_store_1 ?_
  refine kx_callVI1 (pc := 2) C cs_X9_97 ob_127 (m_X9_isSpinner _ (by assumption) (by omega)) (by decide) dX9_store_2 (Nat.le_of_ble_eq_true rfl) (fun r2 h2 q2 => ?_)
  obtain ⟨z2, rfl⟩ := q2
  have z2 := z2.symm
  subst z2
  refine kx_if_eq (pc := 5) C 35 dX9_store_5 (by decide) (fun c5 => ?_) (fun c5 => ?_)
  · refine kx_iconst (pc := 35) C (v := -1) dX9_store_35 (by decide) ?_
    exact hR dX9_store_36 rfl ⟨by
      rw [sp_store, if_neg (fun z => by
        first
          | exact kx_if0 c32 z.2.2
          | exact kx_if0 c17 z.2.1
          | exact kx_if0 c5 z.1)], fun d j _ _ _ => rfl⟩
  · refine kx_ild2 (pc := 8) C dX9_store_8 ?_
    refine kx_i2l (pc := 9) C dX9_store_9 ?_
    refine kx_lconst (pc := 10) C (v := 1) dX9_store_10 (by decide) ?_
    refine kx_ldc2 (pc := 11) C dX9_store_11 cn_X9_115 ?_
    refine kx_callSI3 (pc := 14) C cs_X9_52 (m_X9_in (p := 1) (q := _) (r := 5) (by rfl) (kx_L _) (by rfl)) (by decide) dX9_store_14 (Nat.le_of_ble_eq_true rfl) (fun r14 h14 q14 => ?_)
    obtain ⟨z14, rfl⟩ := q14
    have z14 := z14.symm
    subst z14
    refine kx_if_eq (pc := 17) C 35 dX9_store_17 (by decide) (fun c17 => ?_) (fun c17 => ?_)
    · refine kx_iconst (pc := 35) C (v := -1) dX9_store_35 (by decide) ?_
      exact hR dX9_store_36 rfl ⟨by
        rw [sp_store, if_neg (fun z => by
          first
            | exact kx_if0 c32 z.2.2
            | exact kx_if0 c17 z.2.1
            | exact kx_if0 c5 z.1)], fun d j _ _ _ => rfl⟩
    · have c17 := kx_if1 c17
      obtain ⟨n, rfl, hn, hn2⟩ := kx_nat (x := tn) (by omega)
      refine kx_ild3 (pc := 20) C dX9_store_20 ?_
      refine kx_i2l (pc := 21) C dX9_store_21 ?_
      refine kx_ldc2 (pc := 22) C dX9_store_22 cn_X9_117 ?_
      refine kx_ild2 (pc := 25) C dX9_store_25 ?_
      refine kx_iconst (pc := 26) C (v := nI 1) dX9_store_26 (by decide) ?_
      refine kx_isub (pc := 27) C dX9_store_27 ?_
      refine kx_i2l (pc := 28) C dX9_store_28 ?_
      refine kx_callSI3 (pc := 29) C cs_X9_52 (m_X9_in (p := -1) (q := _) (r := (nI n).toInt - 1) (by rfl) (kx_L _) (by rw [kx_L, kx_Ts (by omega) (by omega), kx_T (by omega)]; rfl)) (by decide) dX9_store_29 (Nat.le_of_ble_eq_true rfl) (fun r29 h29 q29 => ?_)
      obtain ⟨z29, rfl⟩ := q29
      have z29 := z29.symm
      subst z29
      refine kx_if_ne (pc := 32) C 37 dX9_store_32 (by decide) (fun c32 => ?_) (fun c32 => ?_)
      · have c5 := kx_if1 c5
        have c32 := kx_if1 c32
        obtain ⟨s, rfl, hs, hs2⟩ := kx_nat c5.1
        refine kx_ald0 (pc := 37) C dX9_store_37 ?_
        refine kx_getr (pc := 38) C fl_X9_7 fd_127_0 dX9_store_38 ?_
        refine kx_iconst (pc := 41) C (v := nI 0) dX9_store_41 (by decide) ?_
        refine kx_iald (pc := 42) C ia_128 (by omega) (by first | assumption | exact hM _ (by omega) (by omega) (by omega) (by omega) | rfl) dX9_store_42 ?_
        refine kx_ist4 (pc := 43) C dX9_store_43 (by decide) rfl ?_
        refine kx_ild4 (pc := 45) C dX9_store_45 ?_
        refine kx_if_neN (pc := 47) C 53 (by omega) dX9_store_47 (by decide) (fun c47 => ?_) (fun c47 => ?_)
        · refine kx_iconst (pc := 53) C (v := nI 1) dX9_store_53 (by decide) ?_
          refine kx_ist5 (pc := 54) C dX9_store_54 (by decide) rfl ?_
          refine kx_iconst (pc := 56) C (v := nI 0) dX9_store_56 (by decide) ?_
          refine kx_ist6 (pc := 57) C dX9_store_57 (by decide) rfl ?_
          refine pw s n (by omega) ?_ n 0 (by omega) (by omega)
          refine kx_iconst (pc := 78) C (v := -1) dX9_store_78 (by decide) ?_
          refine kx_ist6 (pc := 79) C dX9_store_79 (by decide) rfl ?_
          refine kx_iconst (pc := 81) C (v := nI 0) dX9_store_81 (by decide) ?_
          refine kx_ist7 (pc := 82) C dX9_store_82 (by decide) rfl ?_
          refine main s n (by omega) (by omega) (by omega) (by omega) (by omega) (by omega) (fun r er => ?_) _ 0 h none none none rfl (by omega) (fun hb => absurd hb (Nat.lt_irrefl 0)) (fun d j _ _ _ => rfl)
          rw [sp_store, if_pos ⟨c5, c17, c32⟩, if_neg (by omega), kx_n, kx_n, kx_n_nI hs2, kx_n_nI hn2]
          exact er
        · refine kx_bipush (pc := 50) C (v := -4) dX9_store_50 (by decide) ?_
          exact hR dX9_store_52 rfl ⟨by rw [sp_store, if_pos ⟨c5, c17, c32⟩, if_pos c47], fun d j _ _ _ => rfl⟩
      · refine kx_iconst (pc := 35) C (v := -1) dX9_store_35 (by decide) ?_
        exact hR dX9_store_36 rfl ⟨by
          rw [sp_store, if_neg (fun z => by
            first
              | exact kx_if0 c32 z.2.2
              | exact kx_if0 c17 z.2.1
              | exact kx_if0 c5 z.1)], fun d j _ _ _ => rfl⟩
