theorem kx_Tsub {x y : Int32} (h1 : -2147483648 ≤ x.toInt - y.toInt) (h2 : x.toInt - y.toInt < 2147483648) : (x - y).toInt = x.toInt - y.toInt := by
  rw [Int32.toInt_sub]
  exact Int.bmod_eq_of_le (by simpa using h1) (by simpa using h2)
theorem kx_Tadd {x y : Int32} (h1 : -2147483648 ≤ x.toInt + y.toInt) (h2 : x.toInt + y.toInt < 2147483648) : (x + y).toInt = x.toInt + y.toInt := by
  rw [Int32.toInt_add]
  exact Int.bmod_eq_of_le (by simpa using h1) (by simpa using h2)
theorem kx_Tlo (x : Int32) : -2147483648 ≤ x.toInt := by have := Int32.le_toInt x; simpa using this
theorem kx_Thi (x : Int32) : x.toInt < 2147483648 := by have := Int32.toInt_lt x; simpa using this
/-- the cells of one hearth as those of another -/
def st_cp (o1 l1 t1 k1 y1 d1 o0 l0 t0 k0 y0 d0 : Nat) (g h : kx_H) : Prop := (∀ k, k < 5 ∨ (10 ≤ k ∧ k < 14) → g o1 k = h o0 k) ∧ (∀ t, t < 8 → g l1 t = h l0 t) ∧ (∀ t j, t < 8 → j < 9 → g (t1 + t) j = h (t0 + t) j) ∧ (∀ e, e < 4 → g k1 e = h k0 e) ∧ (∀ s j, s < 4 → j < 4 → g (y1 + s) j = h (y0 + s) j) ∧ ∀ s j, s < 4 → j < 8 → g (d1 + s) j = h (d0 + s) j
theorem st_cp.img {g h : kx_H} {a : Nat → Nat} (hc : st_cp 23 24 26 34 36 41 1 2 4 12 14 19 g h) (hh : st_CH h a) : st_CK g a := by
  obtain ⟨c1, c2, c3, c4, c5, c6⟩ := hc
  obtain ⟨⟨s0, s1, s2, s3, s4⟩, ⟨r1, r2, r3⟩, y, d, b⟩ := hh
  refine ⟨⟨by rw [c1 0 (by omega)]; exact s0, by rw [c1 1 (by omega)]; exact s1, by rw [c1 2 (by omega)]; exact s2, by rw [c1 3 (by omega)]; exact s3, by rw [c1 4 (by omega)]; exact s4⟩, ⟨fun t ht => by rw [c2 t ht]; exact r1 t ht, fun t i ht hi => by rw [c3 t i ht hi]; exact r2 t i ht hi, fun e he => by rw [c4 e he]; exact r3 e he⟩, fun s k hs hk => by rw [c5 s k hs hk]; exact y s k hs hk, fun s t hs ht => by rw [c6 s t hs ht]; exact d s t hs ht, ?_⟩
  rcases b with ⟨b1, b2⟩ | ⟨b1, b2, b3, b4, b5⟩
  · exact Or.inl ⟨b1, by rw [c1 10 (by omega)]; exact b2⟩
  · exact Or.inr ⟨b1, by rw [c1 10 (by omega)]; exact b2, by rw [c1 11 (by omega)]; exact b3, by rw [c1 12 (by omega)]; exact b4, by rw [c1 13 (by omega)]; exact b5⟩
theorem st_cp.res {g h : kx_H} {a : Nat → Nat} (hc : st_cp 1 2 4 12 14 19 23 24 26 34 36 41 g h) (hh : st_CK h a) : st_CH g a := by
  obtain ⟨c1, c2, c3, c4, c5, c6⟩ := hc
  obtain ⟨⟨s0, s1, s2, s3, s4⟩, ⟨r1, r2, r3⟩, y, d, b⟩ := hh
  refine ⟨⟨by rw [c1 0 (by omega)]; exact s0, by rw [c1 1 (by omega)]; exact s1, by rw [c1 2 (by omega)]; exact s2, by rw [c1 3 (by omega)]; exact s3, by rw [c1 4 (by omega)]; exact s4⟩, ⟨fun t ht => by rw [c2 t ht]; exact r1 t ht, fun t i ht hi => by rw [c3 t i ht hi]; exact r2 t i ht hi, fun e he => by rw [c4 e he]; exact r3 e he⟩, fun s k hs hk => by rw [c5 s k hs hk]; exact y s k hs hk, fun s t hs ht => by rw [c6 s t hs ht]; exact d s t hs ht, ?_⟩
  rcases b with ⟨b1, b2⟩ | ⟨b1, b2, b3, b4, b5⟩
  · exact Or.inl ⟨b1, by rw [c1 10 (by omega)]; exact b2⟩
  · exact Or.inr ⟨b1, by rw [c1 10 (by omega)]; exact b2, by rw [c1 11 (by omega)]; exact b3, by rw [c1 12 (by omega)]; exact b4, by rw [c1 13 (by omega)]; exact b5⟩
set_option maxHeartbeats 4000000 in
set_option maxRecDepth 100000 in
theorem m_X2_becomeLike_img {h : kx_H}   : kx_MV 2 yX2_becomeLike cX2_becomeLike 3 [.ref 23, .ref 1] h (fun h1 => st_cp 23 24 26 34 36 41 1 2 4 12 14 19 h1 h ∧ ∀ d j, (d < 23 ∨ 45 ≤ d) → h1 d j = h d j) := by
  refine kx_mkV (own := RX2) (L0 := [some (.ref 23), some (.ref 1), none]) rfl (by decide +kernel) (Nat.le_of_ble_eq_true rfl) rfl (fun F C hR => ?_)
  have loop2 : ∀ (q i : Nat) (g : kx_H), 4 - i = q → i ≤ 4 → (∀ k, k < 5 ∨ (10 ≤ k ∧ k < 14) → g 23 k = h 1 k) → (∀ t, t < 8 → g 24 t = h 2 t) → (∀ e, e < 4 → g 34 e = h 12 e) → (∀ t j, t < 8 → j < 9 → g (26 + t) j = h (4 + t) j) → (∀ s j, s < i → j < 4 → g (36 + s) j = h (14 + s) j) → (∀ s j, s < i → j < 8 → g (41 + s) j = h (19 + s) j) → (∀ d j, (d < 23 ∨ 45 ≤ d) → g d j = h d j) → F 136 [some (.ref 23), some (.ref 1), some (.int (nI i))] [] g := by
    intro q
    induction q with
    | zero =>
      intro i g hq hi g1 g2 g3 g4 g5 g6 gf
      refine kx_ild2 (pc := 136) C dX2_becomeLike_136 ?_
      refine kx_iconst (pc := 137) C (v := nI 4) dX2_becomeLike_137 (by decide) ?_
      refine kx_icmp_geN (pc := 138) C 184 (by omega) (by omega) dX2_becomeLike_138 (by decide) (fun c138 => ?_) (fun c138 => ?_)
      · exact hR dX2_becomeLike_184 ⟨⟨g1, g2, g4, g3, fun s j hs hj => g5 s j (by omega) hj, fun s j hs hj => g6 s j (by omega) hj⟩, gf⟩
      · omega
    | succ q ih =>
      intro i g hq hi g1 g2 g3 g4 g5 g6 gf
      refine kx_ild2 (pc := 136) C dX2_becomeLike_136 ?_
      refine kx_iconst (pc := 137) C (v := nI 4) dX2_becomeLike_137 (by decide) ?_
      refine kx_icmp_geN (pc := 138) C 184 (by omega) (by omega) dX2_becomeLike_138 (by decide) (fun c138 => ?_) (fun c138 => ?_)
      · omega
      · refine kx_ald1 (pc := 141) C dX2_becomeLike_141 ?_
        refine kx_getr (pc := 142) C fl_X2_27 fd_1_8 dX2_becomeLike_142 ?_
        refine kx_ild2 (pc := 145) C dX2_becomeLike_145 ?_
        refine kx_aald1 (pc := 146) C ra_13 (by omega) dX2_becomeLike_146 ?_
        refine kx_iconst (pc := 147) C (v := nI 0) dX2_becomeLike_147 (by decide) ?_
        refine kx_ald0 (pc := 148) C dX2_becomeLike_148 ?_
        refine kx_getr (pc := 149) C fl_X2_27 fd_23_8 dX2_becomeLike_149 ?_
        refine kx_ild2 (pc := 152) C dX2_becomeLike_152 ?_
        refine kx_aald1 (pc := 153) C ra_35 (by omega) dX2_becomeLike_153 ?_
        refine kx_iconst (pc := 154) C (v := nI 0) dX2_becomeLike_154 (by decide) ?_
        refine kx_iconst (pc := 155) C (v := nI 4) dX2_becomeLike_155 (by decide) ?_
        refine kx_cpy (pc := 156) C ac_X2_53 (if_yds _ (by omega)) (if_kyds _ (by omega)) (by decide) (by omega) (by omega) (Nat.le_of_ble_eq_true rfl) dX2_becomeLike_156 ?_
        refine kx_ald1 (pc := 159) C dX2_becomeLike_159 ?_
        refine kx_getr (pc := 160) C fl_X2_30 fd_1_9 dX2_becomeLike_160 ?_
        refine kx_ild2 (pc := 163) C dX2_becomeLike_163 ?_
        refine kx_aald1 (pc := 164) C ra_18 (by omega) dX2_becomeLike_164 ?_
        refine kx_iconst (pc := 165) C (v := nI 0) dX2_becomeLike_165 (by decide) ?_
        refine kx_ald0 (pc := 166) C dX2_becomeLike_166 ?_
        refine kx_getr (pc := 167) C fl_X2_30 fd_23_9 dX2_becomeLike_167 ?_
        refine kx_ild2 (pc := 170) C dX2_becomeLike_170 ?_
        refine kx_aald1 (pc := 171) C ra_40 (by omega) dX2_becomeLike_171 ?_
        refine kx_iconst (pc := 172) C (v := nI 0) dX2_becomeLike_172 (by decide) ?_
        refine kx_bipush (pc := 173) C (v := nI 8) dX2_becomeLike_173 (by decide) ?_
        refine kx_cpy (pc := 175) C ac_X2_53 (if_hrd _ (by omega)) (if_khrd _ (by omega)) (by decide) (by omega) (by omega) (Nat.le_of_ble_eq_true rfl) dX2_becomeLike_175 ?_
        first | refine kx_inc2 (pc := 178) C (v := nI (_ + 1)) dX2_becomeLike_178 (by decide) rfl (nI_1 _) ?_ | refine kx_inc2 (pc := 178) C dX2_becomeLike_178 (by decide) rfl rfl ?_
        refine kx_goto (pc := 181) C 136 dX2_becomeLike_181 (by decide) ?_
        refine ih (i + 1) _ (by omega) (by omega) (fun k hk => ?_) (fun t ht => ?_) (fun e he => ?_) (fun t j ht hj => ?_) (fun s j hs hj => ?_) (fun s j hs hj => ?_) (fun d j hd => ?_)
        · rw [kx_cp, if_neg (by omega)]; rw [kx_cp, if_neg (by omega)]; exact g1 k hk
        · rw [kx_cp, if_neg (by omega)]; rw [kx_cp, if_neg (by omega)]; exact g2 t ht
        · rw [kx_cp, if_neg (by omega)]; rw [kx_cp, if_neg (by omega)]; exact g3 e he
        · rw [kx_cp, if_neg (by omega)]; rw [kx_cp, if_neg (by omega)]; exact g4 t j ht hj
        · rw [kx_cp, if_neg (by omega)]
          by_cases z : s = i
          · subst z
            rw [kx_cp, if_pos (by omega), show 0 + (j - 0) = j by omega, gf _ _ (by omega)]
          · rw [kx_cp, if_neg (by omega)]; exact g5 s j (by omega) hj
        · by_cases z : s = i
          · subst z
            rw [kx_cp, if_pos (by omega), show 0 + (j - 0) = j by omega, kx_cp, if_neg (by omega), gf _ _ (by omega)]
          · rw [kx_cp, if_neg (by omega)]; rw [kx_cp, if_neg (by omega)]; exact g6 s j (by omega) hj
        · rw [kx_cp, if_neg (by omega)]; rw [kx_cp, if_neg (by omega)]; exact gf d j hd
  have loop : ∀ (q i : Nat) (g : kx_H), 8 - i = q → i ≤ 8 → (∀ k, k < 5 ∨ (10 ≤ k ∧ k < 14) → g 23 k = h 1 k) → (∀ t, t < 8 → g 24 t = h 2 t) → (∀ e, e < 4 → g 34 e = h 12 e) → (∀ t j, t < i → j < 9 → g (26 + t) j = h (4 + t) j) → (∀ d j, (d < 23 ∨ 45 ≤ d) → g d j = h d j) → F 103 [some (.ref 23), some (.ref 1), some (.int (nI i))] [] g := by
    intro q
    induction q with
    | zero =>
      intro i g hq hi g1 g2 g3 g4 gf
      refine kx_ild2 (pc := 103) C dX2_becomeLike_103 ?_
      refine kx_bipush (pc := 104) C (v := nI 8) dX2_becomeLike_104 (by decide) ?_
      refine kx_icmp_geN (pc := 106) C 134 (by omega) (by omega) dX2_becomeLike_106 (by decide) (fun c106 => ?_) (fun c106 => ?_)
      · refine kx_iconst (pc := 134) C (v := nI 0) dX2_becomeLike_134 (by decide) ?_
        refine kx_ist2 (pc := 135) C dX2_becomeLike_135 (by decide) rfl ?_
        exact loop2 4 0 g (by omega) (by omega) g1 g2 g3 (fun t j ht hj => g4 t j (by omega) hj) (fun s j hs hj => absurd hs (by omega)) (fun s j hs hj => absurd hs (by omega)) gf
      · omega
    | succ q ih =>
      intro i g hq hi g1 g2 g3 g4 gf
      refine kx_ild2 (pc := 103) C dX2_becomeLike_103 ?_
      refine kx_bipush (pc := 104) C (v := nI 8) dX2_becomeLike_104 (by decide) ?_
      refine kx_icmp_geN (pc := 106) C 134 (by omega) (by omega) dX2_becomeLike_106 (by decide) (fun c106 => ?_) (fun c106 => ?_)
      · omega
      · refine kx_ald1 (pc := 109) C dX2_becomeLike_109 ?_
        refine kx_getr (pc := 110) C fl_X2_21 fd_1_6 dX2_becomeLike_110 ?_
        refine kx_ild2 (pc := 113) C dX2_becomeLike_113 ?_
        refine kx_aald1 (pc := 114) C ra_3 (by omega) dX2_becomeLike_114 ?_
        refine kx_iconst (pc := 115) C (v := nI 0) dX2_becomeLike_115 (by decide) ?_
        refine kx_ald0 (pc := 116) C dX2_becomeLike_116 ?_
        refine kx_getr (pc := 117) C fl_X2_21 fd_23_6 dX2_becomeLike_117 ?_
        refine kx_ild2 (pc := 120) C dX2_becomeLike_120 ?_
        refine kx_aald1 (pc := 121) C ra_25 (by omega) dX2_becomeLike_121 ?_
        refine kx_iconst (pc := 122) C (v := nI 0) dX2_becomeLike_122 (by decide) ?_
        refine kx_bipush (pc := 123) C (v := nI 9) dX2_becomeLike_123 (by decide) ?_
        refine kx_cpy (pc := 125) C ac_X2_53 (if_ten _ (by omega)) (if_kten _ (by omega)) (by decide) (by omega) (by omega) (Nat.le_of_ble_eq_true rfl) dX2_becomeLike_125 ?_
        first | refine kx_inc2 (pc := 128) C (v := nI (_ + 1)) dX2_becomeLike_128 (by decide) rfl (nI_1 _) ?_ | refine kx_inc2 (pc := 128) C dX2_becomeLike_128 (by decide) rfl rfl ?_
        refine kx_goto (pc := 131) C 103 dX2_becomeLike_131 (by decide) ?_
        refine ih (i + 1) _ (by omega) (by omega) (fun k hk => ?_) (fun t ht => ?_) (fun e he => ?_) (fun t j ht hj => ?_) (fun d j hd => ?_)
        · rw [kx_cp, if_neg (by omega)]; exact g1 k hk
        · rw [kx_cp, if_neg (by omega)]; exact g2 t ht
        · rw [kx_cp, if_neg (by omega)]; exact g3 e he
        · by_cases z : t = i
          · subst z
            rw [kx_cp, if_pos (by omega), show 0 + (j - 0) = j by omega, gf _ _ (by omega)]
          · rw [kx_cp, if_neg (by omega)]; exact g4 t j (by omega) hj
        · rw [kx_cp, if_neg (by omega)]; exact gf d j hd
  refine kx_ald0 (pc := 0) C dX2_becomeLike_0 ?_
  refine kx_ald1 (pc := 1) C dX2_becomeLike_1 ?_
  refine kx_geti (pc := 2) C fl_X2_36 fd_1_0 rfl dX2_becomeLike_2 ?_
  refine kx_puti (pc := 5) C fl_X2_36 fp_X2_0 fd_23_0 rfl rfl dX2_becomeLike_5 ?_
  refine kx_ald0 (pc := 8) C dX2_becomeLike_8 ?_
  refine kx_ald1 (pc := 9) C dX2_becomeLike_9 ?_
  refine kx_geti (pc := 10) C fl_X2_47 fd_1_1 (show _ = h 1 1 by simp only [kx_up]; simp) dX2_becomeLike_10 ?_
  refine kx_puti (pc := 13) C fl_X2_47 fp_X2_1 fd_23_1 rfl rfl dX2_becomeLike_13 ?_
  refine kx_ald0 (pc := 16) C dX2_becomeLike_16 ?_
  refine kx_ald1 (pc := 17) C dX2_becomeLike_17 ?_
  refine kx_geti (pc := 18) C fl_X2_50 fd_1_2 (show _ = h 1 2 by simp only [kx_up]; simp) dX2_becomeLike_18 ?_
  refine kx_puti (pc := 21) C fl_X2_50 fp_X2_2 fd_23_2 rfl rfl dX2_becomeLike_21 ?_
  refine kx_ald0 (pc := 24) C dX2_becomeLike_24 ?_
  refine kx_ald1 (pc := 25) C dX2_becomeLike_25 ?_
  refine kx_geti (pc := 26) C fl_X2_80 fd_1_3 (show _ = h 1 3 by simp only [kx_up]; simp) dX2_becomeLike_26 ?_
  refine kx_puti (pc := 29) C fl_X2_80 fp_X2_3 fd_23_3 rfl rfl dX2_becomeLike_29 ?_
  refine kx_ald0 (pc := 32) C dX2_becomeLike_32 ?_
  refine kx_ald1 (pc := 33) C dX2_becomeLike_33 ?_
  refine kx_geti (pc := 34) C fl_X2_9 fd_1_4 (show _ = h 1 4 by simp only [kx_up]; simp) dX2_becomeLike_34 ?_
  refine kx_puti (pc := 37) C fl_X2_9 fp_X2_4 fd_23_4 rfl rfl dX2_becomeLike_37 ?_
  refine kx_ald0 (pc := 40) C dX2_becomeLike_40 ?_
  refine kx_ald1 (pc := 41) C dX2_becomeLike_41 ?_
  refine kx_geti (pc := 42) C fl_X2_33 fd_1_10 (show _ = h 1 10 by simp only [kx_up]; simp) dX2_becomeLike_42 ?_
  refine kx_puti (pc := 45) C fl_X2_33 fp_X2_10 fd_23_10 rfl rfl dX2_becomeLike_45 ?_
  refine kx_ald0 (pc := 48) C dX2_becomeLike_48 ?_
  refine kx_ald1 (pc := 49) C dX2_becomeLike_49 ?_
  refine kx_geti (pc := 50) C fl_X2_66 fd_1_11 (show _ = h 1 11 by simp only [kx_up]; simp) dX2_becomeLike_50 ?_
  refine kx_puti (pc := 53) C fl_X2_66 fp_X2_11 fd_23_11 rfl rfl dX2_becomeLike_53 ?_
  refine kx_ald0 (pc := 56) C dX2_becomeLike_56 ?_
  refine kx_ald1 (pc := 57) C dX2_becomeLike_57 ?_
  refine kx_geti (pc := 58) C fl_X2_69 fd_1_12 (show _ = h 1 12 by simp only [kx_up]; simp) dX2_becomeLike_58 ?_
  refine kx_puti (pc := 61) C fl_X2_69 fp_X2_12 fd_23_12 rfl rfl dX2_becomeLike_61 ?_
  refine kx_ald0 (pc := 64) C dX2_becomeLike_64 ?_
  refine kx_ald1 (pc := 65) C dX2_becomeLike_65 ?_
  refine kx_geti (pc := 66) C fl_X2_77 fd_1_13 (show _ = h 1 13 by simp only [kx_up]; simp) dX2_becomeLike_66 ?_
  refine kx_puti (pc := 69) C fl_X2_77 fp_X2_13 fd_23_13 rfl rfl dX2_becomeLike_69 ?_
  refine kx_ald1 (pc := 72) C dX2_becomeLike_72 ?_
  refine kx_getr (pc := 73) C fl_X2_15 fd_1_5 dX2_becomeLike_73 ?_
  refine kx_iconst (pc := 76) C (v := nI 0) dX2_becomeLike_76 (by decide) ?_
  refine kx_ald0 (pc := 77) C dX2_becomeLike_77 ?_
  refine kx_getr (pc := 78) C fl_X2_15 fd_23_5 dX2_becomeLike_78 ?_
  refine kx_iconst (pc := 81) C (v := nI 0) dX2_becomeLike_81 (by decide) ?_
  refine kx_bipush (pc := 82) C (v := nI 8) dX2_becomeLike_82 (by decide) ?_
  refine kx_cpy (pc := 84) C ac_X2_53 ia_2 ia_24 (by decide) (by omega) (by omega) (Nat.le_of_ble_eq_true rfl) dX2_becomeLike_84 ?_
  refine kx_ald1 (pc := 87) C dX2_becomeLike_87 ?_
  refine kx_getr (pc := 88) C fl_X2_24 fd_1_7 dX2_becomeLike_88 ?_
  refine kx_iconst (pc := 91) C (v := nI 0) dX2_becomeLike_91 (by decide) ?_
  refine kx_ald0 (pc := 92) C dX2_becomeLike_92 ?_
  refine kx_getr (pc := 93) C fl_X2_24 fd_23_7 dX2_becomeLike_93 ?_
  refine kx_iconst (pc := 96) C (v := nI 0) dX2_becomeLike_96 (by decide) ?_
  refine kx_iconst (pc := 97) C (v := nI 4) dX2_becomeLike_97 (by decide) ?_
  refine kx_cpy (pc := 98) C ac_X2_53 ia_12 ia_34 (by decide) (by omega) (by omega) (Nat.le_of_ble_eq_true rfl) dX2_becomeLike_98 ?_
  refine kx_iconst (pc := 101) C (v := nI 0) dX2_becomeLike_101 (by decide) ?_
  refine kx_ist2 (pc := 102) C dX2_becomeLike_102 (by decide) rfl ?_
  refine loop 8 0 _ (by omega) (by omega) (fun k hk => ?_) (fun t ht => ?_) (fun e he => ?_) (fun t j ht hj => absurd ht (by omega)) (fun d j hd => ?_)
  · rw [kx_cp, if_neg (by omega)]; rw [kx_cp, if_neg (by omega)]
    simp only [kx_up]
    rcases (show k = 0 ∨ k = 1 ∨ k = 2 ∨ k = 3 ∨ k = 4 ∨ k = 10 ∨ k = 11 ∨ k = 12 ∨ k = 13 by omega) with z | z | z | z | z | z | z | z | z <;> subst z <;> simp
  · rw [kx_cp, if_neg (by omega)]; rw [kx_cp, if_pos (by omega), show 0 + (t - 0) = t by omega]
    simp [kx_up]
  · rw [kx_cp, if_pos (by omega), show 0 + (e - 0) = e by omega]
    rw [kx_cp, if_neg (by omega)]
    simp [kx_up]
  · rw [kx_cp, if_neg (by omega)]; rw [kx_cp, if_neg (by omega)]
    simp only [kx_up]
    repeat rw [if_neg (by omega)]
set_option maxHeartbeats 4000000 in
set_option maxRecDepth 100000 in
theorem m_X2_becomeLike_res {h : kx_H}   : kx_MV 2 yX2_becomeLike cX2_becomeLike 3 [.ref 1, .ref 23] h (fun h1 => st_cp 1 2 4 12 14 19 23 24 26 34 36 41 h1 h ∧ ∀ d j, (d < 1 ∨ 23 ≤ d) → h1 d j = h d j) := by
  refine kx_mkV (own := RX2) (L0 := [some (.ref 1), some (.ref 23), none]) rfl (by decide +kernel) (Nat.le_of_ble_eq_true rfl) rfl (fun F C hR => ?_)
  have loop2 : ∀ (q i : Nat) (g : kx_H), 4 - i = q → i ≤ 4 → (∀ k, k < 5 ∨ (10 ≤ k ∧ k < 14) → g 1 k = h 23 k) → (∀ t, t < 8 → g 2 t = h 24 t) → (∀ e, e < 4 → g 12 e = h 34 e) → (∀ t j, t < 8 → j < 9 → g (4 + t) j = h (26 + t) j) → (∀ s j, s < i → j < 4 → g (14 + s) j = h (36 + s) j) → (∀ s j, s < i → j < 8 → g (19 + s) j = h (41 + s) j) → (∀ d j, (d < 1 ∨ 23 ≤ d) → g d j = h d j) → F 136 [some (.ref 1), some (.ref 23), some (.int (nI i))] [] g := by
    intro q
    induction q with
    | zero =>
      intro i g hq hi g1 g2 g3 g4 g5 g6 gf
      refine kx_ild2 (pc := 136) C dX2_becomeLike_136 ?_
      refine kx_iconst (pc := 137) C (v := nI 4) dX2_becomeLike_137 (by decide) ?_
      refine kx_icmp_geN (pc := 138) C 184 (by omega) (by omega) dX2_becomeLike_138 (by decide) (fun c138 => ?_) (fun c138 => ?_)
      · exact hR dX2_becomeLike_184 ⟨⟨g1, g2, g4, g3, fun s j hs hj => g5 s j (by omega) hj, fun s j hs hj => g6 s j (by omega) hj⟩, gf⟩
      · omega
    | succ q ih =>
      intro i g hq hi g1 g2 g3 g4 g5 g6 gf
      refine kx_ild2 (pc := 136) C dX2_becomeLike_136 ?_
      refine kx_iconst (pc := 137) C (v := nI 4) dX2_becomeLike_137 (by decide) ?_
      refine kx_icmp_geN (pc := 138) C 184 (by omega) (by omega) dX2_becomeLike_138 (by decide) (fun c138 => ?_) (fun c138 => ?_)
      · omega
      · refine kx_ald1 (pc := 141) C dX2_becomeLike_141 ?_
        refine kx_getr (pc := 142) C fl_X2_27 fd_23_8 dX2_becomeLike_142 ?_
        refine kx_ild2 (pc := 145) C dX2_becomeLike_145 ?_
        refine kx_aald1 (pc := 146) C ra_35 (by omega) dX2_becomeLike_146 ?_
        refine kx_iconst (pc := 147) C (v := nI 0) dX2_becomeLike_147 (by decide) ?_
        refine kx_ald0 (pc := 148) C dX2_becomeLike_148 ?_
        refine kx_getr (pc := 149) C fl_X2_27 fd_1_8 dX2_becomeLike_149 ?_
        refine kx_ild2 (pc := 152) C dX2_becomeLike_152 ?_
        refine kx_aald1 (pc := 153) C ra_13 (by omega) dX2_becomeLike_153 ?_
        refine kx_iconst (pc := 154) C (v := nI 0) dX2_becomeLike_154 (by decide) ?_
        refine kx_iconst (pc := 155) C (v := nI 4) dX2_becomeLike_155 (by decide) ?_
        refine kx_cpy (pc := 156) C ac_X2_53 (if_kyds _ (by omega)) (if_yds _ (by omega)) (by decide) (by omega) (by omega) (Nat.le_of_ble_eq_true rfl) dX2_becomeLike_156 ?_
        refine kx_ald1 (pc := 159) C dX2_becomeLike_159 ?_
        refine kx_getr (pc := 160) C fl_X2_30 fd_23_9 dX2_becomeLike_160 ?_
        refine kx_ild2 (pc := 163) C dX2_becomeLike_163 ?_
        refine kx_aald1 (pc := 164) C ra_40 (by omega) dX2_becomeLike_164 ?_
        refine kx_iconst (pc := 165) C (v := nI 0) dX2_becomeLike_165 (by decide) ?_
        refine kx_ald0 (pc := 166) C dX2_becomeLike_166 ?_
        refine kx_getr (pc := 167) C fl_X2_30 fd_1_9 dX2_becomeLike_167 ?_
        refine kx_ild2 (pc := 170) C dX2_becomeLike_170 ?_
        refine kx_aald1 (pc := 171) C ra_18 (by omega) dX2_becomeLike_171 ?_
        refine kx_iconst (pc := 172) C (v := nI 0) dX2_becomeLike_172 (by decide) ?_
        refine kx_bipush (pc := 173) C (v := nI 8) dX2_becomeLike_173 (by decide) ?_
        refine kx_cpy (pc := 175) C ac_X2_53 (if_khrd _ (by omega)) (if_hrd _ (by omega)) (by decide) (by omega) (by omega) (Nat.le_of_ble_eq_true rfl) dX2_becomeLike_175 ?_
        first | refine kx_inc2 (pc := 178) C (v := nI (_ + 1)) dX2_becomeLike_178 (by decide) rfl (nI_1 _) ?_ | refine kx_inc2 (pc := 178) C dX2_becomeLike_178 (by decide) rfl rfl ?_
        refine kx_goto (pc := 181) C 136 dX2_becomeLike_181 (by decide) ?_
        refine ih (i + 1) _ (by omega) (by omega) (fun k hk => ?_) (fun t ht => ?_) (fun e he => ?_) (fun t j ht hj => ?_) (fun s j hs hj => ?_) (fun s j hs hj => ?_) (fun d j hd => ?_)
        · rw [kx_cp, if_neg (by omega)]; rw [kx_cp, if_neg (by omega)]; exact g1 k hk
        · rw [kx_cp, if_neg (by omega)]; rw [kx_cp, if_neg (by omega)]; exact g2 t ht
        · rw [kx_cp, if_neg (by omega)]; rw [kx_cp, if_neg (by omega)]; exact g3 e he
        · rw [kx_cp, if_neg (by omega)]; rw [kx_cp, if_neg (by omega)]; exact g4 t j ht hj
        · rw [kx_cp, if_neg (by omega)]
          by_cases z : s = i
          · subst z
            rw [kx_cp, if_pos (by omega), show 0 + (j - 0) = j by omega, gf _ _ (by omega)]
          · rw [kx_cp, if_neg (by omega)]; exact g5 s j (by omega) hj
        · by_cases z : s = i
          · subst z
            rw [kx_cp, if_pos (by omega), show 0 + (j - 0) = j by omega, kx_cp, if_neg (by omega), gf _ _ (by omega)]
          · rw [kx_cp, if_neg (by omega)]; rw [kx_cp, if_neg (by omega)]; exact g6 s j (by omega) hj
        · rw [kx_cp, if_neg (by omega)]; rw [kx_cp, if_neg (by omega)]; exact gf d j hd
  have loop : ∀ (q i : Nat) (g : kx_H), 8 - i = q → i ≤ 8 → (∀ k, k < 5 ∨ (10 ≤ k ∧ k < 14) → g 1 k = h 23 k) → (∀ t, t < 8 → g 2 t = h 24 t) → (∀ e, e < 4 → g 12 e = h 34 e) → (∀ t j, t < i → j < 9 → g (4 + t) j = h (26 + t) j) → (∀ d j, (d < 1 ∨ 23 ≤ d) → g d j = h d j) → F 103 [some (.ref 1), some (.ref 23), some (.int (nI i))] [] g := by
    intro q
    induction q with
    | zero =>
      intro i g hq hi g1 g2 g3 g4 gf
      refine kx_ild2 (pc := 103) C dX2_becomeLike_103 ?_
      refine kx_bipush (pc := 104) C (v := nI 8) dX2_becomeLike_104 (by decide) ?_
      refine kx_icmp_geN (pc := 106) C 134 (by omega) (by omega) dX2_becomeLike_106 (by decide) (fun c106 => ?_) (fun c106 => ?_)
      · refine kx_iconst (pc := 134) C (v := nI 0) dX2_becomeLike_134 (by decide) ?_
        refine kx_ist2 (pc := 135) C dX2_becomeLike_135 (by decide) rfl ?_
        exact loop2 4 0 g (by omega) (by omega) g1 g2 g3 (fun t j ht hj => g4 t j (by omega) hj) (fun s j hs hj => absurd hs (by omega)) (fun s j hs hj => absurd hs (by omega)) gf
      · omega
    | succ q ih =>
      intro i g hq hi g1 g2 g3 g4 gf
      refine kx_ild2 (pc := 103) C dX2_becomeLike_103 ?_
      refine kx_bipush (pc := 104) C (v := nI 8) dX2_becomeLike_104 (by decide) ?_
      refine kx_icmp_geN (pc := 106) C 134 (by omega) (by omega) dX2_becomeLike_106 (by decide) (fun c106 => ?_) (fun c106 => ?_)
      · omega
      · refine kx_ald1 (pc := 109) C dX2_becomeLike_109 ?_
        refine kx_getr (pc := 110) C fl_X2_21 fd_23_6 dX2_becomeLike_110 ?_
        refine kx_ild2 (pc := 113) C dX2_becomeLike_113 ?_
        refine kx_aald1 (pc := 114) C ra_25 (by omega) dX2_becomeLike_114 ?_
        refine kx_iconst (pc := 115) C (v := nI 0) dX2_becomeLike_115 (by decide) ?_
        refine kx_ald0 (pc := 116) C dX2_becomeLike_116 ?_
        refine kx_getr (pc := 117) C fl_X2_21 fd_1_6 dX2_becomeLike_117 ?_
        refine kx_ild2 (pc := 120) C dX2_becomeLike_120 ?_
        refine kx_aald1 (pc := 121) C ra_3 (by omega) dX2_becomeLike_121 ?_
        refine kx_iconst (pc := 122) C (v := nI 0) dX2_becomeLike_122 (by decide) ?_
        refine kx_bipush (pc := 123) C (v := nI 9) dX2_becomeLike_123 (by decide) ?_
        refine kx_cpy (pc := 125) C ac_X2_53 (if_kten _ (by omega)) (if_ten _ (by omega)) (by decide) (by omega) (by omega) (Nat.le_of_ble_eq_true rfl) dX2_becomeLike_125 ?_
        first | refine kx_inc2 (pc := 128) C (v := nI (_ + 1)) dX2_becomeLike_128 (by decide) rfl (nI_1 _) ?_ | refine kx_inc2 (pc := 128) C dX2_becomeLike_128 (by decide) rfl rfl ?_
        refine kx_goto (pc := 131) C 103 dX2_becomeLike_131 (by decide) ?_
        refine ih (i + 1) _ (by omega) (by omega) (fun k hk => ?_) (fun t ht => ?_) (fun e he => ?_) (fun t j ht hj => ?_) (fun d j hd => ?_)
        · rw [kx_cp, if_neg (by omega)]; exact g1 k hk
        · rw [kx_cp, if_neg (by omega)]; exact g2 t ht
        · rw [kx_cp, if_neg (by omega)]; exact g3 e he
        · by_cases z : t = i
          · subst z
            rw [kx_cp, if_pos (by omega), show 0 + (j - 0) = j by omega, gf _ _ (by omega)]
          · rw [kx_cp, if_neg (by omega)]; exact g4 t j (by omega) hj
        · rw [kx_cp, if_neg (by omega)]; exact gf d j hd
  refine kx_ald0 (pc := 0) C dX2_becomeLike_0 ?_
  refine kx_ald1 (pc := 1) C dX2_becomeLike_1 ?_
  refine kx_geti (pc := 2) C fl_X2_36 fd_23_0 rfl dX2_becomeLike_2 ?_
  refine kx_puti (pc := 5) C fl_X2_36 fp_X2_0 fd_1_0 rfl rfl dX2_becomeLike_5 ?_
  refine kx_ald0 (pc := 8) C dX2_becomeLike_8 ?_
  refine kx_ald1 (pc := 9) C dX2_becomeLike_9 ?_
  refine kx_geti (pc := 10) C fl_X2_47 fd_23_1 (show _ = h 23 1 by simp only [kx_up]; simp) dX2_becomeLike_10 ?_
  refine kx_puti (pc := 13) C fl_X2_47 fp_X2_1 fd_1_1 rfl rfl dX2_becomeLike_13 ?_
  refine kx_ald0 (pc := 16) C dX2_becomeLike_16 ?_
  refine kx_ald1 (pc := 17) C dX2_becomeLike_17 ?_
  refine kx_geti (pc := 18) C fl_X2_50 fd_23_2 (show _ = h 23 2 by simp only [kx_up]; simp) dX2_becomeLike_18 ?_
  refine kx_puti (pc := 21) C fl_X2_50 fp_X2_2 fd_1_2 rfl rfl dX2_becomeLike_21 ?_
  refine kx_ald0 (pc := 24) C dX2_becomeLike_24 ?_
  refine kx_ald1 (pc := 25) C dX2_becomeLike_25 ?_
  refine kx_geti (pc := 26) C fl_X2_80 fd_23_3 (show _ = h 23 3 by simp only [kx_up]; simp) dX2_becomeLike_26 ?_
  refine kx_puti (pc := 29) C fl_X2_80 fp_X2_3 fd_1_3 rfl rfl dX2_becomeLike_29 ?_
  refine kx_ald0 (pc := 32) C dX2_becomeLike_32 ?_
  refine kx_ald1 (pc := 33) C dX2_becomeLike_33 ?_
  refine kx_geti (pc := 34) C fl_X2_9 fd_23_4 (show _ = h 23 4 by simp only [kx_up]; simp) dX2_becomeLike_34 ?_
  refine kx_puti (pc := 37) C fl_X2_9 fp_X2_4 fd_1_4 rfl rfl dX2_becomeLike_37 ?_
  refine kx_ald0 (pc := 40) C dX2_becomeLike_40 ?_
  refine kx_ald1 (pc := 41) C dX2_becomeLike_41 ?_
  refine kx_geti (pc := 42) C fl_X2_33 fd_23_10 (show _ = h 23 10 by simp only [kx_up]; simp) dX2_becomeLike_42 ?_
  refine kx_puti (pc := 45) C fl_X2_33 fp_X2_10 fd_1_10 rfl rfl dX2_becomeLike_45 ?_
  refine kx_ald0 (pc := 48) C dX2_becomeLike_48 ?_
  refine kx_ald1 (pc := 49) C dX2_becomeLike_49 ?_
  refine kx_geti (pc := 50) C fl_X2_66 fd_23_11 (show _ = h 23 11 by simp only [kx_up]; simp) dX2_becomeLike_50 ?_
  refine kx_puti (pc := 53) C fl_X2_66 fp_X2_11 fd_1_11 rfl rfl dX2_becomeLike_53 ?_
  refine kx_ald0 (pc := 56) C dX2_becomeLike_56 ?_
  refine kx_ald1 (pc := 57) C dX2_becomeLike_57 ?_
  refine kx_geti (pc := 58) C fl_X2_69 fd_23_12 (show _ = h 23 12 by simp only [kx_up]; simp) dX2_becomeLike_58 ?_
  refine kx_puti (pc := 61) C fl_X2_69 fp_X2_12 fd_1_12 rfl rfl dX2_becomeLike_61 ?_
  refine kx_ald0 (pc := 64) C dX2_becomeLike_64 ?_
  refine kx_ald1 (pc := 65) C dX2_becomeLike_65 ?_
  refine kx_geti (pc := 66) C fl_X2_77 fd_23_13 (show _ = h 23 13 by simp only [kx_up]; simp) dX2_becomeLike_66 ?_
  refine kx_puti (pc := 69) C fl_X2_77 fp_X2_13 fd_1_13 rfl rfl dX2_becomeLike_69 ?_
  refine kx_ald1 (pc := 72) C dX2_becomeLike_72 ?_
  refine kx_getr (pc := 73) C fl_X2_15 fd_23_5 dX2_becomeLike_73 ?_
  refine kx_iconst (pc := 76) C (v := nI 0) dX2_becomeLike_76 (by decide) ?_
  refine kx_ald0 (pc := 77) C dX2_becomeLike_77 ?_
  refine kx_getr (pc := 78) C fl_X2_15 fd_1_5 dX2_becomeLike_78 ?_
  refine kx_iconst (pc := 81) C (v := nI 0) dX2_becomeLike_81 (by decide) ?_
  refine kx_bipush (pc := 82) C (v := nI 8) dX2_becomeLike_82 (by decide) ?_
  refine kx_cpy (pc := 84) C ac_X2_53 ia_24 ia_2 (by decide) (by omega) (by omega) (Nat.le_of_ble_eq_true rfl) dX2_becomeLike_84 ?_
  refine kx_ald1 (pc := 87) C dX2_becomeLike_87 ?_
  refine kx_getr (pc := 88) C fl_X2_24 fd_23_7 dX2_becomeLike_88 ?_
  refine kx_iconst (pc := 91) C (v := nI 0) dX2_becomeLike_91 (by decide) ?_
  refine kx_ald0 (pc := 92) C dX2_becomeLike_92 ?_
  refine kx_getr (pc := 93) C fl_X2_24 fd_1_7 dX2_becomeLike_93 ?_
  refine kx_iconst (pc := 96) C (v := nI 0) dX2_becomeLike_96 (by decide) ?_
  refine kx_iconst (pc := 97) C (v := nI 4) dX2_becomeLike_97 (by decide) ?_
  refine kx_cpy (pc := 98) C ac_X2_53 ia_34 ia_12 (by decide) (by omega) (by omega) (Nat.le_of_ble_eq_true rfl) dX2_becomeLike_98 ?_
  refine kx_iconst (pc := 101) C (v := nI 0) dX2_becomeLike_101 (by decide) ?_
  refine kx_ist2 (pc := 102) C dX2_becomeLike_102 (by decide) rfl ?_
  refine loop 8 0 _ (by omega) (by omega) (fun k hk => ?_) (fun t ht => ?_) (fun e he => ?_) (fun t j ht hj => absurd ht (by omega)) (fun d j hd => ?_)
  · rw [kx_cp, if_neg (by omega)]; rw [kx_cp, if_neg (by omega)]
    simp only [kx_up]
    rcases (show k = 0 ∨ k = 1 ∨ k = 2 ∨ k = 3 ∨ k = 4 ∨ k = 10 ∨ k = 11 ∨ k = 12 ∨ k = 13 by omega) with z | z | z | z | z | z | z | z | z <;> subst z <;> simp
  · rw [kx_cp, if_neg (by omega)]; rw [kx_cp, if_pos (by omega), show 0 + (t - 0) = t by omega]
    simp [kx_up]
  · rw [kx_cp, if_pos (by omega), show 0 + (e - 0) = e by omega]
    rw [kx_cp, if_neg (by omega)]
    simp [kx_up]
  · rw [kx_cp, if_neg (by omega)]; rw [kx_cp, if_neg (by omega)]
    simp only [kx_up]
    repeat rw [if_neg (by omega)]
set_option maxHeartbeats 4000000 in
set_option maxRecDepth 100000 in
theorem m_X5_begin {h : kx_H} {j : Nat} (l n : Int32) (hj : j < 4) : kx_MV 1 yX5_begin cX5_begin 4 [.ref (48 + 2 * j), .int l, .int n] h (fun h1 => h1 (48 + 2 * j) 0 = l ∧ h1 (48 + 2 * j) 1 = n ∧ (∀ k, k < 24 → h1 (49 + 2 * j) k = 0) ∧ ∀ d k, d ≠ 48 + 2 * j → d ≠ 49 + 2 * j → h1 d k = h d k) := by
  refine kx_mkV (own := RX5) (L0 := [some (.ref (48 + 2 * j)), some (.int l), some (.int n), none]) rfl (by decide +kernel) (Nat.le_of_ble_eq_true rfl) rfl (fun F C hR => ?_)
  have loop : ∀ (q i : Nat) (g : kx_H), 24 - i = q → i ≤ 24 → g (48 + 2 * j) 0 = l → g (48 + 2 * j) 1 = n → (∀ k, k < i → g (49 + 2 * j) k = 0) → (∀ d k, d ≠ 48 + 2 * j → d ≠ 49 + 2 * j → g d k = h d k) → F 12 [some (.ref (48 + 2 * j)), some (.int l), some (.int n), some (.int (nI i))] [] g := by
    intro q
    induction q with
    | zero =>
      intro i g hq hi g1 g2 g3 g4
      refine kx_ild3 (pc := 12) C dX5_begin_12 ?_
      refine kx_bipush (pc := 13) C (v := nI 24) dX5_begin_13 (by decide) ?_
      refine kx_icmp_geN (pc := 15) C 31 (by omega) (by omega) dX5_begin_15 (by decide) (fun c15 => ?_) (fun c15 => ?_)
      · exact hR dX5_begin_31 ⟨g1, g2, fun k hk => g3 k (by omega), g4⟩
      · omega
    | succ q ih =>
      intro i g hq hi g1 g2 g3 g4
      refine kx_ild3 (pc := 12) C dX5_begin_12 ?_
      refine kx_bipush (pc := 13) C (v := nI 24) dX5_begin_13 (by decide) ?_
      refine kx_icmp_geN (pc := 15) C 31 (by omega) (by omega) dX5_begin_15 (by decide) (fun c15 => ?_) (fun c15 => ?_)
      · omega
      · refine kx_ald0 (pc := 18) C dX5_begin_18 ?_
        refine kx_getr (pc := 19) C fl_X5_15 (fs_2 _ (by omega)) dX5_begin_19 ?_
        refine kx_ild3 (pc := 22) C dX5_begin_22 ?_
        refine kx_iconst (pc := 23) C (v := nI 0) dX5_begin_23 (by decide) ?_
        refine kx_iast (pc := 24) C (fs_i _ (by omega)) (by omega) dX5_begin_24 ?_
        first | refine kx_inc3 (pc := 25) C (v := nI (_ + 1)) dX5_begin_25 (by decide) rfl (nI_1 _) ?_ | refine kx_inc3 (pc := 25) C dX5_begin_25 (by decide) rfl rfl ?_
        refine kx_goto (pc := 28) C 12 dX5_begin_28 (by decide) ?_
        refine ih (i + 1) _ (by omega) (by omega) (by rw [kx_up, if_neg (by omega)]; exact g1) (by rw [kx_up, if_neg (by omega)]; exact g2) (fun k hk => ?_) (fun d k h1 h2 => by rw [kx_up, if_neg (by omega)]; exact g4 d k h1 h2)
        by_cases z : k = i
        · subst z
          rw [kx_up, if_pos ⟨rfl, rfl⟩]; rfl
        · rw [kx_up, if_neg (by omega)]
          exact g3 k (by omega)
  refine kx_ald0 (pc := 0) C dX5_begin_0 ?_
  refine kx_ild1 (pc := 1) C dX5_begin_1 ?_
  refine kx_puti (pc := 2) C fl_X5_9 fp_X5_0 (fs_0 _ (by omega)) rfl rfl dX5_begin_2 ?_
  refine kx_ald0 (pc := 5) C dX5_begin_5 ?_
  refine kx_ild2 (pc := 6) C dX5_begin_6 ?_
  refine kx_puti (pc := 7) C fl_X5_19 fp_X5_1 (fs_1 _ (by omega)) rfl rfl dX5_begin_7 ?_
  refine kx_iconst (pc := 10) C (v := nI 0) dX5_begin_10 (by decide) ?_
  refine kx_ist3 (pc := 11) C dX5_begin_11 (by decide) rfl ?_
  exact loop 24 0 _ (by omega) (by omega) (by simp [kx_up]) (by simp [kx_up]) (fun k hk => absurd hk (by omega)) (fun d k h1 h2 => by simp [kx_up, h1])
set_option maxHeartbeats 4000000 in
set_option maxRecDepth 100000 in
theorem m_X5_hasItems {h : kx_H} {j z : Nat} (i n : Int32) (hj : j < 4) (hz : h (48 + 2 * j) 1 = nI z) (hz24 : z ≤ 24) : kx_MI 1 yX5_hasItems cX5_hasItems 3 .boolean [.ref (48 + 2 * j), .int i, .int n] h (fun r h1 => h1 = h ∧ r = if 0 ≤ i.toInt ∧ 0 ≤ n.toInt ∧ i.toInt + n.toInt ≤ (z : Int) then 1 else 0) := by
  refine kx_mkI (own := RX5) (L0 := [some (.ref (48 + 2 * j)), some (.int i), some (.int n)]) rfl (by decide +kernel) (Nat.le_of_ble_eq_true rfl) rfl (fun F C hR => ?_)
  refine kx_ild1 (pc := 0) C dX5_hasItems_0 ?_
  refine kx_if_ltI (pc := 1) C 22 dX5_hasItems_1 (by decide) (fun c1 => ?_) (fun c1 => ?_)
  · refine kx_iconst (pc := 22) C (v := nI 0) dX5_hasItems_22 (by decide) ?_
    exact hR dX5_hasItems_23 rfl ⟨rfl, by
      have e1 := kx_T (show z < 2 ^ 31 by omega)
      have e2 := kx_Thi n
      first
        | rw [if_neg (by omega)]; rfl
        | (rw [kx_Tsub (by omega) (by omega)] at c15
           first
             | rw [if_neg (by omega)]; rfl
             | rw [if_pos (by omega)]; rfl)⟩
  · refine kx_ild2 (pc := 4) C dX5_hasItems_4 ?_
    refine kx_if_ltI (pc := 5) C 22 dX5_hasItems_5 (by decide) (fun c5 => ?_) (fun c5 => ?_)
    · refine kx_iconst (pc := 22) C (v := nI 0) dX5_hasItems_22 (by decide) ?_
      exact hR dX5_hasItems_23 rfl ⟨rfl, by
        have e1 := kx_T (show z < 2 ^ 31 by omega)
        have e2 := kx_Thi n
        first
          | rw [if_neg (by omega)]; rfl
          | (rw [kx_Tsub (by omega) (by omega)] at c15
             first
               | rw [if_neg (by omega)]; rfl
               | rw [if_pos (by omega)]; rfl)⟩
    · refine kx_ild1 (pc := 8) C dX5_hasItems_8 ?_
      refine kx_ald0 (pc := 9) C dX5_hasItems_9 ?_
      refine kx_geti (pc := 10) C fl_X5_19 (fs_1 _ (by omega)) (by first | assumption | rfl) dX5_hasItems_10 ?_
      refine kx_ild2 (pc := 13) C dX5_hasItems_13 ?_
      refine kx_isub (pc := 14) C dX5_hasItems_14 ?_
      refine kx_icmp_gtI (pc := 15) C 22 dX5_hasItems_15 (by decide) (fun c15 => ?_) (fun c15 => ?_)
      · refine kx_iconst (pc := 22) C (v := nI 0) dX5_hasItems_22 (by decide) ?_
        exact hR dX5_hasItems_23 rfl ⟨rfl, by
          have e1 := kx_T (show z < 2 ^ 31 by omega)
          have e2 := kx_Thi n
          first
            | rw [if_neg (by omega)]; rfl
            | (rw [kx_Tsub (by omega) (by omega)] at c15
               first
                 | rw [if_neg (by omega)]; rfl
                 | rw [if_pos (by omega)]; rfl)⟩
      · refine kx_iconst (pc := 18) C (v := nI 1) dX5_hasItems_18 (by decide) ?_
        refine kx_goto (pc := 19) C 23 dX5_hasItems_19 (by decide) ?_
        exact hR dX5_hasItems_23 rfl ⟨rfl, by
          have e1 := kx_T (show z < 2 ^ 31 by omega)
          have e2 := kx_Thi n
          first
            | rw [if_neg (by omega)]; rfl
            | (rw [kx_Tsub (by omega) (by omega)] at c15
               first
                 | rw [if_neg (by omega)]; rfl
                 | rw [if_pos (by omega)]; rfl)⟩
set_option maxHeartbeats 4000000 in
set_option maxRecDepth 100000 in
theorem m_X5_refusal {h : kx_H} {j z : Nat} (l i n : Int32) (hj : j < 4) (hz : h (48 + 2 * j) 1 = nI z) (hz24 : z ≤ 24) : kx_MI 2 yX5_refusal cX5_refusal 4 .int [.ref (48 + 2 * j), .int l, .int i, .int n] h (fun r h1 => h1 = h ∧ r = if h (48 + 2 * j) 0 = -1 then -11 else if ¬ h (48 + 2 * j) 0 = l then -12 else if 0 ≤ i.toInt ∧ 0 ≤ n.toInt ∧ i.toInt + n.toInt ≤ (z : Int) then 0 else -13) := by
  refine kx_mkI (own := RX5) (L0 := [some (.ref (48 + 2 * j)), some (.int l), some (.int i), some (.int n)]) rfl (by decide +kernel) (Nat.le_of_ble_eq_true rfl) rfl (fun F C hR => ?_)
  refine kx_ald0 (pc := 0) C dX5_refusal_0 ?_
  refine kx_geti (pc := 1) C fl_X5_9 (fs_0 _ (by omega)) rfl dX5_refusal_1 ?_
  refine kx_iconst (pc := 4) C (v := -1) dX5_refusal_4 (by decide) ?_
  refine kx_icmp_ne (pc := 5) C 11 dX5_refusal_5 (by decide) (fun c5 => ?_) (fun c5 => ?_)
  · refine kx_ald0 (pc := 11) C dX5_refusal_11 ?_
    refine kx_geti (pc := 12) C fl_X5_9 (fs_0 _ (by omega)) rfl dX5_refusal_12 ?_
    refine kx_ild1 (pc := 15) C dX5_refusal_15 ?_
    refine kx_icmp_eq (pc := 16) C 22 dX5_refusal_16 (by decide) (fun c16 => ?_) (fun c16 => ?_)
    · refine kx_ald0 (pc := 22) C dX5_refusal_22 ?_
      refine kx_ild2 (pc := 23) C dX5_refusal_23 ?_
      refine kx_ild3 (pc := 24) C dX5_refusal_24 ?_
      refine kx_callVI2 (pc := 25) C cs_X5_22 (fs_o _ (by omega)) (m_X5_hasItems _ _ hj hz hz24) (by decide) dX5_refusal_25 (Nat.le_of_ble_eq_true rfl) (fun r25 h25 q25 => ?_)
      obtain ⟨rfl, rfl⟩ := q25
      refine kx_if_eq (pc := 28) C 35 dX5_refusal_28 (by decide) (fun c28 => ?_) (fun c28 => ?_)
      · refine kx_bipush (pc := 35) C (v := -13) dX5_refusal_35 (by decide) ?_
        exact hR dX5_refusal_37 rfl ⟨rfl, by rw [if_neg c5, if_neg (fun z => z c16)]; first | (rw [if_neg (kx_if0 c28)]; done) | (rw [if_pos (kx_if1 c28)]; rfl)⟩
      · refine kx_iconst (pc := 31) C (v := nI 0) dX5_refusal_31 (by decide) ?_
        refine kx_goto (pc := 32) C 37 dX5_refusal_32 (by decide) ?_
        exact hR dX5_refusal_37 rfl ⟨rfl, by rw [if_neg c5, if_neg (fun z => z c16)]; first | (rw [if_neg (kx_if0 c28)]; done) | (rw [if_pos (kx_if1 c28)]; rfl)⟩
    · refine kx_bipush (pc := 19) C (v := -12) dX5_refusal_19 (by decide) ?_
      exact hR dX5_refusal_21 rfl ⟨rfl, by rw [if_neg c5, if_pos c16]⟩
  · refine kx_bipush (pc := 8) C (v := -11) dX5_refusal_8 (by decide) ?_
    exact hR dX5_refusal_10 rfl ⟨rfl, by rw [if_pos c5]⟩
def sp_cut (l : Int32) (v : Int64) : Int32 := if l = 0 then v.toInt32.toInt8.toInt32 else if l = nI 1 then v.toInt32.toInt16.toInt32 else v.toInt32
set_option maxHeartbeats 4000000 in
set_option maxRecDepth 100000 in
theorem m_X5_put {h : kx_H} {j i : Nat} (v : Int64) (hj : j < 4) (hi : i < 24) : kx_MV 1 yX5_put cX5_put 4 [.ref (48 + 2 * j), .int (nI i), .long v] h (fun h1 => h1 = kx_up h (49 + 2 * j) i (sp_cut (h (48 + 2 * j) 0) v)) := by
  refine kx_mkV (own := RX5) (L0 := [some (.ref (48 + 2 * j)), some (.int (nI i)), some (.long v), none]) rfl (by decide +kernel) (Nat.le_of_ble_eq_true rfl) rfl (fun F C hR => ?_)
  refine kx_ald0 (pc := 0) C dX5_put_0 ?_
  refine kx_geti (pc := 1) C fl_X5_9 (fs_0 _ (by omega)) rfl dX5_put_1 ?_
  refine kx_if_ne (pc := 4) C 19 dX5_put_4 (by decide) (fun c4 => ?_) (fun c4 => ?_)
  · refine kx_ald0 (pc := 19) C dX5_put_19 ?_
    refine kx_geti (pc := 20) C fl_X5_9 (fs_0 _ (by omega)) rfl dX5_put_20 ?_
    refine kx_iconst (pc := 23) C (v := nI 1) dX5_put_23 (by decide) ?_
    refine kx_icmp_ne (pc := 24) C 39 dX5_put_24 (by decide) (fun c24 => ?_) (fun c24 => ?_)
    · refine kx_ald0 (pc := 39) C dX5_put_39 ?_
      refine kx_getr (pc := 40) C fl_X5_15 (fs_2 _ (by omega)) dX5_put_40 ?_
      refine kx_ild1 (pc := 43) C dX5_put_43 ?_
      refine kx_lld2 (pc := 44) C dX5_put_44 ?_
      refine kx_l2i (pc := 45) C dX5_put_45 ?_
      refine kx_iast (pc := 46) C (fs_i _ (by omega)) (by omega) dX5_put_46 ?_
      exact hR dX5_put_47 (by unfold sp_cut; first | rw [if_pos c4] | (rw [if_neg c4]; first | (rw [if_pos c24]; done) | (rw [if_neg c24]; done)))
    · refine kx_ald0 (pc := 27) C dX5_put_27 ?_
      refine kx_getr (pc := 28) C fl_X5_15 (fs_2 _ (by omega)) dX5_put_28 ?_
      refine kx_ild1 (pc := 31) C dX5_put_31 ?_
      refine kx_lld2 (pc := 32) C dX5_put_32 ?_
      refine kx_l2i (pc := 33) C dX5_put_33 ?_
      refine kx_i2s (pc := 34) C dX5_put_34 ?_
      refine kx_iast (pc := 35) C (fs_i _ (by omega)) (by omega) dX5_put_35 ?_
      refine kx_goto (pc := 36) C 47 dX5_put_36 (by decide) ?_
      exact hR dX5_put_47 (by unfold sp_cut; first | rw [if_pos c4] | (rw [if_neg c4]; first | (rw [if_pos c24]; done) | (rw [if_neg c24]; done)))
  · refine kx_ald0 (pc := 7) C dX5_put_7 ?_
    refine kx_getr (pc := 8) C fl_X5_15 (fs_2 _ (by omega)) dX5_put_8 ?_
    refine kx_ild1 (pc := 11) C dX5_put_11 ?_
    refine kx_lld2 (pc := 12) C dX5_put_12 ?_
    refine kx_l2i (pc := 13) C dX5_put_13 ?_
    refine kx_i2b (pc := 14) C dX5_put_14 ?_
    refine kx_iast (pc := 15) C (fs_i _ (by omega)) (by omega) dX5_put_15 ?_
    refine kx_goto (pc := 16) C 47 dX5_put_16 (by decide) ?_
    exact hR dX5_put_47 (by unfold sp_cut; first | rw [if_pos c4] | (rw [if_neg c4]; first | (rw [if_pos c24]; done) | (rw [if_neg c24]; done)))
set_option maxHeartbeats 4000000 in
set_option maxRecDepth 100000 in
theorem m_X7_append {h : kx_H} {n v : Nat} (hn : h 45 1 = nI n) (hn24 : n < 24) : kx_MV 1 yX7_append cX7_append 2 [.ref 45, .int (nI v)] h (fun h1 => h1 = kx_up (kx_up h 45 1 (nI (n + 1))) 46 n (nI v)) := by
  refine kx_mkV (own := RX7) (L0 := [some (.ref 45), some (.int (nI v))]) rfl (by decide +kernel) (Nat.le_of_ble_eq_true rfl) rfl (fun F C hR => ?_)
  refine kx_ald0 (pc := 0) C dX7_append_0 ?_
  refine kx_geti (pc := 1) C fl_X7_15 fd_45_1 (by first | assumption | rfl) dX7_append_1 ?_
  refine kx_bipush (pc := 4) C (v := nI 24) dX7_append_4 (by decide) ?_
  refine kx_icmp_geN (pc := 6) C 26 (by omega) (by omega) dX7_append_6 (by decide) (fun c6 => ?_) (fun c6 => ?_)
  · omega
  · refine kx_ald0 (pc := 9) C dX7_append_9 ?_
    refine kx_getr (pc := 10) C fl_X7_9 fd_45_0 dX7_append_10 ?_
    refine kx_ald0 (pc := 13) C dX7_append_13 ?_
    refine kx_dup (pc := 14) C dX7_append_14 rfl ?_
    refine kx_geti (pc := 15) C fl_X7_15 fd_45_1 (by first | assumption | rfl) dX7_append_15 ?_
    refine kx_dup_x1 (pc := 18) C dX7_append_18 rfl rfl ?_
    refine kx_iconst (pc := 19) C (v := nI 1) dX7_append_19 (by decide) ?_
    first | refine kx_iaddN (pc := 20) C dX7_append_20 ?_ | refine kx_iadd (pc := 20) C dX7_append_20 ?_
    refine kx_puti (pc := 21) C fl_X7_15 fp_X7_1 fd_45_1 rfl rfl dX7_append_21 ?_
    refine kx_ild1 (pc := 24) C dX7_append_24 ?_
    refine kx_iast (pc := 25) C ia_46 (by omega) dX7_append_25 ?_
    exact hR dX7_append_26 (rfl)
