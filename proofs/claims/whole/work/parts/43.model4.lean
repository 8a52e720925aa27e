theorem sp_ref_nn {sl sn : Nat → Nat} {j : Nat} {l i : Int32} {n : Int} : 0 ≤ (sp_ref sl sn j l i n).toInt ↔ sp_ref sl sn j l i n = 0 := by
  refine ⟨fun z => ?_, fun z => by rw [z]; decide⟩
  revert z
  unfold sp_ref
  split
  · intro z; exact absurd z (by decide)
  · split
    · intro z; exact absurd z (by decide)
    · split
      · intro _; rfl
      · intro z; exact absurd z (by decide)
theorem sp_ref_in {sl sn : Nat → Nat} {j : Nat} {i : Int32} {n : Int} (z : 0 < sl j) : sp_ref sl sn j (nI (sl j - 1)) i n = 0 ↔ 0 ≤ i.toInt ∧ 0 ≤ n ∧ i.toInt + n ≤ (sn j : Int) := by
  unfold sp_ref
  rw [if_neg (by omega), if_neg (fun y => y rfl)]
  split
  · next q => exact ⟨fun _ => q, fun _ => rfl⟩
  · next q => exact ⟨fun y => absurd y (by decide), fun y => absurd y q⟩
set_option maxHeartbeats 4000000 in
set_option maxRecDepth 100000 in
theorem m_X9_copy {h : kx_H} {sl sn : Nat → Nat} {it : kx_H} (v i w j n : Int32) (hs : st_MS h sl sn it) : kx_MI 3 yX9_copy cX9_copy 8 .int [.ref 127, .int v, .int i, .int w, .int j, .int n] h (fun r h1 => r = sp_copy sl sn v i w j n ∧ (¬ sp_copyC sl sn v i w j n → h1 = h) ∧ (sp_copyC sl sn v i w j n → st_MS h1 sl sn (sp_copyI it v i w j n)) ∧ ∀ d k, d ≠ 131 → d ≠ 132 → d ≠ 133 → h1 d k = h d k) := by
  refine kx_mkI (own := RX9) (L0 := [some (.ref 127), some (.int v), some (.int i), some (.int w), some (.int j), some (.int n), none, none]) rfl (by decide +kernel) (Nat.le_of_ble_eq_true rfl) rfl (fun F C hR => ?_)
  have loop : ∀ (x p y q m : Nat), v = nI x → i = nI p → w = nI y → j = nI q → n = nI m → x < 4 → y < 4 → p + m ≤ 24 → q + m ≤ 24 → sp_copyC sl sn v i w j n → (n = sp_copy sl sn v i w j n) → ∀ (c k lo hi : Nat) (g : kx_H) (o : Option Value), m - k = c → k ≤ m → ((p < q ∧ lo = q + (m - k) ∧ hi = q + m) ∨ (q ≤ p ∧ lo = q ∧ hi = q + k)) → (∀ s, s < 24 → g 133 (24 * y + s) = if lo ≤ s ∧ s < hi then it x (p + (s - q)) else it y s) → (∀ s, s < 24 * y ∨ 24 * y + 24 ≤ s → g 133 s = h 133 s) → (∀ d s, d ≠ 133 → g d s = h d s) → F 111 [some (.ref 127), some (.int (nI x)), some (.int (nI p)), some (.int (nI y)), some (.int (nI q)), some (.int (nI m)), some (.int (nI k)), o] [] g := by
    intro x p y q m e1 e2 e3 e4 e5 hx hy hp hq hC hrc c
    subst e1; subst e2; subst e3; subst e4; subst e5
    induction c with
    | zero =>
      intro k lo hi g o hc hk hlh g1 g2 g3
      refine kx_ild6 (pc := 111) C dX9_copy_111 ?_
      refine kx_ild5 (pc := 113) C dX9_copy_113 ?_
      refine kx_icmp_geN (pc := 115) C 173 (by omega) (by omega) dX9_copy_115 (by decide) (fun c115 => ?_) (fun c115 => ?_)
      · refine kx_ild5 (pc := 173) C dX9_copy_173 ?_
        refine hR dX9_copy_175 rfl ⟨hrc, fun z => absurd hC z, fun _ => ?_, fun d s h1 h2 h3 => g3 d s h3⟩
        rw [sp_copyI, kx_n, kx_n, kx_n, kx_n, kx_n, kx_n_nI (by omega), kx_n_nI (by omega), kx_n_nI (by omega), kx_n_nI (by omega), kx_n_nI (by omega)]
        obtain ⟨t1, t3, t4⟩ := hs y hy
        have := hs.one (g := g) (x := sl y) (y := sn y) (f := fun k => if q ≤ k ∧ k < q + m then it x (p + (k - q)) else it y k) hy (by rw [g3 _ _ (by omega), g3 _ _ (by omega)]; exact t1) t3 (fun s hs => by rw [g1 s hs]; exact kx_ifx (by omega) _ _) (fun s hs => ⟨g3 _ _ (by omega), g3 _ _ (by omega)⟩) g2
        rw [up_id, up_id] at this
        exact this
      · omega
    | succ c ih =>
      intro k lo hi g o hc hk hlh g1 g2 g3
      have rd : ∀ e, e < m → (x = y → ¬ (lo ≤ p + e ∧ p + e < hi)) → g 133 (24 * x + p + e) = it x (p + e) := by
        intro e he hn
        by_cases z : x = y
        · subst z
          rw [Nat.add_assoc, g1 _ (by omega), if_neg (hn rfl)]
        · rw [Nat.add_assoc, g2 _ (by omega)]
          exact (hs x hx).2.2 _ (by omega)
      refine kx_ild6 (pc := 111) C dX9_copy_111 ?_
      refine kx_ild5 (pc := 113) C dX9_copy_113 ?_
      refine kx_icmp_geN (pc := 115) C 173 (by omega) (by omega) dX9_copy_115 (by decide) (fun c115 => ?_) (fun c115 => ?_)
      · omega
      · refine kx_ild4 (pc := 118) C dX9_copy_118 ?_
        refine kx_ild2 (pc := 120) C dX9_copy_120 ?_
        refine kx_icmp_leN (pc := 121) C 134 (by omega) (by omega) dX9_copy_121 (by decide) (fun c121 => ?_) (fun c121 => ?_)
        · have rdk := rd k (by omega) (by omega)
          refine kx_ild6 (pc := 134) C dX9_copy_134 ?_
          refine kx_ist7 (pc := 136) C dX9_copy_136 (by decide) rfl ?_
          refine kx_ald0 (pc := 138) C dX9_copy_138 ?_
          refine kx_getr (pc := 139) C fl_X9_25 fd_127_7 dX9_copy_139 ?_
          refine kx_bipush (pc := 142) C (v := nI 24) dX9_copy_142 (by decide) ?_
          refine kx_ild3 (pc := 144) C dX9_copy_144 ?_
          first | refine kx_imulN (pc := 145) C dX9_copy_145 ?_ | refine kx_imul (pc := 145) C dX9_copy_145 ?_
          refine kx_ild4 (pc := 146) C dX9_copy_146 ?_
          first | refine kx_iaddN (pc := 148) C dX9_copy_148 ?_ | refine kx_iadd (pc := 148) C dX9_copy_148 ?_
          refine kx_ild7 (pc := 149) C dX9_copy_149 ?_
          first | refine kx_iaddN (pc := 151) C dX9_copy_151 ?_ | refine kx_iadd (pc := 151) C dX9_copy_151 ?_
          refine kx_ald0 (pc := 152) C dX9_copy_152 ?_
          refine kx_getr (pc := 153) C fl_X9_25 fd_127_7 dX9_copy_153 ?_
          refine kx_bipush (pc := 156) C (v := nI 24) dX9_copy_156 (by decide) ?_
          refine kx_ild1 (pc := 158) C dX9_copy_158 ?_
          first | refine kx_imulN (pc := 159) C dX9_copy_159 ?_ | refine kx_imul (pc := 159) C dX9_copy_159 ?_
          refine kx_ild2 (pc := 160) C dX9_copy_160 ?_
          first | refine kx_iaddN (pc := 161) C dX9_copy_161 ?_ | refine kx_iadd (pc := 161) C dX9_copy_161 ?_
          refine kx_ild7 (pc := 162) C dX9_copy_162 ?_
          first | refine kx_iaddN (pc := 164) C dX9_copy_164 ?_ | refine kx_iadd (pc := 164) C dX9_copy_164 ?_
          refine kx_iald (pc := 165) C ia_133 (by omega) rdk dX9_copy_165 ?_
          refine kx_iast (pc := 166) C ia_133 (by omega) dX9_copy_166 ?_
          first | refine kx_inc6 (pc := 167) C (v := nI (_ + 1)) dX9_copy_167 (by decide) rfl (nI_1 _) ?_ | refine kx_inc6 (pc := 167) C dX9_copy_167 (by decide) rfl rfl ?_
          refine kx_goto (pc := 170) C 111 dX9_copy_170 (by decide) ?_
          first
            | (refine ih (k + 1) (q + (m - (k + 1))) (q + m) _ _ (by omega) (by omega) (Or.inl ⟨by omega, rfl, rfl⟩) (fun s hs => ?_) (fun s hs => by rw [kx_up, if_neg (by omega)]; exact g2 s hs) (fun d s hd => by rw [kx_up, if_neg (by omega)]; exact g3 d s hd)
               by_cases z : s = q + (m - 1 - k)
               · rw [kx_up, if_pos ⟨rfl, by omega⟩, if_pos (by omega), show s - q = m - 1 - k by omega]
               · rw [kx_up, if_neg (by omega), g1 s hs]
                 exact kx_ifx (by omega) _ _)
            | (refine ih (k + 1) q (q + (k + 1)) _ _ (by omega) (by omega) (Or.inr ⟨by omega, rfl, rfl⟩) (fun s hs => ?_) (fun s hs => by rw [kx_up, if_neg (by omega)]; exact g2 s hs) (fun d s hd => by rw [kx_up, if_neg (by omega)]; exact g3 d s hd)
               by_cases z : s = q + k
               · rw [kx_up, if_pos ⟨rfl, by omega⟩, if_pos (by omega), show s - q = k by omega]
               · rw [kx_up, if_neg (by omega), g1 s hs]
                 exact kx_ifx (by omega) _ _)
        · have rdk := rd (m - 1 - k) (by omega) (by omega)
          refine kx_ild5 (pc := 124) C dX9_copy_124 ?_
          refine kx_iconst (pc := 126) C (v := nI 1) dX9_copy_126 (by decide) ?_
          refine kx_isubN (pc := 127) C (by omega) dX9_copy_127 ?_
          refine kx_ild6 (pc := 128) C dX9_copy_128 ?_
          refine kx_isubN (pc := 130) C (by omega) dX9_copy_130 ?_
          refine kx_goto (pc := 131) C 136 dX9_copy_131 (by decide) ?_
          refine kx_ist7 (pc := 136) C dX9_copy_136 (by decide) rfl ?_
          refine kx_ald0 (pc := 138) C dX9_copy_138 ?_
          refine kx_getr (pc := 139) C fl_X9_25 fd_127_7 dX9_copy_139 ?_
          refine kx_bipush (pc := 142) C (v := nI 24) dX9_copy_142 (by decide) ?_
          refine kx_ild3 (pc := 144) C dX9_copy_144 ?_
          first | refine kx_imulN (pc := 145) C dX9_copy_145 ?_ | refine kx_imul (pc := 145) C dX9_copy_145 ?_
          refine kx_ild4 (pc := 146) C dX9_copy_146 ?_
          first | refine kx_iaddN (pc := 148) C dX9_copy_148 ?_ | refine kx_iadd (pc := 148) C dX9_copy_148 ?_
          refine kx_ild7 (pc := 149) C dX9_copy_149 ?_
          first | refine kx_iaddN (pc := 151) C dX9_copy_151 ?_ | refine kx_iadd (pc := 151) C dX9_copy_151 ?_
          refine kx_ald0 (pc := 152) C dX9_copy_152 ?_
          refine kx_getr (pc := 153) C fl_X9_25 fd_127_7 dX9_copy_153 ?_
          refine kx_bipush (pc := 156) C (v := nI 24) dX9_copy_156 (by decide) ?_
          refine kx_ild1 (pc := 158) C dX9_copy_158 ?_
          first | refine kx_imulN (pc := 159) C dX9_copy_159 ?_ | refine kx_imul (pc := 159) C dX9_copy_159 ?_
          refine kx_ild2 (pc := 160) C dX9_copy_160 ?_
          first | refine kx_iaddN (pc := 161) C dX9_copy_161 ?_ | refine kx_iadd (pc := 161) C dX9_copy_161 ?_
          refine kx_ild7 (pc := 162) C dX9_copy_162 ?_
          first | refine kx_iaddN (pc := 164) C dX9_copy_164 ?_ | refine kx_iadd (pc := 164) C dX9_copy_164 ?_
          refine kx_iald (pc := 165) C ia_133 (by omega) rdk dX9_copy_165 ?_
          refine kx_iast (pc := 166) C ia_133 (by omega) dX9_copy_166 ?_
          first | refine kx_inc6 (pc := 167) C (v := nI (_ + 1)) dX9_copy_167 (by decide) rfl (nI_1 _) ?_ | refine kx_inc6 (pc := 167) C dX9_copy_167 (by decide) rfl rfl ?_
          refine kx_goto (pc := 170) C 111 dX9_copy_170 (by decide) ?_
          first
            | (refine ih (k + 1) (q + (m - (k + 1))) (q + m) _ _ (by omega) (by omega) (Or.inl ⟨by omega, rfl, rfl⟩) (fun s hs => ?_) (fun s hs => by rw [kx_up, if_neg (by omega)]; exact g2 s hs) (fun d s hd => by rw [kx_up, if_neg (by omega)]; exact g3 d s hd)
               by_cases z : s = q + (m - 1 - k)
               · rw [kx_up, if_pos ⟨rfl, by omega⟩, if_pos (by omega), show s - q = m - 1 - k by omega]
               · rw [kx_up, if_neg (by omega), g1 s hs]
                 exact kx_ifx (by omega) _ _)
            | (refine ih (k + 1) q (q + (k + 1)) _ _ (by omega) (by omega) (Or.inr ⟨by omega, rfl, rfl⟩) (fun s hs => ?_) (fun s hs => by rw [kx_up, if_neg (by omega)]; exact g2 s hs) (fun d s hd => by rw [kx_up, if_neg (by omega)]; exact g3 d s hd)
               by_cases z : s = q + k
               · rw [kx_up, if_pos ⟨rfl, by omega⟩, if_pos (by omega), show s - q = k by omega]
               · rw [kx_up, if_neg (by omega), g1 s hs]
                 exact kx_ifx (by omega) _ _)
  refine kx_ild1 (pc := 0) C dX9_copy_0 ?_
  refine kx_i2l (pc := 1) C dX9_copy_1 ?_
  refine kx_lconst (pc := 2) C (v := 0) dX9_copy_2 (by decide) ?_
  refine kx_ldc2 (pc := 3) C dX9_copy_3 cn_X9_82 ?_
  refine kx_callSI3 (pc := 6) C cs_X9_52 (m_X9_in (p := 0) (q := _) (r := 3) (by rfl) (kx_L _) (by rfl)) (by decide) dX9_copy_6 (Nat.le_of_ble_eq_true rfl) (fun r6 h6 q6 => ?_)
  obtain ⟨z6, rfl⟩ := q6
  have z6 := z6.symm
  subst z6
  refine kx_if_eq (pc := 9) C 24 dX9_copy_9 (by decide) (fun c9 => ?_) (fun c9 => ?_)
  · refine kx_iconst (pc := 24) C (v := -1) dX9_copy_24 (by decide) ?_
    have nc : ¬ ((0 ≤ v.toInt ∧ v.toInt ≤ 3) ∧ 0 ≤ w.toInt ∧ w.toInt ≤ 3) := fun z => by
      first
        | exact kx_if0 c21 z.2
        | exact kx_if0 c9 z.1
    exact hR dX9_copy_25 rfl ⟨by rw [sp_copy, if_neg nc], fun _ => rfl, fun z => absurd z.1 nc, fun d k _ _ _ => rfl⟩
  · refine kx_ild3 (pc := 12) C dX9_copy_12 ?_
    refine kx_i2l (pc := 13) C dX9_copy_13 ?_
    refine kx_lconst (pc := 14) C (v := 0) dX9_copy_14 (by decide) ?_
    refine kx_ldc2 (pc := 15) C dX9_copy_15 cn_X9_82 ?_
    refine kx_callSI3 (pc := 18) C cs_X9_52 (m_X9_in (p := 0) (q := _) (r := 3) (by rfl) (kx_L _) (by rfl)) (by decide) dX9_copy_18 (Nat.le_of_ble_eq_true rfl) (fun r18 h18 q18 => ?_)
    obtain ⟨z18, rfl⟩ := q18
    have z18 := z18.symm
    subst z18
    refine kx_if_ne (pc := 21) C 26 dX9_copy_21 (by decide) (fun c21 => ?_) (fun c21 => ?_)
    · have c9 := kx_if1 c9
      have c21 := kx_if1 c21
      obtain ⟨x, rfl, hx, hx2⟩ := kx_nat c9.1
      obtain ⟨y, rfl, hy, hy2⟩ := kx_nat c21.1
      have nx := hs.null (j := x) (by omega)
      have ny := hs.null (j := y) (by omega)
      obtain ⟨s1, s3, s4⟩ := hs x (by omega)
      obtain ⟨t1, t3, t4⟩ := hs y (by omega)
      refine kx_ald0 (pc := 26) C dX9_copy_26 ?_
      refine kx_getr (pc := 27) C fl_X9_19 fd_127_5 dX9_copy_27 ?_
      refine kx_ild1 (pc := 30) C dX9_copy_30 ?_
      refine kx_iald (pc := 31) C ia_131 (by omega) rfl dX9_copy_31 ?_
      refine kx_if_ltI (pc := 32) C 44 dX9_copy_32 (by decide) (fun c32 => ?_) (fun c32 => ?_)
      · refine kx_bipush (pc := 44) C (v := -11) dX9_copy_44 (by decide) ?_
        have e0 : sl x = 0 ∨ sl y = 0 := by
          first
            | exact Or.inl (nx.mp (by omega))
            | exact Or.inr (ny.mp (by omega))
        exact hR dX9_copy_46 rfl ⟨by rw [sp_copy, if_pos ⟨c9, c21⟩, kx_n, kx_n, kx_n_nI hx2, kx_n_nI hy2, if_pos e0], fun _ => rfl, fun z => by unfold sp_copyC at z; rw [kx_n, kx_n, kx_n_nI hx2, kx_n_nI hy2] at z; omega, fun d k _ _ _ => rfl⟩
      · refine kx_ald0 (pc := 35) C dX9_copy_35 ?_
        refine kx_getr (pc := 36) C fl_X9_19 fd_127_5 dX9_copy_36 ?_
        refine kx_ild3 (pc := 39) C dX9_copy_39 ?_
        refine kx_iald (pc := 40) C ia_131 (by omega) rfl dX9_copy_40 ?_
        refine kx_if_geI (pc := 41) C 47 dX9_copy_41 (by decide) (fun c41 => ?_) (fun c41 => ?_)
        · have zx : 0 < sl x := Nat.pos_of_ne_zero (fun z => by have := nx.mpr z; omega)
          have zy : 0 < sl y := Nat.pos_of_ne_zero (fun z => by have := ny.mpr z; omega)
          have z1 : h 131 x = nI (sn x) ∧ h 132 x = nI (sl x - 1) := by
            rcases s1 with ⟨z, q⟩ | ⟨z, z2, q⟩
            · omega
            · exact q
          have z2 : h 131 y = nI (sn y) ∧ h 132 y = nI (sl y - 1) := by
            rcases t1 with ⟨z, q⟩ | ⟨z, z2, q⟩
            · omega
            · exact q
          have bx : sl x ≤ 3 := by rcases s1 with ⟨z, q⟩ | ⟨z, z2, q⟩ <;> omega
          have by_ : sl y ≤ 3 := by rcases t1 with ⟨z, q⟩ | ⟨z, z2, q⟩ <;> omega
          have hl : h 132 x = h 132 y ↔ sl x = sl y := by
            rw [z1.2, z2.2, nI_eq (by omega) (by omega)]
            omega
          refine kx_ald0 (pc := 47) C dX9_copy_47 ?_
          refine kx_getr (pc := 48) C fl_X9_22 fd_127_6 dX9_copy_48 ?_
          refine kx_ild1 (pc := 51) C dX9_copy_51 ?_
          refine kx_iald (pc := 52) C ia_132 (by omega) rfl dX9_copy_52 ?_
          refine kx_ald0 (pc := 53) C dX9_copy_53 ?_
          refine kx_getr (pc := 54) C fl_X9_22 fd_127_6 dX9_copy_54 ?_
          refine kx_ild3 (pc := 57) C dX9_copy_57 ?_
          refine kx_iald (pc := 58) C ia_132 (by omega) rfl dX9_copy_58 ?_
          refine kx_icmp_eq (pc := 59) C 65 dX9_copy_59 (by decide) (fun c59 => ?_) (fun c59 => ?_)
          · refine kx_ild5 (pc := 65) C dX9_copy_65 ?_
            refine kx_if_ltI (pc := 67) C 105 dX9_copy_67 (by decide) (fun c67 => ?_) (fun c67 => ?_)
            · refine kx_bipush (pc := 105) C (v := -13) dX9_copy_105 (by decide) ?_
              have nc : ¬ ((0 ≤ i.toInt ∧ 0 ≤ n.toInt ∧ i.toInt + n.toInt ≤ (sn x : Int)) ∧ 0 ≤ j.toInt ∧ 0 ≤ n.toInt ∧ j.toInt + n.toInt ≤ (sn y : Int)) := fun z => by
                first
                  | exact c102 z.2
                  | exact c84 z.1
                  | omega
              exact hR dX9_copy_107 rfl ⟨by rw [sp_copy, if_pos ⟨c9, c21⟩, kx_n, kx_n, kx_n_nI hx2, kx_n_nI hy2, if_neg (by omega), if_neg (fun z => z (hl.mp c59)), if_neg nc], fun _ => rfl, fun z => by unfold sp_copyC at z; rw [kx_n, kx_n, kx_n_nI hx2, kx_n_nI hy2] at z; exact absurd z.2.2.2.2 nc, fun d k _ _ _ => rfl⟩
            · refine kx_ald0 (pc := 70) C dX9_copy_70 ?_
              refine kx_ild1 (pc := 71) C dX9_copy_71 ?_
              refine kx_ald0 (pc := 72) C dX9_copy_72 ?_
              refine kx_getr (pc := 73) C fl_X9_22 fd_127_6 dX9_copy_73 ?_
              refine kx_ild1 (pc := 76) C dX9_copy_76 ?_
              refine kx_iald (pc := 77) C ia_132 (by omega) rfl dX9_copy_77 ?_
              refine kx_ild2 (pc := 78) C dX9_copy_78 ?_
              refine kx_ild5 (pc := 79) C dX9_copy_79 ?_
              refine kx_callVI4 (pc := 81) C cs_X9_133 ob_127 (m_X9_found _ _ _ hs (show x < 4 by omega) (by omega)) (by decide) dX9_copy_81 (Nat.le_of_ble_eq_true rfl) (fun r81 h81 q81 => ?_)
              obtain ⟨z81, rfl⟩ := q81
              have z81 := z81.symm
              subst z81
              rw [z1.2]
              refine kx_if_ltI (pc := 84) C 105 dX9_copy_84 (by decide) (fun c84 => ?_) (fun c84 => ?_)
              · have c84 : ¬ 0 ≤ (sp_ref sl sn x (nI (sl x - 1)) i n.toInt).toInt := by omega
                rw [sp_ref_nn, sp_ref_in zx] at c84
                refine kx_bipush (pc := 105) C (v := -13) dX9_copy_105 (by decide) ?_
                have nc : ¬ ((0 ≤ i.toInt ∧ 0 ≤ n.toInt ∧ i.toInt + n.toInt ≤ (sn x : Int)) ∧ 0 ≤ j.toInt ∧ 0 ≤ n.toInt ∧ j.toInt + n.toInt ≤ (sn y : Int)) := fun z => by
                  first
                    | exact c102 z.2
                    | exact c84 z.1
                    | omega
                exact hR dX9_copy_107 rfl ⟨by rw [sp_copy, if_pos ⟨c9, c21⟩, kx_n, kx_n, kx_n_nI hx2, kx_n_nI hy2, if_neg (by omega), if_neg (fun z => z (hl.mp c59)), if_neg nc], fun _ => rfl, fun z => by unfold sp_copyC at z; rw [kx_n, kx_n, kx_n_nI hx2, kx_n_nI hy2] at z; exact absurd z.2.2.2.2 nc, fun d k _ _ _ => rfl⟩
              · have c84 : 0 ≤ (sp_ref sl sn x (nI (sl x - 1)) i n.toInt).toInt := by omega
                rw [sp_ref_nn, sp_ref_in zx] at c84
                refine kx_ald0 (pc := 87) C dX9_copy_87 ?_
                refine kx_ild3 (pc := 88) C dX9_copy_88 ?_
                refine kx_ald0 (pc := 89) C dX9_copy_89 ?_
                refine kx_getr (pc := 90) C fl_X9_22 fd_127_6 dX9_copy_90 ?_
                refine kx_ild3 (pc := 93) C dX9_copy_93 ?_
                refine kx_iald (pc := 94) C ia_132 (by omega) rfl dX9_copy_94 ?_
                refine kx_ild4 (pc := 95) C dX9_copy_95 ?_
                refine kx_ild5 (pc := 97) C dX9_copy_97 ?_
                refine kx_callVI4 (pc := 99) C cs_X9_133 ob_127 (m_X9_found _ _ _ hs (show y < 4 by omega) (by omega)) (by decide) dX9_copy_99 (Nat.le_of_ble_eq_true rfl) (fun r99 h99 q99 => ?_)
                obtain ⟨z99, rfl⟩ := q99
                have z99 := z99.symm
                subst z99
                rw [z2.2]
                refine kx_if_geI (pc := 102) C 108 dX9_copy_102 (by decide) (fun c102 => ?_) (fun c102 => ?_)
                · rw [sp_ref_nn, sp_ref_in zy] at c102
                  obtain ⟨p, rfl, hp, hp2⟩ := kx_nat c84.1
                  obtain ⟨q, rfl, hq, hq2⟩ := kx_nat c102.1
                  obtain ⟨m, rfl, hm, hm2⟩ := kx_nat c102.2.1
                  refine kx_iconst (pc := 108) C (v := nI 0) dX9_copy_108 (by decide) ?_
                  refine kx_ist6 (pc := 109) C dX9_copy_109 (by decide) rfl ?_
                  refine loop x p y q m rfl rfl rfl rfl rfl (by omega) (by omega) (by omega) (by omega) ?_ ?_ m 0 (if p < q then q + m else q) (if p < q then q + m else q) h none (by omega) (by omega) ?_ (fun s hs => ?_) (fun s _ => rfl) (fun d s _ => rfl)
                  · unfold sp_copyC
                    rw [kx_n, kx_n, kx_n_nI hx2, kx_n_nI hy2]
                    exact ⟨⟨c9, c21⟩, zx, zy, hl.mp c59, c84, c102⟩
                  · rw [sp_copy, if_pos ⟨c9, c21⟩, kx_n, kx_n, kx_n_nI hx2, kx_n_nI hy2, if_neg (by omega), if_neg (fun z => z (hl.mp c59)), if_pos ⟨c84, c102⟩]
                  · by_cases z : p < q
                    · rw [if_pos z]; exact Or.inl ⟨z, by omega, rfl⟩
                    · rw [if_neg z]; exact Or.inr ⟨by omega, rfl, by omega⟩
                  · rw [if_neg (by omega)]; exact t4 s hs
                · have c102 : ¬ 0 ≤ (sp_ref sl sn y (nI (sl y - 1)) j n.toInt).toInt := by omega
                  rw [sp_ref_nn, sp_ref_in zy] at c102
                  refine kx_bipush (pc := 105) C (v := -13) dX9_copy_105 (by decide) ?_
                  have nc : ¬ ((0 ≤ i.toInt ∧ 0 ≤ n.toInt ∧ i.toInt + n.toInt ≤ (sn x : Int)) ∧ 0 ≤ j.toInt ∧ 0 ≤ n.toInt ∧ j.toInt + n.toInt ≤ (sn y : Int)) := fun z => by
                    first
                      | exact c102 z.2
                      | exact c84 z.1
                      | omega
                  exact hR dX9_copy_107 rfl ⟨by rw [sp_copy, if_pos ⟨c9, c21⟩, kx_n, kx_n, kx_n_nI hx2, kx_n_nI hy2, if_neg (by omega), if_neg (fun z => z (hl.mp c59)), if_neg nc], fun _ => rfl, fun z => by unfold sp_copyC at z; rw [kx_n, kx_n, kx_n_nI hx2, kx_n_nI hy2] at z; exact absurd z.2.2.2.2 nc, fun d k _ _ _ => rfl⟩
          · refine kx_bipush (pc := 62) C (v := -12) dX9_copy_62 (by decide) ?_
            exact hR dX9_copy_64 rfl ⟨by rw [sp_copy, if_pos ⟨c9, c21⟩, kx_n, kx_n, kx_n_nI hx2, kx_n_nI hy2, if_neg (by omega), if_pos (fun z => c59 (hl.mpr z))], fun _ => rfl, fun z => by unfold sp_copyC at z; rw [kx_n, kx_n, kx_n_nI hx2, kx_n_nI hy2] at z; exact absurd (hl.mpr z.2.2.2.1) c59, fun d k _ _ _ => rfl⟩
        · refine kx_bipush (pc := 44) C (v := -11) dX9_copy_44 (by decide) ?_
          have e0 : sl x = 0 ∨ sl y = 0 := by
            first
              | exact Or.inl (nx.mp (by omega))
              | exact Or.inr (ny.mp (by omega))
          exact hR dX9_copy_46 rfl ⟨by rw [sp_copy, if_pos ⟨c9, c21⟩, kx_n, kx_n, kx_n_nI hx2, kx_n_nI hy2, if_pos e0], fun _ => rfl, fun z => by unfold sp_copyC at z; rw [kx_n, kx_n, kx_n_nI hx2, kx_n_nI hy2] at z; omega, fun d k _ _ _ => rfl⟩
    · refine kx_iconst (pc := 24) C (v := -1) dX9_copy_24 (by decide) ?_
      have nc : ¬ ((0 ≤ v.toInt ∧ v.toInt ≤ 3) ∧ 0 ≤ w.toInt ∧ w.toInt ≤ 3) := fun z => by
        first
          | exact kx_if0 c21 z.2
          | exact kx_if0 c9 z.1
      exact hR dX9_copy_25 rfl ⟨by rw [sp_copy, if_neg nc], fun _ => rfl, fun z => absurd z.1 nc, fun d k _ _ _ => rfl⟩
theorem st_MH.to {c e : Nat} {h g : kx_H} {a : Nat → Nat} (hH : st_MH c h a) (hg : ∀ j, j < 141 → g e j = h c j) : st_MH e g a :=
  ⟨fun k hk h4 h5 h6 => by rw [hg k hk]; exact hH.1 k hk h4 h5 h6, by rw [hg 4 (by omega), hg 5 (by omega), hg 6 (by omega)]; exact hH.2⟩
set_option maxHeartbeats 4000000 in
set_option maxRecDepth 100000 in
theorem m_X9_image {h : kx_H} {a : Nat → Nat} (hH : st_MH 128 h a) : kx_MI 1 yX9_image cX9_image 2 .int [.ref 127] h (fun r h1 => r = 1 ∧ st_MH 129 h1 a ∧ h1 127 2 = 1 ∧ (∀ j, j ≠ 2 → h1 127 j = h 127 j) ∧ ∀ d j, d ≠ 127 → d ≠ 129 → h1 d j = h d j) := by
  refine kx_mkI (own := RX9) (L0 := [some (.ref 127), none]) rfl (by decide +kernel) (Nat.le_of_ble_eq_true rfl) rfl (fun F C hR => ?_)
  have loop : ∀ (q k : Nat) (g : kx_H), 141 - k = q → k ≤ 141 → (∀ j, j < k → g 129 j = h 128 j) → (∀ d j, d ≠ 129 → g d j = h d j) → F 2 [some (.ref 127), some (.int (nI k))] [] g := by
    intro q
    induction q with
    | zero =>
      intro k g hq hk g1 g2
      refine kx_ild1 (pc := 2) C dX9_image_2 ?_
      refine kx_sipush (pc := 3) C (v := nI 141) dX9_image_3 (by decide) ?_
      refine kx_icmp_geN (pc := 6) C 27 (by omega) (by omega) dX9_image_6 (by decide) (fun c6 => ?_) (fun c6 => ?_)
      · refine kx_ald0 (pc := 27) C dX9_image_27 ?_
        refine kx_iconst (pc := 28) C (v := nI 1) dX9_image_28 (by decide) ?_
        refine kx_puti (pc := 29) C fl_X9_127 fp_X9_2 fd_127_2 rfl rfl dX9_image_29 ?_
        refine kx_iconst (pc := 32) C (v := nI 1) dX9_image_32 (by decide) ?_
        exact hR dX9_image_33 rfl ⟨rfl, hH.to (fun j hj => by rw [kx_up, if_neg (by omega)]; exact g1 j (by omega)), by rw [kx_up, if_pos ⟨rfl, rfl⟩]; rfl, fun j hj => by rw [kx_up, if_neg (by omega)]; exact g2 _ _ (by omega), fun d j h1 h2 => by rw [kx_up, if_neg (by omega)]; exact g2 d j h2⟩
      · omega
    | succ q ih =>
      intro k g hq hk g1 g2
      refine kx_ild1 (pc := 2) C dX9_image_2 ?_
      refine kx_sipush (pc := 3) C (v := nI 141) dX9_image_3 (by decide) ?_
      refine kx_icmp_geN (pc := 6) C 27 (by omega) (by omega) dX9_image_6 (by decide) (fun c6 => ?_) (fun c6 => ?_)
      · omega
      · refine kx_ald0 (pc := 9) C dX9_image_9 ?_
        refine kx_getr (pc := 10) C fl_X9_13 fd_127_1 dX9_image_10 ?_
        refine kx_ild1 (pc := 13) C dX9_image_13 ?_
        refine kx_ald0 (pc := 14) C dX9_image_14 ?_
        refine kx_getr (pc := 15) C fl_X9_7 fd_127_0 dX9_image_15 ?_
        refine kx_ild1 (pc := 18) C dX9_image_18 ?_
        refine kx_iald (pc := 19) C ia_128 (by omega) (g2 128 k (by omega)) dX9_image_19 ?_
        refine kx_iast (pc := 20) C ia_129 (by omega) dX9_image_20 ?_
        first | refine kx_inc1 (pc := 21) C (v := nI (_ + 1)) dX9_image_21 (by decide) rfl (nI_1 _) ?_ | refine kx_inc1 (pc := 21) C dX9_image_21 (by decide) rfl rfl ?_
        refine kx_goto (pc := 24) C 2 dX9_image_24 (by decide) ?_
        refine ih (k + 1) _ (by omega) (by omega) (fun j hj => ?_) (fun d j hd => by rw [kx_up, if_neg (by omega)]; exact g2 d j hd)
        by_cases z : j = k
        · rw [z, kx_up, if_pos ⟨rfl, rfl⟩]
        · rw [kx_up, if_neg (by omega)]; exact g1 j (by omega)
  refine kx_iconst (pc := 0) C (v := nI 0) dX9_image_0 (by decide) ?_
  refine kx_ist1 (pc := 1) C dX9_image_1 (by decide) rfl ?_
  exact loop 141 0 h (by omega) (by omega) (fun j hj => absurd hj (by omega)) (fun d j _ => rfl)
set_option maxHeartbeats 4000000 in
set_option maxRecDepth 100000 in
theorem m_X9_restore {h : kx_H} {b : Nat → Nat} (hK : ¬ h 127 2 = 0 → st_MH 129 h b) : kx_MI 1 yX9_restore cX9_restore 2 .int [.ref 127] h (fun r h1 => (h 127 2 = 0 → r = -4 ∧ h1 = h) ∧ (¬ h 127 2 = 0 → r = 1 ∧ st_MH 128 h1 b ∧ ∀ d j, d ≠ 128 → h1 d j = h d j)) := by
  refine kx_mkI (own := RX9) (L0 := [some (.ref 127), none]) rfl (by decide +kernel) (Nat.le_of_ble_eq_true rfl) rfl (fun F C hR => ?_)
  have loop : ∀ (q k : Nat) (g : kx_H), ¬ h 127 2 = 0 → 141 - k = q → k ≤ 141 → (∀ j, j < k → g 128 j = h 129 j) → (∀ d j, d ≠ 128 → g d j = h d j) → F 12 [some (.ref 127), some (.int (nI k))] [] g := by
    intro q
    induction q with
    | zero =>
      intro k g hz hq hk g1 g2
      refine kx_ild1 (pc := 12) C dX9_restore_12 ?_
      refine kx_sipush (pc := 13) C (v := nI 141) dX9_restore_13 (by decide) ?_
      refine kx_icmp_geN (pc := 16) C 37 (by omega) (by omega) dX9_restore_16 (by decide) (fun c16 => ?_) (fun c16 => ?_)
      · refine kx_iconst (pc := 37) C (v := nI 1) dX9_restore_37 (by decide) ?_
        exact hR dX9_restore_38 rfl ⟨fun z => absurd z hz, fun _ => ⟨rfl, (hK hz).to (fun j hj => g1 j (by omega)), g2⟩⟩
      · omega
    | succ q ih =>
      intro k g hz hq hk g1 g2
      refine kx_ild1 (pc := 12) C dX9_restore_12 ?_
      refine kx_sipush (pc := 13) C (v := nI 141) dX9_restore_13 (by decide) ?_
      refine kx_icmp_geN (pc := 16) C 37 (by omega) (by omega) dX9_restore_16 (by decide) (fun c16 => ?_) (fun c16 => ?_)
      · omega
      · refine kx_ald0 (pc := 19) C dX9_restore_19 ?_
        refine kx_getr (pc := 20) C fl_X9_7 fd_127_0 dX9_restore_20 ?_
        refine kx_ild1 (pc := 23) C dX9_restore_23 ?_
        refine kx_ald0 (pc := 24) C dX9_restore_24 ?_
        refine kx_getr (pc := 25) C fl_X9_13 fd_127_1 dX9_restore_25 ?_
        refine kx_ild1 (pc := 28) C dX9_restore_28 ?_
        refine kx_iald (pc := 29) C ia_129 (by omega) (g2 129 k (by omega)) dX9_restore_29 ?_
        refine kx_iast (pc := 30) C ia_128 (by omega) dX9_restore_30 ?_
        first | refine kx_inc1 (pc := 31) C (v := nI (_ + 1)) dX9_restore_31 (by decide) rfl (nI_1 _) ?_ | refine kx_inc1 (pc := 31) C dX9_restore_31 (by decide) rfl rfl ?_
        refine kx_goto (pc := 34) C 12 dX9_restore_34 (by decide) ?_
        refine ih (k + 1) _ hz (by omega) (by omega) (fun j hj => ?_) (fun d j hd => by rw [kx_up, if_neg (by omega)]; exact g2 d j hd)
        by_cases z : j = k
        · rw [z, kx_up, if_pos ⟨rfl, rfl⟩]
        · rw [kx_up, if_neg (by omega)]; exact g1 j (by omega)
  refine kx_ald0 (pc := 0) C dX9_restore_0 ?_
  refine kx_geti (pc := 1) C fl_X9_127 fd_127_2 rfl dX9_restore_1 ?_
  refine kx_if_ne (pc := 4) C 10 dX9_restore_4 (by decide) (fun c4 => ?_) (fun c4 => ?_)
  · refine kx_iconst (pc := 10) C (v := nI 0) dX9_restore_10 (by decide) ?_
    refine kx_ist1 (pc := 11) C dX9_restore_11 (by decide) rfl ?_
    exact loop 141 0 h c4 (by omega) (by omega) (fun j hj => absurd hj (by omega)) (fun d j _ => rfl)
  · refine kx_bipush (pc := 7) C (v := -4) dX9_restore_7 (by decide) ?_
    exact hR dX9_restore_9 rfl ⟨fun _ => ⟨rfl, rfl⟩, fun z => absurd c4 z⟩
theorem kx_m4 {j : Nat} (h : j < 2 ^ 31) : ¬ nI j = -4 := by
  rw [kx_eqI, kx_T h, show (-4 : Int32).toInt = -4 from rfl]
  omega
set_option maxHeartbeats 4000000 in
set_option maxRecDepth 100000 in
theorem m_X9_tale {h : kx_H} {a : Nat → Nat} {n : Nat} {tp : Nat → Nat} (hH : st_MH 128 h a) (hB : st_B a) (hTP : st_MT h n tp) : kx_MI 2 yX9_tale cX9_tale 7 .int [.ref 127] h (fun r h1 => r = sp_tale a n tp ∧ st_MH 128 h1 (sp_taleA a n tp) ∧ st_MT h1 0 tp ∧ (∀ j, j ≠ 4 → h1 127 j = h 127 j) ∧ ∀ d j, d ≠ 127 → d ≠ 128 → h1 d j = h d j) := by
  refine kx_mkI (own := RX9) (L0 := [some (.ref 127), none, none, none, none, none, none]) rfl (by decide +kernel) (Nat.le_of_ble_eq_true rfl) rfl (fun F C hR => ?_)
  obtain ⟨hM, hMB⟩ := id hH
  obtain ⟨⟨b0, b1, b2, b3, b8, b8'⟩, hRB, bl, byy, bh, bz, bb⟩ := id hB
  have hl9 := hRB.1
  have hT : h 128 0 = nI (a 0) := hM 0 (by omega) (by omega) (by omega) (by omega)
  have hE : h 128 1 = nI (a 1) := hM 1 (by omega) (by omega) (by omega) (by omega)
  have hS : h 128 2 = nI (a 2) := hM 2 (by omega) (by omega) (by omega) (by omega)
  have hev : h 128 3 = nI (a 3) := hM 3 (by omega) (by omega) (by omega) (by omega)
  have hme : h 128 8 = nI (a 8) := hM 8 (by omega) (by omega) (by omega) (by omega)
  obtain ⟨hn, hn24, htp, ht8⟩ := id hTP
  have tp1 : ∀ k, k < 24 → kx_up h 127 4 (nI 0) 130 k = nI (tp k) := fun k hk => by rw [kx_up, if_neg (by omega)]; exact htp k hk
  have now1 : ∀ k, kx_up h 127 4 (nI 0) 128 k = h 128 k := fun k => by rw [kx_up, if_neg (by omega)]
  have mt1 : st_MT (kx_up h 127 4 (nI 0)) 0 tp := ⟨by rw [kx_up, if_pos ⟨rfl, rfl⟩], by omega, tp1, ht8⟩
  have ew : sp_fst (sp_bad tp) n = n → 0 < sp_nd tp n → a 0 < 8 → ∀ (q k : Nat) (g : kx_H), n - k = q → k ≤ n → (∀ j, j < 141 → j ≠ 4 → j ≠ 5 → j ≠ 6 → g 128 j = nI (if j = 81 + a 0 then sp_nd tp n else if 9 + 9 * a 0 ≤ j ∧ j < 9 + 9 * a 0 + sp_nd tp k then sp_wr tp k (j - (9 + 9 * a 0)) else a j)) → (∀ j, j = 4 ∨ j = 5 ∨ j = 6 → g 128 j = h 128 j) → (∀ d j, d ≠ 128 → g d j = kx_up h 127 4 (nI 0) d j) → F 145 [some (.ref 127), some (.int (nI n)), some (.int (nI (sp_nd tp n))), some (.int (-4)), some (.int (nI (a 0))), some (.int (nI (sp_nd tp k))), some (.int (nI k))] [] g := by
    intro hf hnd h8 q
    induction q with
    | zero =>
      intro k g hq hk g1 g2 g3
      have ek : k = n := by omega
      subst ek
      refine kx_ild6 (pc := 145) C dX9_tale_145 ?_
      refine kx_ild1 (pc := 147) C dX9_tale_147 ?_
      refine kx_icmp_geN (pc := 148) C 198 (by omega) (by omega) dX9_tale_148 (by decide) (fun c148 => ?_) (fun c148 => ?_)
      · refine kx_ald0 (pc := 198) C dX9_tale_198 ?_
        refine kx_getr (pc := 199) C fl_X9_7 fd_127_0 dX9_tale_199 ?_
        refine kx_iconst (pc := 202) C (v := nI 0) dX9_tale_202 (by decide) ?_
        refine kx_ild4 (pc := 203) C dX9_tale_203 ?_
        refine kx_iconst (pc := 205) C (v := nI 1) dX9_tale_205 (by decide) ?_
        first | refine kx_iaddN (pc := 206) C dX9_tale_206 ?_ | refine kx_iadd (pc := 206) C dX9_tale_206 ?_
        refine kx_iast (pc := 207) C ia_128 (by omega) dX9_tale_207 ?_
        refine kx_ild4 (pc := 208) C dX9_tale_208 ?_
        refine hR dX9_tale_210 rfl ⟨by rw [sp_tale, if_pos ⟨hf, hnd⟩, if_neg (by omega)], ?_, ⟨by rw [kx_up, if_neg (by omega), g3 _ _ (by omega)]; exact mt1.1, by omega, fun j hj => by rw [kx_up, if_neg (by omega), g3 _ _ (by omega)]; exact tp1 j hj, ht8⟩, fun j hj => by rw [kx_up, if_neg (by omega), g3 _ _ (by omega), kx_up, if_neg (by omega)], fun d j h1 h2 => by rw [kx_up, if_neg (by omega), g3 _ _ h2, kx_up, if_neg (by omega)]⟩
        rw [sp_taleA, if_pos ⟨⟨hf, hnd⟩, h8⟩]
        refine ⟨fun j hj j4 j5 j6 => ?_, ?_⟩
        · unfold sp_add
          by_cases z : j = 0
          · rw [z, kx_up, if_pos ⟨rfl, rfl⟩, if_pos rfl]
          · rw [kx_up, if_neg (by omega), g1 j hj j4 j5 j6, if_neg z]
        · rw [kx_up, if_neg (by omega), kx_up, if_neg (by omega), kx_up, if_neg (by omega), g2 4 (by omega), g2 5 (by omega), g2 6 (by omega)]
          unfold sp_add
          rw [if_neg (by omega), if_neg (by omega), if_neg (by omega), if_neg (by omega), if_neg (by omega), if_neg (by omega), if_neg (by omega), if_neg (by omega), if_neg (by omega)]
          exact hMB
      · omega
    | succ q ih =>
      intro k g hq hk g1 g2 g3
      have etp : g 130 k = nI (tp k) := by rw [g3 _ _ (by omega)]; exact tp1 k (by omega)
      have hb : sp_bad tp k = false := sp_fst_no (n := n) (by omega)
      have hb2 := (decide_eq_false_iff_not (p := ¬ tp k = 32 ∧ ¬ (48 ≤ tp k ∧ tp k ≤ 57 ∧ sp_nd tp k < 9))).mp hb
      have t8 := ht8 k (by omega)
      have end9 : sp_nd tp k ≤ 9 := sp_nd_le (fun i hi => sp_fst_no (n := n) (by omega))
      have h3 := ih (k + 1)
      rw [show sp_nd tp (k + 1) = sp_nd tp k + if tp k = 32 then 0 else 1 from rfl] at h3
      refine kx_ild6 (pc := 145) C dX9_tale_145 ?_
      refine kx_ild1 (pc := 147) C dX9_tale_147 ?_
      refine kx_icmp_geN (pc := 148) C 198 (by omega) (by omega) dX9_tale_148 (by decide) (fun c148 => ?_) (fun c148 => ?_)
      · omega
      · refine kx_ald0 (pc := 151) C dX9_tale_151 ?_
        refine kx_getr (pc := 152) C fl_X9_16 fd_127_3 dX9_tale_152 ?_
        refine kx_ild6 (pc := 155) C dX9_tale_155 ?_
        refine kx_iald (pc := 157) C ia_130 (by omega) etp dX9_tale_157 ?_
        refine kx_bipush (pc := 158) C (v := nI 32) dX9_tale_158 (by decide) ?_
        refine kx_icmp_eqN (pc := 160) C 192 (by omega) (by omega) dX9_tale_160 (by decide) (fun c160 => ?_) (fun c160 => ?_)
        · first | refine kx_inc6 (pc := 192) C (v := nI (_ + 1)) dX9_tale_192 (by decide) rfl (nI_1 _) ?_ | refine kx_inc6 (pc := 192) C dX9_tale_192 (by decide) rfl rfl ?_
          refine kx_goto (pc := 195) C 145 dX9_tale_195 (by decide) ?_
          first
            | (simp only [if_pos c160, Nat.add_zero] at h3
               refine h3 g (by omega) (by omega) (fun j hj j4 j5 j6 => ?_) g2 g3
               rw [g1 j hj j4 j5 j6, show sp_wr tp (k + 1) (j - (9 + 9 * a 0)) = sp_wr tp k (j - (9 + 9 * a 0)) from if_neg (fun z => z.1 c160)])
            | (rw [if_neg c160] at h3
               refine h3 _ (by omega) (by omega) (fun j hj j4 j5 j6 => ?_) (fun j hj => by rw [kx_up, if_neg (by omega)]; exact g2 j hj) (fun d j hd => by rw [kx_up, if_neg (by omega)]; exact g3 d j hd)
               by_cases z : j = 9 + 9 * a 0 + sp_nd tp k
               · rw [kx_up, if_pos ⟨rfl, z⟩, if_neg (by omega), if_pos (by omega), show sp_wr tp (k + 1) (j - (9 + 9 * a 0)) = tp k - 48 from if_pos ⟨c160, by omega⟩]
               · rw [kx_up, if_neg (by omega), g1 j hj j4 j5 j6, show sp_wr tp (k + 1) (j - (9 + 9 * a 0)) = if ¬ tp k = 32 ∧ j - (9 + 9 * a 0) = sp_nd tp k then tp k - 48 else sp_wr tp k (j - (9 + 9 * a 0)) from rfl]
                 congr 1
                 by_cases y : j = 81 + a 0
                 · rw [if_pos y, if_pos y]
                 · rw [if_neg y, if_neg y]
                   by_cases x : 9 + 9 * a 0 ≤ j ∧ j < 9 + 9 * a 0 + sp_nd tp k
                   · rw [if_pos x, if_pos (by omega), if_neg (by omega)]
                   · rw [if_neg x, if_neg (by omega)])
        · refine kx_ald0 (pc := 163) C dX9_tale_163 ?_
          refine kx_getr (pc := 164) C fl_X9_7 fd_127_0 dX9_tale_164 ?_
          refine kx_bipush (pc := 167) C (v := nI 9) dX9_tale_167 (by decide) ?_
          refine kx_bipush (pc := 169) C (v := nI 9) dX9_tale_169 (by decide) ?_
          refine kx_ild4 (pc := 171) C dX9_tale_171 ?_
          first | refine kx_imulN (pc := 173) C dX9_tale_173 ?_ | refine kx_imul (pc := 173) C dX9_tale_173 ?_
          first | refine kx_iaddN (pc := 174) C dX9_tale_174 ?_ | refine kx_iadd (pc := 174) C dX9_tale_174 ?_
          refine kx_ild5 (pc := 175) C dX9_tale_175 ?_
          first | refine kx_iaddN (pc := 177) C dX9_tale_177 ?_ | refine kx_iadd (pc := 177) C dX9_tale_177 ?_
          refine kx_ald0 (pc := 178) C dX9_tale_178 ?_
          refine kx_getr (pc := 179) C fl_X9_16 fd_127_3 dX9_tale_179 ?_
          refine kx_ild6 (pc := 182) C dX9_tale_182 ?_
          refine kx_iald (pc := 184) C ia_130 (by omega) etp dX9_tale_184 ?_
          refine kx_bipush (pc := 185) C (v := nI 48) dX9_tale_185 (by decide) ?_
          refine kx_isubN (pc := 187) C (by omega) dX9_tale_187 ?_
          refine kx_iast (pc := 188) C ia_128 (by omega) dX9_tale_188 ?_
          first | refine kx_inc5 (pc := 189) C (v := nI (_ + 1)) dX9_tale_189 (by decide) rfl (nI_1 _) ?_ | refine kx_inc5 (pc := 189) C dX9_tale_189 (by decide) rfl rfl ?_
          first | refine kx_inc6 (pc := 192) C (v := nI (_ + 1)) dX9_tale_192 (by decide) rfl (nI_1 _) ?_ | refine kx_inc6 (pc := 192) C dX9_tale_192 (by decide) rfl rfl ?_
          refine kx_goto (pc := 195) C 145 dX9_tale_195 (by decide) ?_
          first
            | (simp only [if_pos c160, Nat.add_zero] at h3
               refine h3 g (by omega) (by omega) (fun j hj j4 j5 j6 => ?_) g2 g3
               rw [g1 j hj j4 j5 j6, show sp_wr tp (k + 1) (j - (9 + 9 * a 0)) = sp_wr tp k (j - (9 + 9 * a 0)) from if_neg (fun z => z.1 c160)])
            | (rw [if_neg c160] at h3
               refine h3 _ (by omega) (by omega) (fun j hj j4 j5 j6 => ?_) (fun j hj => by rw [kx_up, if_neg (by omega)]; exact g2 j hj) (fun d j hd => by rw [kx_up, if_neg (by omega)]; exact g3 d j hd)
               by_cases z : j = 9 + 9 * a 0 + sp_nd tp k
               · rw [kx_up, if_pos ⟨rfl, z⟩, if_neg (by omega), if_pos (by omega), show sp_wr tp (k + 1) (j - (9 + 9 * a 0)) = tp k - 48 from if_pos ⟨c160, by omega⟩]
               · rw [kx_up, if_neg (by omega), g1 j hj j4 j5 j6, show sp_wr tp (k + 1) (j - (9 + 9 * a 0)) = if ¬ tp k = 32 ∧ j - (9 + 9 * a 0) = sp_nd tp k then tp k - 48 else sp_wr tp k (j - (9 + 9 * a 0)) from rfl]
                 congr 1
                 by_cases y : j = 81 + a 0
                 · rw [if_pos y, if_pos y]
                 · rw [if_neg y, if_neg y]
                   by_cases x : 9 + 9 * a 0 ≤ j ∧ j < 9 + 9 * a 0 + sp_nd tp k
                   · rw [if_pos x, if_pos (by omega), if_neg (by omega)]
                   · rw [if_neg x, if_neg (by omega)])
  have bad : ∀ (k m : Nat) (w : Nat), k < n → sp_bad tp k = true → (∀ i, i < k → sp_bad tp i = false) → m < 2 ^ 31 → F 18 [some (.ref 127), some (.int (nI n)), some (.int (nI m)), some (.int (nI k)), some (.int (nI (k + 1))), none, none] [] (kx_up h 127 4 (nI 0)) := by
    intro k m w hk hb hbb hm
    have m4 : ¬ nI k = -4 := kx_m4 (by omega)
    have ef : sp_fst (sp_bad tp) n = k := sp_fst_at hb hbb hk
    refine kx_ild4 (pc := 18) C dX9_tale_18 ?_
    refine kx_ild1 (pc := 20) C dX9_tale_20 ?_
    refine kx_icmp_geN (pc := 21) C 83 (by omega) (by omega) dX9_tale_21 (by decide) (fun c21 => ?_) (fun c21 => ?_)
    · refine kx_ild3 (pc := 83) C dX9_tale_83 ?_
      refine kx_bipush (pc := 84) C (v := -4) dX9_tale_84 (by decide) ?_
      refine kx_icmp_ne (pc := 86) C 97 dX9_tale_86 (by decide) (fun c86 => ?_) (fun c86 => ?_)
      · refine kx_ild3 (pc := 97) C dX9_tale_97 ?_
        refine kx_ist3 (pc := 98) C dX9_tale_98 (by decide) rfl ?_
        refine kx_ild3 (pc := 99) C dX9_tale_99 ?_
        refine kx_bipush (pc := 100) C (v := -4) dX9_tale_100 (by decide) ?_
        refine kx_icmp_eq (pc := 102) C 110 dX9_tale_102 (by decide) (fun c102 => ?_) (fun c102 => ?_)
        · exact absurd c102 m4
        · refine kx_bipush (pc := 105) C (v := -20) dX9_tale_105 (by decide) ?_
          refine kx_ild3 (pc := 107) C dX9_tale_107 ?_
          first | refine kx_isubN (pc := 108) C (by omega) dX9_tale_108 ?_ | refine kx_isub (pc := 108) C dX9_tale_108 ?_
          exact hR dX9_tale_109 rfl ⟨by rw [sp_tale, if_neg (fun z => by have := z.1; omega), sp_pr, if_pos (by omega), ef], by rw [sp_taleA, if_neg (fun z => by have := z.1.1; omega)]; exact hH.to (fun j _ => now1 j), mt1, fun j hj => by rw [kx_up, if_neg (by omega)], fun d j h1 h2 => by rw [kx_up, if_neg (by omega)]⟩
      · exact absurd c86 m4
    · refine kx_ild3 (pc := 24) C dX9_tale_24 ?_
      refine kx_bipush (pc := 25) C (v := -4) dX9_tale_25 (by decide) ?_
      refine kx_icmp_ne (pc := 27) C 83 dX9_tale_27 (by decide) (fun c27 => ?_) (fun c27 => ?_)
      · refine kx_ild3 (pc := 83) C dX9_tale_83 ?_
        refine kx_bipush (pc := 84) C (v := -4) dX9_tale_84 (by decide) ?_
        refine kx_icmp_ne (pc := 86) C 97 dX9_tale_86 (by decide) (fun c86 => ?_) (fun c86 => ?_)
        · refine kx_ild3 (pc := 97) C dX9_tale_97 ?_
          refine kx_ist3 (pc := 98) C dX9_tale_98 (by decide) rfl ?_
          refine kx_ild3 (pc := 99) C dX9_tale_99 ?_
          refine kx_bipush (pc := 100) C (v := -4) dX9_tale_100 (by decide) ?_
          refine kx_icmp_eq (pc := 102) C 110 dX9_tale_102 (by decide) (fun c102 => ?_) (fun c102 => ?_)
          · exact absurd c102 m4
          · refine kx_bipush (pc := 105) C (v := -20) dX9_tale_105 (by decide) ?_
            refine kx_ild3 (pc := 107) C dX9_tale_107 ?_
            first | refine kx_isubN (pc := 108) C (by omega) dX9_tale_108 ?_ | refine kx_isub (pc := 108) C dX9_tale_108 ?_
            exact hR dX9_tale_109 rfl ⟨by rw [sp_tale, if_neg (fun z => by have := z.1; omega), sp_pr, if_pos (by omega), ef], by rw [sp_taleA, if_neg (fun z => by have := z.1.1; omega)]; exact hH.to (fun j _ => now1 j), mt1, fun j hj => by rw [kx_up, if_neg (by omega)], fun d j h1 h2 => by rw [kx_up, if_neg (by omega)]⟩
        · exact absurd c86 m4
      · exact absurd c27 m4
  have loop : ∀ (q k : Nat), n - k = q → k ≤ n → (∀ i, i < k → sp_bad tp i = false) → F 18 [some (.ref 127), some (.int (nI n)), some (.int (nI (sp_nd tp k))), some (.int (-4)), some (.int (nI k)), none, none] [] (kx_up h 127 4 (nI 0)) := by
    intro q
    induction q with
    | zero =>
      intro k hq hk hb
      have ek : k = n := by omega
      subst ek
      have ef : sp_fst (sp_bad tp) k = k := sp_fst_none hb
      have end9 := sp_nd_le hb
      have m4 : ¬ nI k = -4 := kx_m4 (by omega)
      have hA : sp_nd tp k = 0 → F 99 [some (.ref 127), some (.int (nI k)), some (.int (nI (sp_nd tp k))), some (.int (nI k)), some (.int (nI k)), none, none] [] (kx_up h 127 4 (nI 0)) := by
        intro c90
        refine kx_ild3 (pc := 99) C dX9_tale_99 ?_
        refine kx_bipush (pc := 100) C (v := -4) dX9_tale_100 (by decide) ?_
        refine kx_icmp_eq (pc := 102) C 110 dX9_tale_102 (by decide) (fun c102 => ?_) (fun c102 => ?_)
        · exact absurd c102 m4
        · refine kx_bipush (pc := 105) C (v := -20) dX9_tale_105 (by decide) ?_
          refine kx_ild3 (pc := 107) C dX9_tale_107 ?_
          first | refine kx_isubN (pc := 108) C (by omega) dX9_tale_108 ?_ | refine kx_isub (pc := 108) C dX9_tale_108 ?_
          exact hR dX9_tale_109 rfl ⟨by rw [sp_tale, if_neg (fun z => by have := z.2; omega), sp_pr, if_neg (by omega), if_pos c90], by rw [sp_taleA, if_neg (fun z => by have := z.1.2; omega)]; exact hH.to (fun j _ => now1 j), mt1, fun j hj => by rw [kx_up, if_neg (by omega)], fun d j h1 h2 => by rw [kx_up, if_neg (by omega)]⟩
      have hZ : 0 < sp_nd tp k → F 99 [some (.ref 127), some (.int (nI k)), some (.int (nI (sp_nd tp k))), some (.int (-4)), some (.int (nI k)), none, none] [] (kx_up h 127 4 (nI 0)) := by
        intro c90
        refine kx_ild3 (pc := 99) C dX9_tale_99 ?_
        refine kx_bipush (pc := 100) C (v := -4) dX9_tale_100 (by decide) ?_
        refine kx_icmp_eq (pc := 102) C 110 dX9_tale_102 (by decide) (fun c102 => ?_) (fun c102 => ?_)
        · refine kx_ald0 (pc := 110) C dX9_tale_110 ?_
          refine kx_getr (pc := 111) C fl_X9_7 fd_127_0 dX9_tale_111 ?_
          refine kx_iconst (pc := 114) C (v := nI 0) dX9_tale_114 (by decide) ?_
          refine kx_iald (pc := 115) C ia_128 (by omega) (show _ = nI (a 0) by rw [now1]; exact hT) dX9_tale_115 ?_
          refine kx_ist4 (pc := 116) C dX9_tale_116 (by decide) rfl ?_
          refine kx_ild4 (pc := 118) C dX9_tale_118 ?_
          refine kx_bipush (pc := 120) C (v := nI 8) dX9_tale_120 (by decide) ?_
          refine kx_icmp_neN (pc := 122) C 128 (by omega) (by omega) dX9_tale_122 (by decide) (fun c122 => ?_) (fun c122 => ?_)
          · refine kx_ald0 (pc := 128) C dX9_tale_128 ?_
            refine kx_getr (pc := 129) C fl_X9_7 fd_127_0 dX9_tale_129 ?_
            refine kx_bipush (pc := 132) C (v := nI 81) dX9_tale_132 (by decide) ?_
            refine kx_ild4 (pc := 134) C dX9_tale_134 ?_
            first | refine kx_iaddN (pc := 136) C dX9_tale_136 ?_ | refine kx_iadd (pc := 136) C dX9_tale_136 ?_
            refine kx_ild2 (pc := 137) C dX9_tale_137 ?_
            refine kx_iast (pc := 138) C ia_128 (by omega) dX9_tale_138 ?_
            refine kx_iconst (pc := 139) C (v := nI 0) dX9_tale_139 (by decide) ?_
            refine kx_ist5 (pc := 140) C dX9_tale_140 (by decide) rfl ?_
            refine kx_iconst (pc := 142) C (v := nI 0) dX9_tale_142 (by decide) ?_
            refine kx_ist6 (pc := 143) C dX9_tale_143 (by decide) rfl ?_
            refine ew ef (by omega) (by omega) k 0 _ (by omega) (by omega) (fun j hj j4 j5 j6 => ?_) (fun j hj => by rw [kx_up, if_neg (by omega), now1]) (fun d j hd => by rw [kx_up, if_neg (by omega)])
            rw [show sp_nd tp 0 = 0 from rfl]
            by_cases z : j = 81 + a 0
            · rw [kx_up, if_pos ⟨rfl, z⟩, if_pos z]
            · rw [kx_up, if_neg (by omega), if_neg z, if_neg (by omega), now1]; exact hM j hj j4 j5 j6
          · refine kx_bipush (pc := 125) C (v := -3) dX9_tale_125 (by decide) ?_
            exact hR dX9_tale_127 rfl ⟨by rw [sp_tale, if_pos ⟨ef, by omega⟩, if_pos (by omega)], by rw [sp_taleA, if_neg (fun z => by have := z.2; omega)]; exact hH.to (fun j _ => now1 j), mt1, fun j hj => by rw [kx_up, if_neg (by omega)], fun d j h1 h2 => by rw [kx_up, if_neg (by omega)]⟩
        · exact absurd rfl c102
      refine kx_ild4 (pc := 18) C dX9_tale_18 ?_
      refine kx_ild1 (pc := 20) C dX9_tale_20 ?_
      refine kx_icmp_geN (pc := 21) C 83 (by omega) (by omega) dX9_tale_21 (by decide) (fun c21 => ?_) (fun c21 => ?_)
      · refine kx_ild3 (pc := 83) C dX9_tale_83 ?_
        refine kx_bipush (pc := 84) C (v := -4) dX9_tale_84 (by decide) ?_
        refine kx_icmp_ne (pc := 86) C 97 dX9_tale_86 (by decide) (fun c86 => ?_) (fun c86 => ?_)
        · exact absurd rfl c86
        · refine kx_ild2 (pc := 89) C dX9_tale_89 ?_
          refine kx_if_neN (pc := 90) C 97 (by omega) dX9_tale_90 (by decide) (fun c90 => ?_) (fun c90 => ?_)
          · refine kx_ild3 (pc := 97) C dX9_tale_97 ?_
            refine kx_ist3 (pc := 98) C dX9_tale_98 (by decide) rfl ?_
            first | exact hA c90 | exact hZ c90
          · refine kx_ild1 (pc := 93) C dX9_tale_93 ?_
            refine kx_goto (pc := 94) C 98 dX9_tale_94 (by decide) ?_
            refine kx_ist3 (pc := 98) C dX9_tale_98 (by decide) rfl ?_
            first | exact hA c90 | exact hZ c90
      · omega
    | succ q ih =>
      intro k hq hk hb
      have t8 := ht8 k (by omega)
      have end9 := sp_nd_le hb
      have h3 := ih (k + 1) (by omega) (by omega)
      rw [show sp_nd tp (k + 1) = sp_nd tp k + if tp k = 32 then 0 else 1 from rfl] at h3
      have nx : sp_bad tp k = false → ∀ i, i < k + 1 → sp_bad tp i = false := fun z i hi => by
        rcases Nat.lt_or_ge i k with y | y
        · exact hb i y
        · rw [show i = k by omega]; exact z
      refine kx_ild4 (pc := 18) C dX9_tale_18 ?_
      refine kx_ild1 (pc := 20) C dX9_tale_20 ?_
      refine kx_icmp_geN (pc := 21) C 83 (by omega) (by omega) dX9_tale_21 (by decide) (fun c21 => ?_) (fun c21 => ?_)
      · omega
      · refine kx_ild3 (pc := 24) C dX9_tale_24 ?_
        refine kx_bipush (pc := 25) C (v := -4) dX9_tale_25 (by decide) ?_
        refine kx_icmp_ne (pc := 27) C 83 dX9_tale_27 (by decide) (fun c27 => ?_) (fun c27 => ?_)
        · exact absurd rfl c27
        · refine kx_ald0 (pc := 30) C dX9_tale_30 ?_
          refine kx_getr (pc := 31) C fl_X9_16 fd_127_3 dX9_tale_31 ?_
          refine kx_ild4 (pc := 34) C dX9_tale_34 ?_
          refine kx_iald (pc := 36) C ia_130 (by omega) (tp1 k (by omega)) dX9_tale_36 ?_
          refine kx_bipush (pc := 37) C (v := nI 32) dX9_tale_37 (by decide) ?_
          refine kx_icmp_neN (pc := 39) C 45 (by omega) (by omega) dX9_tale_39 (by decide) (fun c39 => ?_) (fun c39 => ?_)
          · refine kx_ild2 (pc := 45) C dX9_tale_45 ?_
            refine kx_bipush (pc := 46) C (v := nI 9) dX9_tale_46 (by decide) ?_
            refine kx_icmp_eqN (pc := 48) C 71 (by omega) (by omega) dX9_tale_48 (by decide) (fun c48 => ?_) (fun c48 => ?_)
            · refine kx_ild4 (pc := 71) C dX9_tale_71 ?_
              refine kx_ist3 (pc := 73) C dX9_tale_73 (by decide) rfl ?_
              first | refine kx_inc2 (pc := 74) C (v := nI (_ + 1)) dX9_tale_74 (by decide) rfl (nI_1 _) ?_ | refine kx_inc2 (pc := 74) C dX9_tale_74 (by decide) rfl rfl ?_
              first | refine kx_inc4 (pc := 77) C (v := nI (_ + 1)) dX9_tale_77 (by decide) rfl (nI_1 _) ?_ | refine kx_inc4 (pc := 77) C dX9_tale_77 (by decide) rfl rfl ?_
              refine kx_goto (pc := 80) C 18 dX9_tale_80 (by decide) ?_
              first
                | (rw [if_pos c39, Nat.add_zero] at h3
                   exact h3 (nx (decide_eq_false (fun z => z.1 c39))))
                | (rw [if_neg c39] at h3
                   have c68 := kx_if1 c68
                   exact h3 (nx (decide_eq_false (fun z => z.2 (by omega)))))
                | exact bad k _ 0 (by omega) (decide_eq_true ⟨c39, by have c68 := kx_if0 c68; omega⟩) hb (by omega)
                | exact bad k _ 0 (by omega) (decide_eq_true ⟨c39, by omega⟩) hb (by omega)
            · refine kx_ald0 (pc := 51) C dX9_tale_51 ?_
              refine kx_getr (pc := 52) C fl_X9_16 fd_127_3 dX9_tale_52 ?_
              refine kx_ild4 (pc := 55) C dX9_tale_55 ?_
              refine kx_iald (pc := 57) C ia_130 (by omega) (tp1 k (by omega)) dX9_tale_57 ?_
              refine kx_i2l (pc := 58) C dX9_tale_58 ?_
              refine kx_ldc2 (pc := 59) C dX9_tale_59 cn_X9_68 ?_
              refine kx_ldc2 (pc := 62) C dX9_tale_62 cn_X9_70 ?_
              refine kx_callSI3 (pc := 65) C cs_X9_52 (m_X9_in (p := 48) (q := (tp k : Int)) (r := 57) (by rfl) (by rw [kx_L, kx_T (by omega)]) (by rfl)) (by decide) dX9_tale_65 (Nat.le_of_ble_eq_true rfl) (fun r65 h65 q65 => ?_)
              obtain ⟨z65, rfl⟩ := q65
              have z65 := z65.symm
              subst z65
              refine kx_if_ne (pc := 68) C 74 dX9_tale_68 (by decide) (fun c68 => ?_) (fun c68 => ?_)
              · first | refine kx_inc2 (pc := 74) C (v := nI (_ + 1)) dX9_tale_74 (by decide) rfl (nI_1 _) ?_ | refine kx_inc2 (pc := 74) C dX9_tale_74 (by decide) rfl rfl ?_
                first | refine kx_inc4 (pc := 77) C (v := nI (_ + 1)) dX9_tale_77 (by decide) rfl (nI_1 _) ?_ | refine kx_inc4 (pc := 77) C dX9_tale_77 (by decide) rfl rfl ?_
                refine kx_goto (pc := 80) C 18 dX9_tale_80 (by decide) ?_
                first
                  | (rw [if_pos c39, Nat.add_zero] at h3
                     exact h3 (nx (decide_eq_false (fun z => z.1 c39))))
                  | (rw [if_neg c39] at h3
                     have c68 := kx_if1 c68
                     exact h3 (nx (decide_eq_false (fun z => z.2 (by omega)))))
                  | exact bad k _ 0 (by omega) (decide_eq_true ⟨c39, by have c68 := kx_if0 c68; omega⟩) hb (by omega)
                  | exact bad k _ 0 (by omega) (decide_eq_true ⟨c39, by omega⟩) hb (by omega)
              · refine kx_ild4 (pc := 71) C dX9_tale_71 ?_
                refine kx_ist3 (pc := 73) C dX9_tale_73 (by decide) rfl ?_
                first | refine kx_inc2 (pc := 74) C (v := nI (_ + 1)) dX9_tale_74 (by decide) rfl (nI_1 _) ?_ | refine kx_inc2 (pc := 74) C dX9_tale_74 (by decide) rfl rfl ?_
                first | refine kx_inc4 (pc := 77) C (v := nI (_ + 1)) dX9_tale_77 (by decide) rfl (nI_1 _) ?_ | refine kx_inc4 (pc := 77) C dX9_tale_77 (by decide) rfl rfl ?_
                refine kx_goto (pc := 80) C 18 dX9_tale_80 (by decide) ?_
                first
                  | (rw [if_pos c39, Nat.add_zero] at h3
                     exact h3 (nx (decide_eq_false (fun z => z.1 c39))))
                  | (rw [if_neg c39] at h3
                     have c68 := kx_if1 c68
                     exact h3 (nx (decide_eq_false (fun z => z.2 (by omega)))))
                  | exact bad k _ 0 (by omega) (decide_eq_true ⟨c39, by have c68 := kx_if0 c68; omega⟩) hb (by omega)
                  | exact bad k _ 0 (by omega) (decide_eq_true ⟨c39, by omega⟩) hb (by omega)
          · refine kx_goto (pc := 42) C 77 dX9_tale_42 (by decide) ?_
            first | refine kx_inc4 (pc := 77) C (v := nI (_ + 1)) dX9_tale_77 (by decide) rfl (nI_1 _) ?_ | refine kx_inc4 (pc := 77) C dX9_tale_77 (by decide) rfl rfl ?_
            refine kx_goto (pc := 80) C 18 dX9_tale_80 (by decide) ?_
            first
              | (rw [if_pos c39, Nat.add_zero] at h3
                 exact h3 (nx (decide_eq_false (fun z => z.1 c39))))
              | (rw [if_neg c39] at h3
                 have c68 := kx_if1 c68
                 exact h3 (nx (decide_eq_false (fun z => z.2 (by omega)))))
              | exact bad k _ 0 (by omega) (decide_eq_true ⟨c39, by have c68 := kx_if0 c68; omega⟩) hb (by omega)
              | exact bad k _ 0 (by omega) (decide_eq_true ⟨c39, by omega⟩) hb (by omega)
  refine kx_ald0 (pc := 0) C dX9_tale_0 ?_
  refine kx_geti (pc := 1) C fl_X9_64 fd_127_4 (by first | assumption | rfl) dX9_tale_1 ?_
  refine kx_ist1 (pc := 4) C dX9_tale_4 (by decide) rfl ?_
  refine kx_ald0 (pc := 5) C dX9_tale_5 ?_
  refine kx_iconst (pc := 6) C (v := nI 0) dX9_tale_6 (by decide) ?_
  refine kx_puti (pc := 7) C fl_X9_64 fp_X9_4 fd_127_4 rfl rfl dX9_tale_7 ?_
  refine kx_iconst (pc := 10) C (v := nI 0) dX9_tale_10 (by decide) ?_
  refine kx_ist2 (pc := 11) C dX9_tale_11 (by decide) rfl ?_
  refine kx_bipush (pc := 12) C (v := -4) dX9_tale_12 (by decide) ?_
  refine kx_ist3 (pc := 14) C dX9_tale_14 (by decide) rfl ?_
  refine kx_iconst (pc := 15) C (v := nI 0) dX9_tale_15 (by decide) ?_
  refine kx_ist4 (pc := 16) C dX9_tale_16 (by decide) rfl ?_
  exact loop n 0 (by omega) (by omega) (fun i hi => absurd hi (by omega))
