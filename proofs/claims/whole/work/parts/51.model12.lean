theorem ct_fn_big {E : Nat} {y : Nat → Nat → Nat → Nat} {r m t : Nat} {need : Nat → Int} (h : r < m) : ct_fn E y r m t need = none := by
  cases e : ct_fn E y r m t need with
  | none => rfl
  | some l => exact absurd (ct_fn_hope e).2.2 (by omega)
set_option maxHeartbeats 4000000 in
set_option maxRecDepth 100000 in
theorem m_X9_coat {h : kx_H} {a sl sn : Nat → Nat} {it : kx_H} (ts tv l ti k : Int32) (hH : st_MH 128 h a) (hB : st_B a) (hs : st_MS h sl sn it) : kx_MI 4 yX9_coat cX9_coat 8 .int [.ref 127, .int ts, .int tv, .int l, .int ti, .int k] h (fun r h1 => r = sp_coat a sl sn it ts tv l ti k ∧ ∀ d j, d ≠ 134 → d ≠ 137 → d ≠ 138 → h1 d j = h d j) := by
  refine kx_mkI (own := RX9) (L0 := [some (.ref 127), some (.int ts), some (.int tv), some (.int l), some (.int ti), some (.int k), none, none]) rfl (by decide +kernel) (Nat.le_of_ble_eq_true rfl) rfl (fun F C hR => ?_)
  obtain ⟨hM, hMB⟩ := id hH
  obtain ⟨⟨b0, b1, b2, b3, b8, b8'⟩, hRB, bl, byy, bh, bz, bb⟩ := id hB
  have hl9 := hRB.1
  have hT : h 128 0 = nI (a 0) := hM 0 (by omega) (by omega) (by omega) (by omega)
  have hE : h 128 1 = nI (a 1) := hM 1 (by omega) (by omega) (by omega) (by omega)
  have hS : h 128 2 = nI (a 2) := hM 2 (by omega) (by omega) (by omega) (by omega)
  have hev : h 128 3 = nI (a 3) := hM 3 (by omega) (by omega) (by omega) (by omega)
  have hme : h 128 8 = nI (a 8) := hM 8 (by omega) (by omega) (by omega) (by omega)
  have main : ∀ (s v i : Nat), s < 4 → v < 4 → i + 4 ≤ 24 → sp_okI it v i 4 99 = true → -1 ≤ k.toInt → (∀ r, r = (match sp_cx a s (sp_val it v i) with | none => -4 | some (m, l) => if k = -1 then nI m else if kx_n k < m then nI (l.getD (kx_n k) 0) else -4) → r = sp_coat a sl sn it ts tv l ti k) → ∀ (q m : Nat) (g : kx_H), a 0 + 1 - m = q → m ≤ a 0 + 1 → (∀ j, j < m → ct_fn (a 1) (sp_yy a s) (a 0) j 0 (fun k => (sp_val it v i k : Int)) = none) → (∀ x z k, x < a 0 → z < a 1 → k < 4 → g 137 (16 * x + 4 * z + k) = nI (sp_yy a s x z k)) → (∀ d j, d ≠ 134 → d ≠ 137 → d ≠ 138 → g d j = h d j) → F 62 [some (.ref 127), some (.int (nI s)), some (.int (nI v)), some (.int l), some (.int (nI i)), some (.int k), some (.int 0), some (.int (nI m))] [] g := by
    intro s v i hs4 hv hi hok hk1 hfin q
    have hvv : ∀ e, e < 4 → it v (i + e) = nI (sp_val it v i e) ∧ sp_val it v i e ≤ 99 := fun e he => sp_okI_v hok he
    induction q with
    | zero =>
      intro m g hq hm hno hsp hg
      have eT : g 128 0 = nI (a 0) := by rw [hg _ _ (by omega) (by omega) (by omega)]; exact hT
      refine kx_ild7 (pc := 62) C dX9_coat_62 ?_
      refine kx_ald0 (pc := 64) C dX9_coat_64 ?_
      refine kx_getr (pc := 65) C fl_X9_7 fd_127_0 dX9_coat_65 ?_
      refine kx_iconst (pc := 68) C (v := nI 0) dX9_coat_68 (by decide) ?_
      refine kx_iald (pc := 69) C ia_128 (by omega) eT dX9_coat_69 ?_
      refine kx_icmp_gtN (pc := 70) C 125 (by omega) (by omega) dX9_coat_70 (by decide) (fun c70 => ?_) (fun c70 => ?_)
      · refine kx_bipush (pc := 125) C (v := -4) dX9_coat_125 (by decide) ?_
        have ex : sp_cx a s (sp_val it v i) = none := ct_rs_none.mpr (fun j hj => by
          rcases Nat.lt_or_ge j m with z | z
          · exact hno j z
          · exact ct_fn_big (by omega))
        exact hR dX9_coat_127 rfl ⟨hfin _ (by rw [ex]), hg⟩
      · omega
    | succ q ih =>
      intro m g hq hm hno hsp hg
      have eT : g 128 0 = nI (a 0) := by rw [hg _ _ (by omega) (by omega) (by omega)]; exact hT
      have eE : g 128 1 = nI (a 1) := by rw [hg _ _ (by omega) (by omega) (by omega)]; exact hE
      refine kx_ild7 (pc := 62) C dX9_coat_62 ?_
      refine kx_ald0 (pc := 64) C dX9_coat_64 ?_
      refine kx_getr (pc := 65) C fl_X9_7 fd_127_0 dX9_coat_65 ?_
      refine kx_iconst (pc := 68) C (v := nI 0) dX9_coat_68 (by decide) ?_
      refine kx_iald (pc := 69) C ia_128 (by omega) eT dX9_coat_69 ?_
      refine kx_icmp_gtN (pc := 70) C 125 (by omega) (by omega) dX9_coat_70 (by decide) (fun c70 => ?_) (fun c70 => ?_)
      · omega
      · refine kx_ald0 (pc := 73) C dX9_coat_73 ?_
        refine kx_ild7 (pc := 74) C dX9_coat_74 ?_
        refine kx_bipush (pc := 76) C (v := nI 24) dX9_coat_76 (by decide) ?_
        refine kx_ild2 (pc := 78) C dX9_coat_78 ?_
        first | refine kx_imulN (pc := 79) C dX9_coat_79 ?_ | refine kx_imul (pc := 79) C dX9_coat_79 ?_
        refine kx_ild4 (pc := 80) C dX9_coat_80 ?_
        first | refine kx_iaddN (pc := 82) C dX9_coat_82 ?_ | refine kx_iadd (pc := 82) C dX9_coat_82 ?_
        refine kx_callVI2 (pc := 83) C cs_X9_155 ob_127 (m_X9_finds (T := a 0) (E := a 1) (y := sp_yy a s) (w := sp_val it v i) b0 b1 (by omega) (by omega) (sp_yy_le a s) eT eE hsp (fun k hk => by rw [hg _ _ (by omega) (by omega) (by omega), hs.at hv (by omega)]; exact (hvv k hk).1) (fun k hk => (hvv k hk).2)) (by decide) dX9_coat_83 (Nat.le_of_ble_eq_true rfl) (fun r83 h83 q83 => ?_)
        obtain ⟨k1, k2, k3⟩ := q83
        refine kx_if_eq (pc := 86) C 119 dX9_coat_86 (by decide) (fun c86 => ?_) (fun c86 => ?_)
        · have hn : ct_fn (a 1) (sp_yy a s) (a 0) m 0 (fun k => (sp_val it v i k : Int)) = none := by
            cases ex : ct_fn (a 1) (sp_yy a s) (a 0) m 0 (fun k => (sp_val it v i k : Int)) with
            | none => rfl
            | some l => have := (k2 l ex).1; rw [c86] at this; exact absurd this (by decide)
          first | refine kx_inc7 (pc := 119) C (v := nI (_ + 1)) dX9_coat_119 (by decide) rfl (nI_1 _) ?_ | refine kx_inc7 (pc := 119) C dX9_coat_119 (by decide) rfl rfl ?_
          refine kx_goto (pc := 122) C 62 dX9_coat_122 (by decide) ?_
          refine ih (m + 1) h83 (by omega) (by omega) (fun j hj => ?_) (fun x z k hx hz hk => by rw [k3 _ _ (by omega) (by omega)]; exact hsp x z k hx hz hk) (fun d j h1 h2 h3 => by rw [k3 d j h1 h3]; exact hg d j h1 h2 h3)
          rcases Nat.lt_or_ge j m with z | z
          · exact hno j z
          · rw [show j = m by omega]; exact hn
        · cases ex : ct_fn (a 1) (sp_yy a s) (a 0) m 0 (fun k => (sp_val it v i k : Int)) with
          | none => exact absurd (k1 ex) c86
          | some r =>
          have k2 := k2 r ex
          have hcx : sp_cx a s (sp_val it v i) = some (m, r) := ct_rs_at ex (fun j hj => hno j hj) (by omega)
          have hg2 : ∀ d j, d ≠ 134 → d ≠ 137 → d ≠ 138 → h83 d j = h d j := fun d j h1 h2 h3 => by rw [k3 d j h1 h3]; exact hg d j h1 h2 h3
          refine kx_ild5 (pc := 89) C dX9_coat_89 ?_
          refine kx_if_geI (pc := 91) C 99 dX9_coat_91 (by decide) (fun c91 => ?_) (fun c91 => ?_)
          · obtain ⟨z, rfl, hz, hz2⟩ := kx_nat c91
            refine kx_ild5 (pc := 99) C dX9_coat_99 ?_
            refine kx_ild7 (pc := 101) C dX9_coat_101 ?_
            refine kx_icmp_geI (pc := 103) C 116 dX9_coat_103 (by decide) (fun c103 => ?_) (fun c103 => ?_)
            · refine kx_bipush (pc := 116) C (v := -4) dX9_coat_116 (by decide) ?_
              first
                | exact hR dX9_coat_118 rfl ⟨hfin _ (by rw [hcx]; show _ = if k = -1 then nI m else _; rw [if_pos (kx_eqI.mpr (by rw [show (-1 : Int32).toInt = -1 from rfl]; omega))]), hg2⟩
                | exact hR dX9_coat_118 rfl ⟨hfin _ (by rw [hcx]; show _ = if nI z = -1 then nI m else if kx_n (nI z) < m then nI (r.getD (kx_n (nI z)) 0) else -4; rw [if_neg (kx_m1 hz2), kx_n, kx_n_nI hz2, if_pos c103]), hg2⟩
                | exact hR dX9_coat_118 rfl ⟨hfin _ (by rw [kx_T (by omega), kx_T (by omega)] at c103; rw [hcx]; show _ = if nI z = -1 then nI m else if kx_n (nI z) < m then nI (r.getD (kx_n (nI z)) 0) else -4; rw [if_neg (kx_m1 hz2), kx_n, kx_n_nI hz2, if_neg (by omega)]), hg2⟩
            · have c103 : z < m := by rw [kx_T (by omega), kx_T (by omega)] at c103; omega
              have erow := k2.2 z c103
              refine kx_ald0 (pc := 106) C dX9_coat_106 ?_
              refine kx_getr (pc := 107) C fl_X9_28 fd_127_8 dX9_coat_107 ?_
              refine kx_ild5 (pc := 110) C dX9_coat_110 ?_
              refine kx_iald (pc := 112) C ia_134 (by omega) erow dX9_coat_112 ?_
              refine kx_goto (pc := 113) C 118 dX9_coat_113 (by decide) ?_
              first
                | exact hR dX9_coat_118 rfl ⟨hfin _ (by rw [hcx]; show _ = if k = -1 then nI m else _; rw [if_pos (kx_eqI.mpr (by rw [show (-1 : Int32).toInt = -1 from rfl]; omega))]), hg2⟩
                | exact hR dX9_coat_118 rfl ⟨hfin _ (by rw [hcx]; show _ = if nI z = -1 then nI m else if kx_n (nI z) < m then nI (r.getD (kx_n (nI z)) 0) else -4; rw [if_neg (kx_m1 hz2), kx_n, kx_n_nI hz2, if_pos c103]), hg2⟩
                | exact hR dX9_coat_118 rfl ⟨hfin _ (by rw [kx_T (by omega), kx_T (by omega)] at c103; rw [hcx]; show _ = if nI z = -1 then nI m else if kx_n (nI z) < m then nI (r.getD (kx_n (nI z)) 0) else -4; rw [if_neg (kx_m1 hz2), kx_n, kx_n_nI hz2, if_neg (by omega)]), hg2⟩
          · refine kx_ild7 (pc := 94) C dX9_coat_94 ?_
            refine kx_goto (pc := 96) C 118 dX9_coat_96 (by decide) ?_
            first
              | exact hR dX9_coat_118 rfl ⟨hfin _ (by rw [hcx]; show _ = if k = -1 then nI m else _; rw [if_pos (kx_eqI.mpr (by rw [show (-1 : Int32).toInt = -1 from rfl]; omega))]), hg2⟩
              | exact hR dX9_coat_118 rfl ⟨hfin _ (by rw [hcx]; show _ = if nI z = -1 then nI m else if kx_n (nI z) < m then nI (r.getD (kx_n (nI z)) 0) else -4; rw [if_neg (kx_m1 hz2), kx_n, kx_n_nI hz2, if_pos c103]), hg2⟩
              | exact hR dX9_coat_118 rfl ⟨hfin _ (by rw [kx_T (by omega), kx_T (by omega)] at c103; rw [hcx]; show _ = if nI z = -1 then nI m else if kx_n (nI z) < m then nI (r.getD (kx_n (nI z)) 0) else -4; rw [if_neg (kx_m1 hz2), kx_n, kx_n_nI hz2, if_neg (by omega)]), hg2⟩
  refine kx_ald0 (pc := 0) C dX9_coat_0 ?_
  refine kx_ild1 (pc := 1) C dX9_coat_1 ?_
  refine kx_callVI1 (pc := 2) C cs_X9_97 ob_127 (m_X9_isSpinner _ (by assumption) (by omega)) (by decide) dX9_coat_2 (Nat.le_of_ble_eq_true rfl) (fun r2 h2 q2 => ?_)
  obtain ⟨z2, rfl⟩ := q2
  have z2 := z2.symm
  subst z2
  refine kx_if_eq (pc := 5) C 31 dX9_coat_5 (by decide) (fun c5 => ?_) (fun c5 => ?_)
  · refine kx_iconst (pc := 31) C (v := -1) dX9_coat_31 (by decide) ?_
    exact hR dX9_coat_32 rfl ⟨by
      rw [sp_coat, if_neg (fun z => by
        first
          | exact kx_if0 c28 z.2.2
          | exact kx_if0 c13 z.2.1
          | exact kx_if0 c5 z.1)], fun d j _ _ _ => rfl⟩
  · refine kx_ild2 (pc := 8) C dX9_coat_8 ?_
    refine kx_ild3 (pc := 9) C dX9_coat_9 ?_
    refine kx_callSI2 (pc := 10) C cs_X9_143 (m_X9_isSheet _ _) (by decide) dX9_coat_10 (Nat.le_of_ble_eq_true rfl) (fun r10 h10 q10 => ?_)
    obtain ⟨z10, rfl⟩ := q10
    have z10 := z10.symm
    subst z10
    refine kx_if_eq (pc := 13) C 31 dX9_coat_13 (by decide) (fun c13 => ?_) (fun c13 => ?_)
    · refine kx_iconst (pc := 31) C (v := -1) dX9_coat_31 (by decide) ?_
      exact hR dX9_coat_32 rfl ⟨by
        rw [sp_coat, if_neg (fun z => by
          first
            | exact kx_if0 c28 z.2.2
            | exact kx_if0 c13 z.2.1
            | exact kx_if0 c5 z.1)], fun d j _ _ _ => rfl⟩
    · refine kx_ild5 (pc := 16) C dX9_coat_16 ?_
      refine kx_i2l (pc := 18) C dX9_coat_18 ?_
      refine kx_ldc2 (pc := 19) C dX9_coat_19 cn_X9_117 ?_
      refine kx_ldc2 (pc := 22) C dX9_coat_22 cn_X9_146 ?_
      refine kx_callSI3 (pc := 25) C cs_X9_52 (m_X9_in (p := -1) (q := _) (r := 7) (by rfl) (kx_L _) (by rfl)) (by decide) dX9_coat_25 (Nat.le_of_ble_eq_true rfl) (fun r25 h25 q25 => ?_)
      obtain ⟨z25, rfl⟩ := q25
      have z25 := z25.symm
      subst z25
      refine kx_if_ne (pc := 28) C 33 dX9_coat_28 (by decide) (fun c28 => ?_) (fun c28 => ?_)
      · have c5 := kx_if1 c5
        have c13 := kx_if1 c13
        have c28 := kx_if1 c28
        obtain ⟨s, rfl, hs1, hs2⟩ := kx_nat c5.1
        obtain ⟨v, rfl, hv, hv2⟩ := kx_nat c13.1.1
        refine kx_ald0 (pc := 33) C dX9_coat_33 ?_
        refine kx_ild2 (pc := 34) C dX9_coat_34 ?_
        refine kx_ild3 (pc := 35) C dX9_coat_35 ?_
        refine kx_ild4 (pc := 36) C dX9_coat_36 ?_
        refine kx_iconst (pc := 38) C (v := nI 4) dX9_coat_38 (by decide) ?_
        refine kx_bipush (pc := 39) C (v := nI 99) dX9_coat_39 (by decide) ?_
        refine kx_callVI5 (pc := 41) C cs_X9_148 ob_127 (m_X9_barred _ _ hs (show v < 4 by omega) (show 4 ≤ 16 by omega) (show 99 ≤ 99 by omega)) (by decide) dX9_coat_41 (Nat.le_of_ble_eq_true rfl) (fun r41 h41 q41 => ?_)
        obtain ⟨z41, rfl⟩ := q41
        have z41 := z41.symm
        subst z41
        refine kx_ist6 (pc := 44) C dX9_coat_44 (by decide) rfl ?_
        refine kx_ild6 (pc := 46) C dX9_coat_46 ?_
        refine kx_if_geI (pc := 48) C 54 dX9_coat_48 (by decide) (fun c48 => ?_) (fun c48 => ?_)
        · rw [sp_take_nn] at c48
          have rf := sp_take_0 c48
          have rf0 := sp_ref_0 rf.1
          obtain ⟨i, rfl, hi, hi2⟩ := kx_nat rf0.2.2.1
          rw [kx_n, kx_n_nI hi2] at rf
          rw [c48]
          refine kx_ald0 (pc := 54) C dX9_coat_54 ?_
          refine kx_ild1 (pc := 55) C dX9_coat_55 ?_
          refine kx_callVV1 (pc := 56) C cs_X9_151 ob_127 (m_X9_measures hH hB (show s < 4 by omega)) (by decide) dX9_coat_56 (Nat.le_of_ble_eq_true rfl) (fun h56 q56 => ?_)
          obtain ⟨k1, k2⟩ := q56
          refine kx_iconst (pc := 59) C (v := nI 0) dX9_coat_59 (by decide) ?_
          refine kx_ist7 (pc := 60) C dX9_coat_60 (by decide) rfl ?_
          refine main s v i (by omega) (by omega) (by have := rf0.2.2.2.2; have := (hs v (by omega)).2.1; omega) rf.2 c28.1 (fun r er => ?_) _ 0 h56 rfl (by omega) (fun j hj => absurd hj (by omega)) (fun x z k hx hz hk => by rw [k1 x z k hx hz hk, sp_yy_eq hRB (by omega)]) (fun d j h1 h2 h3 => k2 d j h2)
          rw [sp_coat, if_pos ⟨c5, c13, c28⟩, kx_n, kx_n, kx_n, kx_n_nI hs2, kx_n_nI hv2, kx_n_nI hi2, if_pos c48]
          exact er
        · have rz : ¬ sp_take sl sn it v l ti 4 99 = 0 := fun z => by rw [z] at c48; exact absurd c48 (by decide)
          refine kx_ild6 (pc := 51) C dX9_coat_51 ?_
          exact hR dX9_coat_53 rfl ⟨by rw [sp_coat, if_pos ⟨c5, c13, c28⟩, kx_n, kx_n, kx_n_nI hs2, kx_n_nI hv2, if_neg rz], fun d j _ _ _ => rfl⟩
      · refine kx_iconst (pc := 31) C (v := -1) dX9_coat_31 (by decide) ?_
        exact hR dX9_coat_32 rfl ⟨by
          rw [sp_coat, if_neg (fun z => by
            first
              | exact kx_if0 c28 z.2.2
              | exact kx_if0 c13 z.2.1
              | exact kx_if0 c5 z.1)], fun d j _ _ _ => rfl⟩
set_option maxHeartbeats 4000000 in
set_option maxRecDepth 100000 in
theorem m_X9_isSo {h : kx_H} {a v : Nat → Nat} {t p n b : Nat} (hM : ∀ k, k < 141 → k ≠ 4 → k ≠ 5 → k ≠ 6 → h 128 k = nI (a k)) (hRB : st_RB a) (ht : t < 8) (hp : p ≤ n) (hn : n ≤ 16) (hb : b + n ≤ 96) (hv : ∀ j, j < n → h 133 (b + j) = nI (v j)) (hv9 : ∀ j, j < n → v j ≤ 9) : kx_MI 2 yX9_isSo cX9_isSo 6 .boolean [.ref 127, .int (nI t), .int (nI (b + p)), .int (nI (n - p))] h (fun r h1 => h1 = h ∧ r = if sp_ft a v n t p = true then 1 else 0) := by
  refine kx_mkI (own := RX9) (L0 := [some (.ref 127), some (.int (nI t)), some (.int (nI (b + p))), some (.int (nI (n - p))), none, none]) rfl (by decide +kernel) (Nat.le_of_ble_eq_true rfl) rfl (fun F C hR => ?_)
  have hl := hRB.1 t ht
  have eL : h 128 (81 + t) = nI (a (81 + t)) := hM _ (by omega) (by omega) (by omega) (by omega)
  have f0 : ∀ i, i < 2 ^ 31 → sp_ft a v n t p = false → F 23 [some (.ref 127), some (.int (nI t)), some (.int (nI (b + p))), some (.int (nI (n - p))), some (.int (nI 0)), some (.int (nI i))] [] h := by
    intro i hi hf
    refine kx_ild5 (pc := 23) C dX9_isSo_23 ?_
    refine kx_ald0 (pc := 25) C dX9_isSo_25 ?_
    refine kx_getr (pc := 26) C fl_X9_7 fd_127_0 dX9_isSo_26 ?_
    refine kx_bipush (pc := 29) C (v := nI 81) dX9_isSo_29 (by decide) ?_
    refine kx_ild1 (pc := 31) C dX9_isSo_31 ?_
    first | refine kx_iaddN (pc := 32) C dX9_isSo_32 ?_ | refine kx_iadd (pc := 32) C dX9_isSo_32 ?_
    refine kx_iald (pc := 33) C ia_128 (by omega) eL dX9_isSo_33 ?_
    refine kx_icmp_geN (pc := 34) C 85 (by omega) (by omega) dX9_isSo_34 (by decide) (fun c34 => ?_) (fun c34 => ?_)
    · refine kx_ild4 (pc := 85) C dX9_isSo_85 ?_
      exact hR dX9_isSo_87 rfl ⟨rfl, by rw [hf]; rfl⟩
    · refine kx_ild4 (pc := 37) C dX9_isSo_37 ?_
      refine kx_if_eq (pc := 39) C 85 dX9_isSo_39 (by decide) (fun c39 => ?_) (fun c39 => ?_)
      · refine kx_ild4 (pc := 85) C dX9_isSo_85 ?_
        exact hR dX9_isSo_87 rfl ⟨rfl, by rw [hf]; rfl⟩
      · exact absurd rfl c39
  have loop : p + a (81 + t) ≤ n → ∀ (q i : Nat), a (81 + t) - i = q → i ≤ a (81 + t) → (∀ j, j < i → a (9 + 9 * t + j) / 3 = v (p + j)) → F 23 [some (.ref 127), some (.int (nI t)), some (.int (nI (b + p))), some (.int (nI (n - p))), some (.int (nI 1)), some (.int (nI i))] [] h := by
    intro hfit q
    induction q with
    | zero =>
      intro i hq hi hall
      refine kx_ild5 (pc := 23) C dX9_isSo_23 ?_
      refine kx_ald0 (pc := 25) C dX9_isSo_25 ?_
      refine kx_getr (pc := 26) C fl_X9_7 fd_127_0 dX9_isSo_26 ?_
      refine kx_bipush (pc := 29) C (v := nI 81) dX9_isSo_29 (by decide) ?_
      refine kx_ild1 (pc := 31) C dX9_isSo_31 ?_
      first | refine kx_iaddN (pc := 32) C dX9_isSo_32 ?_ | refine kx_iadd (pc := 32) C dX9_isSo_32 ?_
      refine kx_iald (pc := 33) C ia_128 (by omega) eL dX9_isSo_33 ?_
      refine kx_icmp_geN (pc := 34) C 85 (by omega) (by omega) dX9_isSo_34 (by decide) (fun c34 => ?_) (fun c34 => ?_)
      · refine kx_ild4 (pc := 85) C dX9_isSo_85 ?_
        exact hR dX9_isSo_87 rfl ⟨rfl, by rw [show sp_ft a v n t p = true by unfold sp_ft; rw [decide_eq_true hfit, sp_all_iff.mpr (fun j hj => decide_eq_true (hall j (by omega)))]; rfl]; rfl⟩
      · omega
    | succ q ih =>
      intro i hq hi hall
      have ex : h 128 (9 + 9 * t + i) = nI (a (9 + 9 * t + i)) := hM _ (by omega) (by omega) (by omega) (by omega)
      have a9 := hRB.2.1 t i ht (by omega)
      have ev : h 133 (b + p + i) = nI (v (p + i)) := by rw [Nat.add_assoc]; exact hv _ (by omega)
      have v9 := hv9 (p + i) (by omega)
      refine kx_ild5 (pc := 23) C dX9_isSo_23 ?_
      refine kx_ald0 (pc := 25) C dX9_isSo_25 ?_
      refine kx_getr (pc := 26) C fl_X9_7 fd_127_0 dX9_isSo_26 ?_
      refine kx_bipush (pc := 29) C (v := nI 81) dX9_isSo_29 (by decide) ?_
      refine kx_ild1 (pc := 31) C dX9_isSo_31 ?_
      first | refine kx_iaddN (pc := 32) C dX9_isSo_32 ?_ | refine kx_iadd (pc := 32) C dX9_isSo_32 ?_
      refine kx_iald (pc := 33) C ia_128 (by omega) eL dX9_isSo_33 ?_
      refine kx_icmp_geN (pc := 34) C 85 (by omega) (by omega) dX9_isSo_34 (by decide) (fun c34 => ?_) (fun c34 => ?_)
      · omega
      · refine kx_ild4 (pc := 37) C dX9_isSo_37 ?_
        refine kx_if_eq (pc := 39) C 85 dX9_isSo_39 (by decide) (fun c39 => ?_) (fun c39 => ?_)
        · exact absurd c39 (by decide)
        · refine kx_ald0 (pc := 42) C dX9_isSo_42 ?_
          refine kx_getr (pc := 43) C fl_X9_7 fd_127_0 dX9_isSo_43 ?_
          refine kx_bipush (pc := 46) C (v := nI 9) dX9_isSo_46 (by decide) ?_
          refine kx_bipush (pc := 48) C (v := nI 9) dX9_isSo_48 (by decide) ?_
          refine kx_ild1 (pc := 50) C dX9_isSo_50 ?_
          first | refine kx_imulN (pc := 51) C dX9_isSo_51 ?_ | refine kx_imul (pc := 51) C dX9_isSo_51 ?_
          first | refine kx_iaddN (pc := 52) C dX9_isSo_52 ?_ | refine kx_iadd (pc := 52) C dX9_isSo_52 ?_
          refine kx_ild5 (pc := 53) C dX9_isSo_53 ?_
          first | refine kx_iaddN (pc := 55) C dX9_isSo_55 ?_ | refine kx_iadd (pc := 55) C dX9_isSo_55 ?_
          refine kx_iald (pc := 56) C ia_128 (by omega) ex dX9_isSo_56 ?_
          refine kx_callSI1 (pc := 57) C cs_X9_111 (m_X9_sortOf (by omega)) (by decide) dX9_isSo_57 (Nat.le_of_ble_eq_true rfl) (fun r57 h57 q57 => ?_)
          obtain ⟨z57, rfl⟩ := q57
          have z57 := z57.symm
          subst z57
          refine kx_ald0 (pc := 60) C dX9_isSo_60 ?_
          refine kx_getr (pc := 61) C fl_X9_25 fd_127_7 dX9_isSo_61 ?_
          refine kx_ild2 (pc := 64) C dX9_isSo_64 ?_
          refine kx_ild5 (pc := 65) C dX9_isSo_65 ?_
          first | refine kx_iaddN (pc := 67) C dX9_isSo_67 ?_ | refine kx_iadd (pc := 67) C dX9_isSo_67 ?_
          refine kx_iald (pc := 68) C ia_133 (by omega) ev dX9_isSo_68 ?_
          refine kx_icmp_neN (pc := 69) C 76 (by omega) (by omega) dX9_isSo_69 (by decide) (fun c69 => ?_) (fun c69 => ?_)
          · refine kx_iconst (pc := 76) C (v := nI 0) dX9_isSo_76 (by decide) ?_
            refine kx_ist4 (pc := 77) C dX9_isSo_77 (by decide) rfl ?_
            first | refine kx_inc5 (pc := 79) C (v := nI (_ + 1)) dX9_isSo_79 (by decide) rfl (nI_1 _) ?_ | refine kx_inc5 (pc := 79) C dX9_isSo_79 (by decide) rfl rfl ?_
            refine kx_goto (pc := 82) C 23 dX9_isSo_82 (by decide) ?_
            first
              | (refine ih (i + 1) (by omega) (by omega) (fun j hj => ?_)
                 rcases Nat.lt_or_ge j i with z | z
                 · exact hall j z
                 · rw [show j = i by omega]; exact c69)
              | (refine f0 (i + 1) (by omega) ?_
                 unfold sp_ft
                 rw [show sp_all (fun i => decide (a (9 + 9 * t + i) / 3 = v (p + i))) (a (81 + t)) = false from Bool.eq_false_iff.mpr (fun z => c69 (of_decide_eq_true (sp_all_iff.mp z i (by omega)))), Bool.and_false])
          · refine kx_iconst (pc := 72) C (v := nI 1) dX9_isSo_72 (by decide) ?_
            refine kx_goto (pc := 73) C 77 dX9_isSo_73 (by decide) ?_
            refine kx_ist4 (pc := 77) C dX9_isSo_77 (by decide) rfl ?_
            first | refine kx_inc5 (pc := 79) C (v := nI (_ + 1)) dX9_isSo_79 (by decide) rfl (nI_1 _) ?_ | refine kx_inc5 (pc := 79) C dX9_isSo_79 (by decide) rfl rfl ?_
            refine kx_goto (pc := 82) C 23 dX9_isSo_82 (by decide) ?_
            first
              | (refine ih (i + 1) (by omega) (by omega) (fun j hj => ?_)
                 rcases Nat.lt_or_ge j i with z | z
                 · exact hall j z
                 · rw [show j = i by omega]; exact c69)
              | (refine f0 (i + 1) (by omega) ?_
                 unfold sp_ft
                 rw [show sp_all (fun i => decide (a (9 + 9 * t + i) / 3 = v (p + i))) (a (81 + t)) = false from Bool.eq_false_iff.mpr (fun z => c69 (of_decide_eq_true (sp_all_iff.mp z i (by omega)))), Bool.and_false])
  refine kx_ald0 (pc := 0) C dX9_isSo_0 ?_
  refine kx_getr (pc := 1) C fl_X9_7 fd_127_0 dX9_isSo_1 ?_
  refine kx_bipush (pc := 4) C (v := nI 81) dX9_isSo_4 (by decide) ?_
  refine kx_ild1 (pc := 6) C dX9_isSo_6 ?_
  first | refine kx_iaddN (pc := 7) C dX9_isSo_7 ?_ | refine kx_iadd (pc := 7) C dX9_isSo_7 ?_
  refine kx_iald (pc := 8) C ia_128 (by omega) eL dX9_isSo_8 ?_
  refine kx_ild3 (pc := 9) C dX9_isSo_9 ?_
  refine kx_icmp_gtN (pc := 10) C 17 (by omega) (by omega) dX9_isSo_10 (by decide) (fun c10 => ?_) (fun c10 => ?_)
  · refine kx_iconst (pc := 17) C (v := nI 0) dX9_isSo_17 (by decide) ?_
    refine kx_ist4 (pc := 18) C dX9_isSo_18 (by decide) rfl ?_
    refine kx_iconst (pc := 20) C (v := nI 0) dX9_isSo_20 (by decide) ?_
    refine kx_ist5 (pc := 21) C dX9_isSo_21 (by decide) rfl ?_
    first
      | exact loop (by omega) _ 0 rfl (by omega) (fun j hj => absurd hj (by omega))
      | exact f0 0 (by omega) (by unfold sp_ft; rw [decide_eq_false (by omega), Bool.false_and])
  · refine kx_iconst (pc := 13) C (v := nI 1) dX9_isSo_13 (by decide) ?_
    refine kx_goto (pc := 14) C 18 dX9_isSo_14 (by decide) ?_
    refine kx_ist4 (pc := 18) C dX9_isSo_18 (by decide) rfl ?_
    refine kx_iconst (pc := 20) C (v := nI 0) dX9_isSo_20 (by decide) ?_
    refine kx_ist5 (pc := 21) C dX9_isSo_21 (by decide) rfl ?_
    first
      | exact loop (by omega) _ 0 rfl (by omega) (fun j hj => absurd hj (by omega))
      | exact f0 0 (by omega) (by unfold sp_ft; rw [decide_eq_false (by omega), Bool.false_and])
