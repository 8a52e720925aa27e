def st_MT (h : kx_H) (n : Nat) (tp : Nat → Nat) : Prop := h 127 4 = nI n ∧ n ≤ 24 ∧ (∀ k, k < 24 → h 130 k = nI (tp k)) ∧ ∀ k, k < 24 → tp k < 128
theorem sp_amt2 : ∀ k, k < 8 → ((nI (8 * k)).toInt64 &&& 63).toBitVec.toNat = 8 * k := by decide +kernel
theorem sp_shb (w : Int64) {k : Nat} (hk : k < 8) : ((w >>> ((nI (8 * k)).toInt64 &&& 63)) &&& 255) = lN (sp_bt w k) := by
  apply Int64.toBitVec_inj.mp
  apply BitVec.eq_of_toNat_eq
  have e1 : (w >>> ((nI (8 * k)).toInt64 &&& 63)).toBitVec = w.toBitVec.sshiftRight (8 * k) := by
    rw [Int64.toBitVec_shiftRight]
    have : (((nI (8 * k)).toInt64 &&& 63).toBitVec.smod 64).toNat = 8 * k := by
      revert k
      decide +kernel
    rw [BitVec.sshiftRight_eq', this]
  show ((w >>> ((nI (8 * k)).toInt64 &&& 63)).toBitVec &&& (255 : Int64).toBitVec).toNat = (BitVec.ofNat 64 (sp_bt w k)).toNat
  rw [e1]
  have hb := sp_bt_lt w k
  rw [BitVec.toNat_ofNat, Nat.mod_eq_of_lt (by omega)]
  apply Nat.eq_of_testBit_eq
  intro i
  rw [BitVec.toNat_and, Nat.testBit_and]
  have e2 : ((255 : Int64).toBitVec).toNat = 2 ^ 8 - 1 := by decide
  rw [e2, Nat.testBit_two_pow_sub_one]
  unfold sp_bt
  rw [show (256 : Nat) = 2 ^ 8 from rfl, Nat.testBit_mod_two_pow, Nat.testBit_div_two_pow]
  by_cases hi : i < 8
  · simp only [hi, decide_true, Bool.and_true, Bool.true_and]
    have e3 : (w.toBitVec.sshiftRight (8 * k)).toNat.testBit i = (w.toBitVec.sshiftRight (8 * k)).getLsbD i := rfl
    rw [e3, BitVec.getLsbD_sshiftRight]
    have h64 : ¬ 64 ≤ i := by omega
    simp only [h64, decide_false, Bool.not_false, Bool.true_and]
    rw [if_pos (by omega)]
    show _ = (sp_u w).testBit (i + 8 * k)
    rw [Nat.add_comm i]
    rfl
  · simp [hi]
set_option maxHeartbeats 4000000 in
set_option maxRecDepth 100000 in
theorem m_X9_type {h : kx_H} {n : Nat} {tp : Nat → Nat} (w : Int64) (v : Int32) (hTP : st_MT h n tp) : kx_MI 3 yX9_type cX9_type 6 .int [.ref 127, .long w, .int v] h (fun r h1 => r = sp_type n w v ∧ st_MT h1 (sp_typeN n w v) (sp_typeT n tp w v) ∧ (∀ j, j ≠ 4 → h1 127 j = h 127 j) ∧ ∀ d j, d ≠ 127 → d ≠ 130 → h1 d j = h d j) := by
  refine kx_mkI (own := RX9) (L0 := [some (.ref 127), some (.long w), none, some (.int v), none, none]) rfl (by decide +kernel) (Nat.le_of_ble_eq_true rfl) rfl (fun F C hR => ?_)
  obtain ⟨hn, hn24, htp, ht8⟩ := id hTP
  have part : ∀ m : Nat, 1 ≤ m → m ≤ 8 → v = nI m → F 14 [some (.ref 127), some (.long w), none, some (.int (nI m)), none, none] [] h := by
    intro m hm1 hm8 e
    subst e
    have hm2 : m < 2 ^ 31 := by omega
    have cm : 1 ≤ (nI m).toInt ∧ (nI m).toInt ≤ 8 := by rw [kx_T hm2]; omega
    have app : ∀ (r : Nat) (g : kx_H), r ≤ m → n + m ≤ 24 → sp_bytes w m = true → st_MT g (n + (m - r)) (fun k => if n ≤ k ∧ k < n + (m - r) then sp_bt w (m - 1 - (k - n)) else tp k) → (∀ j, j ≠ 4 → g 127 j = h 127 j) → (∀ d j, d ≠ 127 → d ≠ 130 → g d j = h d j) → F 93 [some (.ref 127), some (.long w), none, some (.int (nI m)), some (.int 1), some (.int (nI r + Int32.ofInt (-1)))] [] g := by
      intro r
      induction r with
      | zero =>
        intro g hr hnm hby hg hf0 hf
        have en : g 127 4 = nI (n + m) := hg.1
        refine kx_ild5 (pc := 93) C dX9_type_93 ?_
        refine kx_if_ltI (pc := 95) C 135 dX9_type_95 (by decide) (fun c95 => ?_) (fun c95 => ?_)
        · refine kx_ald0 (pc := 135) C dX9_type_135 ?_
          refine kx_geti (pc := 136) C fl_X9_64 fd_127_4 (by first | assumption | rfl) dX9_type_136 ?_
          exact hR dX9_type_139 rfl ⟨by rw [sp_type, kx_n, kx_n_nI hm2, if_pos ⟨cm, hby⟩, if_neg (by omega)], by rw [sp_typeN, sp_typeT, kx_n, kx_n_nI hm2, if_pos ⟨⟨cm, hby⟩, by omega⟩, if_pos ⟨⟨cm, hby⟩, by omega⟩]; exact hg, hf0, hf⟩
        · exact absurd c95 (by decide)
      | succ r ih =>
        intro g hr hnm hby hg hf0 hf
        obtain ⟨g1, g2, g3, g4⟩ := id hg
        have hb := sp_all_iff.mp hby r (by omega)
        simp only [decide_eq_true_eq] at hb
        rw [sp_m1]
        refine kx_ild5 (pc := 93) C dX9_type_93 ?_
        refine kx_if_ltI (pc := 95) C 135 dX9_type_95 (by decide) (fun c95 => ?_) (fun c95 => ?_)
        · rw [kx_T (by omega)] at c95
          omega
        · refine kx_ald0 (pc := 98) C dX9_type_98 ?_
          refine kx_getr (pc := 99) C fl_X9_16 fd_127_3 dX9_type_99 ?_
          refine kx_ald0 (pc := 102) C dX9_type_102 ?_
          refine kx_geti (pc := 103) C fl_X9_64 fd_127_4 (by first | assumption | rfl) dX9_type_103 ?_
          refine kx_lld1 (pc := 106) C dX9_type_106 ?_
          refine kx_bipush (pc := 107) C (v := nI 8) dX9_type_107 (by decide) ?_
          refine kx_ild5 (pc := 109) C dX9_type_109 ?_
          refine kx_imulN (pc := 111) C dX9_type_111 ?_
          refine kx_lshr (pc := 112) C dX9_type_112 ?_
          refine kx_ldc2 (pc := 113) C dX9_type_113 cn_X9_58 ?_
          refine kx_land (pc := 116) C dX9_type_116 ?_
          rw [sp_shb w (by omega)]
          refine kx_l2i (pc := 117) C dX9_type_117 ?_
          rw [lN_i]
          refine kx_iast (pc := 118) C ia_130 (by omega) dX9_type_118 ?_
          refine kx_ald0 (pc := 119) C dX9_type_119 ?_
          refine kx_dup (pc := 120) C dX9_type_120 rfl ?_
          refine kx_geti (pc := 121) C fl_X9_64 fd_127_4 (show _ = nI (n + (m - (r + 1))) by rw [kx_up, if_neg (by omega)]; exact g1) dX9_type_121 ?_
          refine kx_iconst (pc := 124) C (v := nI 1) dX9_type_124 (by decide) ?_
          first | refine kx_iaddN (pc := 125) C dX9_type_125 ?_ | refine kx_iadd (pc := 125) C dX9_type_125 ?_
          refine kx_puti (pc := 126) C fl_X9_64 fp_X9_4 fd_127_4 rfl rfl dX9_type_126 ?_
          refine kx_inc5 (pc := 129) C dX9_type_129 (by decide) rfl rfl ?_
          refine kx_goto (pc := 132) C 93 dX9_type_132 (by decide) ?_
          refine ih _ (by omega) hnm hby ⟨?_, by omega, fun k hk => ?_, fun k hk => ?_⟩ (fun j hj => by rw [kx_up, if_neg (by omega), kx_up, if_neg (by omega)]; exact hf0 j hj) (fun d j h1 h2 => by rw [kx_up, if_neg (by omega), kx_up, if_neg (by omega)]; exact hf d j h1 h2)
          · rw [kx_up, if_pos ⟨rfl, rfl⟩, show n + (m - (r + 1)) + 1 = n + (m - r) by omega]
          · show _ = nI (if n ≤ k ∧ k < n + (m - r) then sp_bt w (m - 1 - (k - n)) else tp k)
            by_cases z : k = n + (m - (r + 1))
            · rw [kx_up, if_neg (by omega), kx_up, if_pos ⟨rfl, z⟩, if_pos (by omega), show m - 1 - (k - n) = r by omega]
            · rw [kx_up, if_neg (by omega), kx_up, if_neg (fun y => z y.2), g3 k hk]
              congr 1
              exact kx_ifx (by omega) _ _
          · dsimp only
            split
            · next q =>
              have := sp_all_iff.mp hby (m - 1 - (k - n)) (by omega)
              simp only [decide_eq_true_eq] at this
              omega
            · exact ht8 k hk
    have chk : ∀ (q k : Nat), m - k = q → k ≤ m → F 20 [some (.ref 127), some (.long w), none, some (.int (nI m)), some (.int (if sp_bytes w k = true then 1 else 0)), some (.int (nI k))] [] h := by
      intro q
      induction q with
      | zero =>
        intro k hq hk
        have ek : k = m := by omega
        subst ek
        refine kx_ild5 (pc := 20) C dX9_type_20 ?_
        refine kx_ild3 (pc := 22) C dX9_type_22 ?_
        refine kx_icmp_geN (pc := 23) C 67 (by omega) (by omega) dX9_type_23 (by decide) (fun c23 => ?_) (fun c23 => ?_)
        · refine kx_ild4 (pc := 67) C dX9_type_67 ?_
          refine kx_if_ne (pc := 69) C 74 dX9_type_69 (by decide) (fun c69 => ?_) (fun c69 => ?_)
          · have hby := kx_if1 c69
            refine kx_ald0 (pc := 74) C dX9_type_74 ?_
            refine kx_geti (pc := 75) C fl_X9_64 fd_127_4 (by first | assumption | rfl) dX9_type_75 ?_
            refine kx_ild3 (pc := 78) C dX9_type_78 ?_
            refine kx_iaddN (pc := 79) C dX9_type_79 ?_
            refine kx_bipush (pc := 80) C (v := nI 24) dX9_type_80 (by decide) ?_
            refine kx_icmp_leN (pc := 82) C 88 (by omega) (by omega) dX9_type_82 (by decide) (fun c82 => ?_) (fun c82 => ?_)
            · refine kx_ild3 (pc := 88) C dX9_type_88 ?_
              refine kx_iconst (pc := 89) C (v := nI 1) dX9_type_89 (by decide) ?_
              refine kx_isubN (pc := 90) C (by omega) dX9_type_90 ?_
              refine kx_ist5 (pc := 91) C dX9_type_91 (by decide) rfl ?_
              have e1 : nI (k - 1) = nI k + Int32.ofInt (-1) := by
                have := sp_m1 (k - 1)
                rw [show k - 1 + 1 = k by omega] at this
                exact this.symm
              rw [e1, if_pos hby]
              refine app k h (by omega) c82 hby ?_ (fun j _ => rfl) (fun d j _ _ => rfl)
              refine ⟨by rw [Nat.sub_self]; exact hn, by omega, fun i hi => ?_, fun i hi => ?_⟩
              · show _ = nI (if n ≤ i ∧ i < n + (k - k) then sp_bt w (k - 1 - (i - n)) else tp i)
                rw [if_neg (by omega)]; exact htp i hi
              · dsimp only
                rw [if_neg (by omega)]; exact ht8 i hi
            · refine kx_bipush (pc := 85) C (v := -3) dX9_type_85 (by decide) ?_
              exact hR dX9_type_87 rfl ⟨by rw [sp_type, kx_n, kx_n_nI hm2, if_pos ⟨cm, hby⟩, if_pos c82], by rw [sp_typeN, sp_typeT, kx_n, kx_n_nI hm2, if_neg (fun z => by have := z.2; omega), if_neg (fun z => by have := z.2; omega)]; exact hTP, fun j _ => rfl, fun d j _ _ => rfl⟩
          · have hby := kx_if0 c69
            refine kx_iconst (pc := 72) C (v := -1) dX9_type_72 (by decide) ?_
            exact hR dX9_type_73 rfl ⟨by rw [sp_type, kx_n, kx_n_nI hm2, if_neg (fun z => hby z.2)], by rw [sp_typeN, sp_typeT, kx_n, kx_n_nI hm2, if_neg (fun z => hby z.1.2), if_neg (fun z => hby z.1.2)]; exact hTP, fun j _ => rfl, fun d j _ _ => rfl⟩
        · omega
      | succ q ih =>
        intro k hq hk
        have hlt := sp_bt_lt w k
        have h3 := ih (k + 1) (by omega) (by omega)
        have eb : sp_bytes w (k + 1) = (sp_bytes w k && decide (32 ≤ sp_bt w k ∧ sp_bt w k ≤ 126)) := rfl
        rw [eb] at h3
        refine kx_ild5 (pc := 20) C dX9_type_20 ?_
        refine kx_ild3 (pc := 22) C dX9_type_22 ?_
        refine kx_icmp_geN (pc := 23) C 67 (by omega) (by omega) dX9_type_23 (by decide) (fun c23 => ?_) (fun c23 => ?_)
        · omega
        · refine kx_ild4 (pc := 26) C dX9_type_26 ?_
          refine kx_if_eq (pc := 28) C 58 dX9_type_28 (by decide) (fun c28 => ?_) (fun c28 => ?_)
          · refine kx_iconst (pc := 58) C (v := nI 0) dX9_type_58 (by decide) ?_
            refine kx_ist4 (pc := 59) C dX9_type_59 (by decide) rfl ?_
            first | refine kx_inc5 (pc := 61) C (v := nI (_ + 1)) dX9_type_61 (by decide) rfl (nI_1 _) ?_ | refine kx_inc5 (pc := 61) C dX9_type_61 (by decide) rfl rfl ?_
            refine kx_goto (pc := 64) C 20 dX9_type_64 (by decide) ?_
            first
              | (have f1 := kx_if1 c28
                 have f2 := kx_if1 c51
                 rw [f1, Bool.true_and, decide_eq_true (by omega)] at h3
                 exact h3)
              | (have f1 := kx_if1 c28
                 have f2 := kx_if0 c51
                 rw [f1, Bool.true_and, decide_eq_false (by omega)] at h3
                 exact h3)
              | (have f1 := Bool.eq_false_iff.mpr (kx_if0 c28)
                 rw [f1, Bool.false_and] at h3
                 exact h3)
          · refine kx_lld1 (pc := 31) C dX9_type_31 ?_
            refine kx_bipush (pc := 32) C (v := nI 8) dX9_type_32 (by decide) ?_
            refine kx_ild5 (pc := 34) C dX9_type_34 ?_
            refine kx_imulN (pc := 36) C dX9_type_36 ?_
            refine kx_lshr (pc := 37) C dX9_type_37 ?_
            refine kx_ldc2 (pc := 38) C dX9_type_38 cn_X9_58 ?_
            refine kx_land (pc := 41) C dX9_type_41 ?_
            rw [sp_shb w (by omega)]
            refine kx_ldc2 (pc := 42) C dX9_type_42 cn_X9_60 ?_
            refine kx_ldc2 (pc := 45) C dX9_type_45 cn_X9_62 ?_
            refine kx_callSI3 (pc := 48) C cs_X9_52 (m_X9_in (p := 32) (q := (sp_bt w k : Int)) (r := 126) (by rfl) (pk_lT (by omega)) (by rfl)) (by decide) dX9_type_48 (Nat.le_of_ble_eq_true rfl) (fun r48 h48 q48 => ?_)
            obtain ⟨z48, rfl⟩ := q48
            have z48 := z48.symm
            subst z48
            refine kx_if_eq (pc := 51) C 58 dX9_type_51 (by decide) (fun c51 => ?_) (fun c51 => ?_)
            · refine kx_iconst (pc := 58) C (v := nI 0) dX9_type_58 (by decide) ?_
              refine kx_ist4 (pc := 59) C dX9_type_59 (by decide) rfl ?_
              first | refine kx_inc5 (pc := 61) C (v := nI (_ + 1)) dX9_type_61 (by decide) rfl (nI_1 _) ?_ | refine kx_inc5 (pc := 61) C dX9_type_61 (by decide) rfl rfl ?_
              refine kx_goto (pc := 64) C 20 dX9_type_64 (by decide) ?_
              first
                | (have f1 := kx_if1 c28
                   have f2 := kx_if1 c51
                   rw [f1, Bool.true_and, decide_eq_true (by omega)] at h3
                   exact h3)
                | (have f1 := kx_if1 c28
                   have f2 := kx_if0 c51
                   rw [f1, Bool.true_and, decide_eq_false (by omega)] at h3
                   exact h3)
                | (have f1 := Bool.eq_false_iff.mpr (kx_if0 c28)
                   rw [f1, Bool.false_and] at h3
                   exact h3)
            · refine kx_iconst (pc := 54) C (v := nI 1) dX9_type_54 (by decide) ?_
              refine kx_goto (pc := 55) C 59 dX9_type_55 (by decide) ?_
              refine kx_ist4 (pc := 59) C dX9_type_59 (by decide) rfl ?_
              first | refine kx_inc5 (pc := 61) C (v := nI (_ + 1)) dX9_type_61 (by decide) rfl (nI_1 _) ?_ | refine kx_inc5 (pc := 61) C dX9_type_61 (by decide) rfl rfl ?_
              refine kx_goto (pc := 64) C 20 dX9_type_64 (by decide) ?_
              first
                | (have f1 := kx_if1 c28
                   have f2 := kx_if1 c51
                   rw [f1, Bool.true_and, decide_eq_true (by omega)] at h3
                   exact h3)
                | (have f1 := kx_if1 c28
                   have f2 := kx_if0 c51
                   rw [f1, Bool.true_and, decide_eq_false (by omega)] at h3
                   exact h3)
                | (have f1 := Bool.eq_false_iff.mpr (kx_if0 c28)
                   rw [f1, Bool.false_and] at h3
                   exact h3)
    refine kx_iconst (pc := 14) C (v := nI 1) dX9_type_14 (by decide) ?_
    refine kx_ist4 (pc := 15) C dX9_type_15 (by decide) rfl ?_
    refine kx_iconst (pc := 17) C (v := nI 0) dX9_type_17 (by decide) ?_
    refine kx_ist5 (pc := 18) C dX9_type_18 (by decide) rfl ?_
    exact chk m 0 (by omega) (by omega)
  refine kx_ild3 (pc := 0) C dX9_type_0 ?_
  refine kx_i2l (pc := 1) C dX9_type_1 ?_
  refine kx_lconst (pc := 2) C (v := 1) dX9_type_2 (by decide) ?_
  refine kx_ldc2 (pc := 3) C dX9_type_3 cn_X9_56 ?_
  refine kx_callSI3 (pc := 6) C cs_X9_52 (m_X9_in (p := 1) (q := _) (r := 8) (by rfl) (kx_L _) (by rfl)) (by decide) dX9_type_6 (Nat.le_of_ble_eq_true rfl) (fun r6 h6 q6 => ?_)
  obtain ⟨z6, rfl⟩ := q6
  have z6 := z6.symm
  subst z6
  refine kx_if_ne (pc := 9) C 14 dX9_type_9 (by decide) (fun c9 => ?_) (fun c9 => ?_)
  · have c9 := kx_if1 c9
    obtain ⟨m, rfl, hm, hm2⟩ := kx_nat (x := v) (by omega)
    exact part m (by omega) (by omega) rfl
  · refine kx_iconst (pc := 12) C (v := -1) dX9_type_12 (by decide) ?_
    have c9 := kx_if0 c9
    exact hR dX9_type_13 rfl ⟨by rw [sp_type, if_neg (fun z => c9 z.1)], by rw [sp_typeN, sp_typeT, if_neg (fun z => c9 z.1.1), if_neg (fun z => c9 z.1.1)]; exact hTP, fun j _ => rfl, fun d j _ _ => rfl⟩
set_option maxHeartbeats 4000000 in
set_option maxRecDepth 100000 in
theorem m_X9_spinner {h : kx_H} {a : Nat → Nat} (hH : st_MH 128 h a) (hB : st_B a) : kx_MI 1 yX9_spinner cX9_spinner 3 .int [.ref 127] h (fun r h1 => r = sp_spinner a ∧ st_MH 128 h1 (sp_spinnerA a) ∧ ∀ d j, d ≠ 128 → h1 d j = h d j) := by
  refine kx_mkI (own := RX9) (L0 := [some (.ref 127), none, none]) rfl (by decide +kernel) (Nat.le_of_ble_eq_true rfl) rfl (fun F C hR => ?_)
  obtain ⟨hM, hMB⟩ := id hH
  obtain ⟨⟨b0, b1, b2, b3, b8, b8'⟩, hRB, bl, byy, bh, bz, bb⟩ := id hB
  have hl9 := hRB.1
  have hT : h 128 0 = nI (a 0) := hM 0 (by omega) (by omega) (by omega) (by omega)
  have hE : h 128 1 = nI (a 1) := hM 1 (by omega) (by omega) (by omega) (by omega)
  have hS : h 128 2 = nI (a 2) := hM 2 (by omega) (by omega) (by omega) (by omega)
  have hev : h 128 3 = nI (a 3) := hM 3 (by omega) (by omega) (by omega) (by omega)
  have hme : h 128 8 = nI (a 8) := hM 8 (by omega) (by omega) (by omega) (by omega)
  have keep : ∀ (g : kx_H) (k : Nat), a 2 < 4 → (∀ j, g 128 j = h 128 j) → k < 141 → (93 + 4 * a 2 ≤ k ∧ k < 97 + 4 * a 2) ∨ (109 + 8 * a 2 ≤ k ∧ k < 117 + 8 * a 2) → ∀ j, kx_up g 128 k (nI 0) 128 j = h 128 j := by
    intro g k h4 hg hk hc j
    by_cases z : j = k
    · rw [z, kx_up, if_pos ⟨rfl, rfl⟩, hM k hk (by omega) (by omega) (by omega)]
      have hz := bz (a 2) (Nat.le_refl _) h4
      rcases hc with hc | hc
      · have := hz.1 (k - (93 + 4 * a 2)) (by omega)
        rw [show 93 + 4 * a 2 + (k - (93 + 4 * a 2)) = k by omega] at this
        rw [this]
      · have := hz.2 (k - (109 + 8 * a 2)) (by omega)
        rw [show 109 + 8 * a 2 + (k - (109 + 8 * a 2)) = k by omega] at this
        rw [this]
    · rw [kx_up, if_neg (fun y => z y.2), hg]
  have loop2 : ∀ (q k : Nat) (g : kx_H), a 2 < 4 → 8 - k = q → k ≤ 8 → (∀ d j, g d j = h d j) → F 44 [some (.ref 127), some (.int (nI (a 2))), some (.int (nI k))] [] g := by
    intro q
    induction q with
    | zero =>
      intro k g h4 hq hk hg
      refine kx_ild2 (pc := 44) C dX9_spinner_44 ?_
      refine kx_bipush (pc := 45) C (v := nI 8) dX9_spinner_45 (by decide) ?_
      refine kx_icmp_geN (pc := 47) C 71 (by omega) (by omega) dX9_spinner_47 (by decide) (fun c47 => ?_) (fun c47 => ?_)
      · refine kx_ald0 (pc := 71) C dX9_spinner_71 ?_
        refine kx_getr (pc := 72) C fl_X9_7 fd_127_0 dX9_spinner_72 ?_
        refine kx_iconst (pc := 75) C (v := nI 2) dX9_spinner_75 (by decide) ?_
        refine kx_ild1 (pc := 76) C dX9_spinner_76 ?_
        refine kx_iconst (pc := 77) C (v := nI 1) dX9_spinner_77 (by decide) ?_
        first | refine kx_iaddN (pc := 78) C dX9_spinner_78 ?_ | refine kx_iadd (pc := 78) C dX9_spinner_78 ?_
        refine kx_iast (pc := 79) C ia_128 (by omega) dX9_spinner_79 ?_
        refine kx_ild1 (pc := 80) C dX9_spinner_80 ?_
        refine hR dX9_spinner_81 rfl ⟨by rw [sp_spinner, if_neg (by omega)], ?_, fun d j hd => by rw [kx_up, if_neg (by omega)]; exact hg d j⟩
        rw [sp_spinnerA, if_pos h4]
        exact (hH.kept (g := g) (fun j => hg 128 j)).up1 (by omega) (by omega) (by omega)
      · omega
    | succ q ih =>
      intro k g h4 hq hk hg
      refine kx_ild2 (pc := 44) C dX9_spinner_44 ?_
      refine kx_bipush (pc := 45) C (v := nI 8) dX9_spinner_45 (by decide) ?_
      refine kx_icmp_geN (pc := 47) C 71 (by omega) (by omega) dX9_spinner_47 (by decide) (fun c47 => ?_) (fun c47 => ?_)
      · omega
      · refine kx_ald0 (pc := 50) C dX9_spinner_50 ?_
        refine kx_getr (pc := 51) C fl_X9_7 fd_127_0 dX9_spinner_51 ?_
        refine kx_bipush (pc := 54) C (v := nI 109) dX9_spinner_54 (by decide) ?_
        refine kx_bipush (pc := 56) C (v := nI 8) dX9_spinner_56 (by decide) ?_
        refine kx_ild1 (pc := 58) C dX9_spinner_58 ?_
        first | refine kx_imulN (pc := 59) C dX9_spinner_59 ?_ | refine kx_imul (pc := 59) C dX9_spinner_59 ?_
        first | refine kx_iaddN (pc := 60) C dX9_spinner_60 ?_ | refine kx_iadd (pc := 60) C dX9_spinner_60 ?_
        refine kx_ild2 (pc := 61) C dX9_spinner_61 ?_
        first | refine kx_iaddN (pc := 62) C dX9_spinner_62 ?_ | refine kx_iadd (pc := 62) C dX9_spinner_62 ?_
        refine kx_iconst (pc := 63) C (v := nI 0) dX9_spinner_63 (by decide) ?_
        refine kx_iast (pc := 64) C ia_128 (by omega) dX9_spinner_64 ?_
        first | refine kx_inc2 (pc := 65) C (v := nI (_ + 1)) dX9_spinner_65 (by decide) rfl (nI_1 _) ?_ | refine kx_inc2 (pc := 65) C dX9_spinner_65 (by decide) rfl rfl ?_
        refine kx_goto (pc := 68) C 44 dX9_spinner_68 (by decide) ?_
        refine ih (k + 1) _ h4 (by omega) (by omega) (fun d j => ?_)
        by_cases z : d = 128
        · rw [z]; exact keep g _ h4 (hg 128) (by omega) (by omega) j
        · rw [kx_up, if_neg (fun y => z y.1)]; exact hg d j
  have loop1 : ∀ (q k : Nat) (g : kx_H), a 2 < 4 → 4 - k = q → k ≤ 4 → (∀ d j, g d j = h d j) → F 17 [some (.ref 127), some (.int (nI (a 2))), some (.int (nI k))] [] g := by
    intro q
    induction q with
    | zero =>
      intro k g h4 hq hk hg
      refine kx_ild2 (pc := 17) C dX9_spinner_17 ?_
      refine kx_iconst (pc := 18) C (v := nI 4) dX9_spinner_18 (by decide) ?_
      refine kx_icmp_geN (pc := 19) C 42 (by omega) (by omega) dX9_spinner_19 (by decide) (fun c19 => ?_) (fun c19 => ?_)
      · refine kx_iconst (pc := 42) C (v := nI 0) dX9_spinner_42 (by decide) ?_
        refine kx_ist2 (pc := 43) C dX9_spinner_43 (by decide) rfl ?_
        exact loop2 8 0 g h4 (by omega) (by omega) hg
      · omega
    | succ q ih =>
      intro k g h4 hq hk hg
      refine kx_ild2 (pc := 17) C dX9_spinner_17 ?_
      refine kx_iconst (pc := 18) C (v := nI 4) dX9_spinner_18 (by decide) ?_
      refine kx_icmp_geN (pc := 19) C 42 (by omega) (by omega) dX9_spinner_19 (by decide) (fun c19 => ?_) (fun c19 => ?_)
      · omega
      · refine kx_ald0 (pc := 22) C dX9_spinner_22 ?_
        refine kx_getr (pc := 23) C fl_X9_7 fd_127_0 dX9_spinner_23 ?_
        refine kx_bipush (pc := 26) C (v := nI 93) dX9_spinner_26 (by decide) ?_
        refine kx_iconst (pc := 28) C (v := nI 4) dX9_spinner_28 (by decide) ?_
        refine kx_ild1 (pc := 29) C dX9_spinner_29 ?_
        first | refine kx_imulN (pc := 30) C dX9_spinner_30 ?_ | refine kx_imul (pc := 30) C dX9_spinner_30 ?_
        first | refine kx_iaddN (pc := 31) C dX9_spinner_31 ?_ | refine kx_iadd (pc := 31) C dX9_spinner_31 ?_
        refine kx_ild2 (pc := 32) C dX9_spinner_32 ?_
        first | refine kx_iaddN (pc := 33) C dX9_spinner_33 ?_ | refine kx_iadd (pc := 33) C dX9_spinner_33 ?_
        refine kx_iconst (pc := 34) C (v := nI 0) dX9_spinner_34 (by decide) ?_
        refine kx_iast (pc := 35) C ia_128 (by omega) dX9_spinner_35 ?_
        first | refine kx_inc2 (pc := 36) C (v := nI (_ + 1)) dX9_spinner_36 (by decide) rfl (nI_1 _) ?_ | refine kx_inc2 (pc := 36) C dX9_spinner_36 (by decide) rfl rfl ?_
        refine kx_goto (pc := 39) C 17 dX9_spinner_39 (by decide) ?_
        refine ih (k + 1) _ h4 (by omega) (by omega) (fun d j => ?_)
        by_cases z : d = 128
        · rw [z]; exact keep g _ h4 (hg 128) (by omega) (by omega) j
        · rw [kx_up, if_neg (fun y => z y.1)]; exact hg d j
  refine kx_ald0 (pc := 0) C dX9_spinner_0 ?_
  refine kx_getr (pc := 1) C fl_X9_7 fd_127_0 dX9_spinner_1 ?_
  refine kx_iconst (pc := 4) C (v := nI 2) dX9_spinner_4 (by decide) ?_
  refine kx_iald (pc := 5) C ia_128 (by omega) (by first | assumption | exact hM _ (by omega) (by omega) (by omega) (by omega) | rfl) dX9_spinner_5 ?_
  refine kx_ist1 (pc := 6) C dX9_spinner_6 (by decide) rfl ?_
  refine kx_ild1 (pc := 7) C dX9_spinner_7 ?_
  refine kx_iconst (pc := 8) C (v := nI 4) dX9_spinner_8 (by decide) ?_
  refine kx_icmp_neN (pc := 9) C 15 (by omega) (by omega) dX9_spinner_9 (by decide) (fun c9 => ?_) (fun c9 => ?_)
  · refine kx_iconst (pc := 15) C (v := nI 0) dX9_spinner_15 (by decide) ?_
    refine kx_ist2 (pc := 16) C dX9_spinner_16 (by decide) rfl ?_
    exact loop1 4 0 h (by omega) (by omega) (by omega) (fun d j => rfl)
  · refine kx_bipush (pc := 12) C (v := -3) dX9_spinner_12 (by decide) ?_
    exact hR dX9_spinner_14 rfl ⟨by rw [sp_spinner, if_pos (by omega)], by rw [sp_spinnerA, if_neg (by omega)]; exact hH, fun d j _ => rfl⟩
