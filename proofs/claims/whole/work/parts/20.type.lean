/-! bytes of a long -/
def sp_u (x : Int64) : Nat := x.toUInt64.toNat
def sp_bt (w : Int64) (k : Nat) : Nat := sp_u w / 2 ^ (8 * k) % 256
theorem sp_bt_lt (w : Int64) (k : Nat) : sp_bt w k < 256 := Nat.mod_lt _ (by decide)
theorem sp_amt : ∀ k, k < 8 → ((nI (8 * k)).toInt64.toUInt64 &&& Int64.toUInt64 63).toNat % 64 = 8 * k := by decide +kernel
theorem sp_ush (x : Int64) {k : Nat} (hk : k < 8) : sp_u (x.toUInt64 >>> ((nI (8 * k)).toInt64.toUInt64 &&& Int64.toUInt64 63)).toInt64 = sp_u x / 2 ^ (8 * k) := by
  show (x.toUInt64 >>> _).toNat = _
  rw [UInt64.toNat_shiftRight, Nat.shiftRight_eq_div_pow, sp_amt k hk]
  rfl
theorem sp_i32 (x : Int64) : x.toInt32 = nI (sp_u x) := by
  apply Int32.toBitVec_inj.mp
  apply BitVec.eq_of_toNat_eq
  show _ = (BitVec.ofNat 32 (sp_u x)).toNat
  rw [BitVec.toNat_ofNat]
  have : x.toInt32.toBitVec = x.toBitVec.signExtend 32 := Int64.toBitVec_toInt32 x
  rw [this, BitVec.signExtend_eq_setWidth_of_le _ (by decide), BitVec.toNat_setWidth]
  rfl
theorem sp_byte (w : Int64) {k : Nat} (hk : k < 8) : ((w.toUInt64 >>> ((nI (8 * k)).toInt64.toUInt64 &&& Int64.toUInt64 63)).toInt64.toInt32 &&& nI 255) = nI (sp_bt w k) := by
  rw [sp_i32, sp_ush w hk]
  have h := kx_and (sp_u w / 2 ^ (8 * k)) 255
  rw [h]
  congr 1
  exact Nat.and_two_pow_sub_one_eq_mod _ 8
set_option maxHeartbeats 4000000 in
set_option maxRecDepth 100000 in
theorem m_X8_byteOf {h : kx_H} {w : Int64} {k : Nat} (hk : k < 8) : kx_MI 1 yX8_byteOf cX8_byteOf 3 .int [.long w, .int (nI k)] h (fun r h1 => h1 = h ∧ r = nI (sp_bt w k)) := by
  refine kx_mkI (own := RX8) (L0 := [some (.long w), none, some (.int (nI k))]) rfl (by decide +kernel) (Nat.le_of_ble_eq_true rfl) rfl (fun F C hR => ?_)
  refine kx_lld0 (pc := 0) C dX8_byteOf_0 ?_
  refine kx_bipush (pc := 1) C (v := nI 8) dX8_byteOf_1 (by decide) ?_
  refine kx_ild2 (pc := 3) C dX8_byteOf_3 ?_
  refine kx_imulN (pc := 4) C dX8_byteOf_4 ?_
  refine kx_lushr (pc := 5) C dX8_byteOf_5 ?_
  refine kx_l2i (pc := 6) C dX8_byteOf_6 ?_
  refine kx_sipush (pc := 7) C (v := nI 255) dX8_byteOf_7 (by decide) ?_
  refine kx_iand (pc := 10) C dX8_byteOf_10 ?_
  exact hR dX8_byteOf_11 rfl ⟨rfl, sp_byte w hk⟩
def st_TP (h : kx_H) (n : Nat) (tp : Nat → Nat) : Prop := h 45 1 = nI n ∧ n ≤ 24 ∧ (∀ k, k < 24 → h 46 k = nI (tp k)) ∧ ∀ k, k < 24 → tp k < 128
def sp_bytes (w : Int64) (m : Nat) : Bool := sp_all (fun k => decide (32 ≤ sp_bt w k ∧ sp_bt w k ≤ 126)) m
def sp_type (n : Nat) (w : Int64) (m : Int32) : Int32 := if (1 ≤ m.toInt ∧ m.toInt ≤ 8) ∧ sp_bytes w (kx_n m) = true then (if 24 < n + kx_n m then -3 else nI (n + kx_n m)) else -1
def sp_typeN (n : Nat) (w : Int64) (m : Int32) : Nat := if ((1 ≤ m.toInt ∧ m.toInt ≤ 8) ∧ sp_bytes w (kx_n m) = true) ∧ n + kx_n m ≤ 24 then n + kx_n m else n
def sp_typeT (n : Nat) (tp : Nat → Nat) (w : Int64) (m : Int32) : Nat → Nat := if ((1 ≤ m.toInt ∧ m.toInt ≤ 8) ∧ sp_bytes w (kx_n m) = true) ∧ n + kx_n m ≤ 24 then (fun k => if n ≤ k ∧ k < n + kx_n m then sp_bt w (kx_n m - 1 - (k - n)) else tp k) else tp
theorem sp_m1 (r : Nat) : nI (r + 1) + Int32.ofInt (-1) = nI r := pk_m1 r
set_option maxHeartbeats 4000000 in
set_option maxRecDepth 100000 in
theorem m_X8_type {h : kx_H} {n : Nat} {tp : Nat → Nat} (w : Int64) (v : Int32) (hTP : st_TP h n tp) : kx_MI 3 yX8_type cX8_type 5 .int [.ref 0, .long w, .int v] h (fun r h1 => r = sp_type n w v ∧ st_TP h1 (sp_typeN n w v) (sp_typeT n tp w v) ∧ ∀ d j, d ≠ 45 → d ≠ 46 → h1 d j = h d j) := by
  refine kx_mkI (own := RX8) (L0 := [some (.ref 0), some (.long w), none, some (.int v), none]) rfl (by decide +kernel) (Nat.le_of_ble_eq_true rfl) rfl (fun F C hR => ?_)
  obtain ⟨hn, hn24, htp, ht8⟩ := id hTP
  have part : ∀ m : Nat, 1 ≤ m → m ≤ 8 → v = nI m → F 12 [some (.ref 0), some (.long w), none, some (.int (nI m)), none] [] h := by
    intro m hm1 hm8 e
    subst e
    have hm2 : m < 2 ^ 31 := by omega
    have cm : 1 ≤ (nI m).toInt ∧ (nI m).toInt ≤ 8 := by rw [kx_T hm2]; omega
    have app : ∀ (r : Nat) (g : kx_H), r ≤ m → n + m ≤ 24 → sp_bytes w m = true → st_TP g (n + (m - r)) (fun k => if n ≤ k ∧ k < n + (m - r) then sp_bt w (m - 1 - (k - n)) else tp k) → (∀ d j, d ≠ 45 → d ≠ 46 → g d j = h d j) → F 67 [some (.ref 0), some (.long w), none, some (.int (nI m)), some (.int (nI r + Int32.ofInt (-1)))] [] g := by
      intro r
      induction r with
      | zero =>
        intro g hr hnm hby hg hf
        have en : g 45 1 = nI (n + m) := hg.1
        refine kx_ild4 (pc := 67) C dX8_type_67 ?_
        refine kx_if_ltI (pc := 69) C 91 dX8_type_69 (by decide) (fun c69 => ?_) (fun c69 => ?_)
        · refine kx_ald0 (pc := 91) C dX8_type_91 ?_
          refine kx_getr (pc := 92) C fl_X8_22 fd_0_3 dX8_type_92 ?_
          refine kx_geti (pc := 95) C fl_X8_83 fd_45_1 (by first | assumption | rfl) dX8_type_95 ?_
          exact hR dX8_type_98 rfl ⟨by rw [sp_type, kx_n, kx_n_nI hm2, if_pos ⟨cm, hby⟩, if_neg (by omega)], by rw [sp_typeN, sp_typeT, kx_n, kx_n_nI hm2, if_pos ⟨⟨cm, hby⟩, by omega⟩, if_pos ⟨⟨cm, hby⟩, by omega⟩]; exact hg, hf⟩
        · exact absurd c69 (by decide)
      | succ r ih =>
        intro g hr hnm hby hg hf
        obtain ⟨g1, g2, g3, g4⟩ := id hg
        have hb := sp_all_iff.mp hby r (by omega)
        simp only [decide_eq_true_eq] at hb
        rw [sp_m1]
        refine kx_ild4 (pc := 67) C dX8_type_67 ?_
        refine kx_if_ltI (pc := 69) C 91 dX8_type_69 (by decide) (fun c69 => ?_) (fun c69 => ?_)
        · rw [kx_T (by omega)] at c69
          omega
        · refine kx_ald0 (pc := 72) C dX8_type_72 ?_
          refine kx_getr (pc := 73) C fl_X8_22 fd_0_3 dX8_type_73 ?_
          refine kx_lld1 (pc := 76) C dX8_type_76 ?_
          refine kx_ild4 (pc := 77) C dX8_type_77 ?_
          refine kx_callSI2 (pc := 79) C cs_X8_79 (m_X8_byteOf (by omega)) (by decide) dX8_type_79 (Nat.le_of_ble_eq_true rfl) (fun r79 h79 q79 => ?_)
          obtain ⟨z79, rfl⟩ := q79
          have z79 := z79.symm
          subst z79
          refine kx_callVV1 (pc := 82) C cs_X8_87 ob_45 (m_X7_append (n := n + (m - (r + 1))) g1 (by omega)) (by decide) dX8_type_82 (Nat.le_of_ble_eq_true rfl) (fun h82 q82 => ?_)
          subst q82
          refine kx_inc4 (pc := 85) C dX8_type_85 (by decide) rfl rfl ?_
          refine kx_goto (pc := 88) C 67 dX8_type_88 (by decide) ?_
          refine ih _ (by omega) hnm hby ⟨?_, by omega, fun k hk => ?_, fun k hk => ?_⟩ (fun d j h1 h2 => by simp only [kx_up]; rw [if_neg (by omega), if_neg (by omega)]; exact hf d j h1 h2)
          · rw [kx_up, if_neg (by omega), kx_up, if_pos ⟨rfl, rfl⟩, show n + (m - (r + 1)) + 1 = n + (m - r) by omega]
          · show _ = nI (if n ≤ k ∧ k < n + (m - r) then sp_bt w (m - 1 - (k - n)) else tp k)
            by_cases z : k = n + (m - (r + 1))
            · rw [kx_up, if_pos ⟨rfl, z⟩, if_pos (by omega), show m - 1 - (k - n) = r by omega]
            · rw [kx_up, if_neg (fun y => z y.2), kx_up, if_neg (by omega), g3 k hk]
              congr 1
              exact kx_ifx (by omega) _ _
          · dsimp only
            split
            · next q =>
              have := sp_all_iff.mp hby (m - 1 - (k - n)) (by omega)
              simp only [decide_eq_true_eq] at this
              omega
            · exact ht8 k hk
    have chk : ∀ (q k : Nat), m - k = q → k ≤ m → (∀ i, i < k → decide (32 ≤ sp_bt w i ∧ sp_bt w i ≤ 126) = true) → F 15 [some (.ref 0), some (.long w), none, some (.int (nI m)), some (.int (nI k))] [] h := by
      intro q
      induction q with
      | zero =>
        intro k hq hk hb
        have hby : sp_bytes w m = true := sp_all_iff.mpr (fun i hi => hb i (by omega))
        refine kx_ild4 (pc := 15) C dX8_type_15 ?_
        refine kx_ild3 (pc := 17) C dX8_type_17 ?_
        refine kx_icmp_geN (pc := 18) C 45 (by omega) (by omega) dX8_type_18 (by decide) (fun c18 => ?_) (fun c18 => ?_)
        · refine kx_ald0 (pc := 45) C dX8_type_45 ?_
          refine kx_getr (pc := 46) C fl_X8_22 fd_0_3 dX8_type_46 ?_
          refine kx_geti (pc := 49) C fl_X8_83 fd_45_1 (by first | assumption | rfl) dX8_type_49 ?_
          refine kx_ild3 (pc := 52) C dX8_type_52 ?_
          refine kx_iaddN (pc := 53) C dX8_type_53 ?_
          refine kx_bipush (pc := 54) C (v := nI 24) dX8_type_54 (by decide) ?_
          refine kx_icmp_leN (pc := 56) C 62 (by omega) (by omega) dX8_type_56 (by decide) (fun c56 => ?_) (fun c56 => ?_)
          · refine kx_ild3 (pc := 62) C dX8_type_62 ?_
            refine kx_iconst (pc := 63) C (v := nI 1) dX8_type_63 (by decide) ?_
            refine kx_isubN (pc := 64) C (by omega) dX8_type_64 ?_
            refine kx_ist4 (pc := 65) C dX8_type_65 (by decide) rfl ?_
            have e1 : nI (m - 1) = nI m + Int32.ofInt (-1) := by
              have := sp_m1 (m - 1)
              rw [show m - 1 + 1 = m by omega] at this
              exact this.symm
            rw [e1]
            refine app m h (by omega) c56 hby ?_ (fun d j _ _ => rfl)
            refine ⟨by rw [Nat.sub_self]; exact hn, by omega, fun k hk => ?_, fun k hk => ?_⟩
            · show _ = nI (if n ≤ k ∧ k < n + (m - m) then sp_bt w (m - 1 - (k - n)) else tp k)
              rw [if_neg (by omega)]; exact htp k hk
            · dsimp only
              rw [if_neg (by omega)]; exact ht8 k hk
          · refine kx_bipush (pc := 59) C (v := -3) dX8_type_59 (by decide) ?_
            exact hR dX8_type_61 rfl ⟨by rw [sp_type, kx_n, kx_n_nI hm2, if_pos ⟨cm, hby⟩, if_pos c56], by rw [sp_typeN, sp_typeT, kx_n, kx_n_nI hm2, if_neg (fun z => by have := z.2; omega), if_neg (fun z => by have := z.2; omega)]; exact hTP, fun d j _ _ => rfl⟩
        · omega
      | succ q ih =>
        intro k hq hk hb
        have hlt := sp_bt_lt w k
        have bad : ¬ (32 ≤ sp_bt w k ∧ sp_bt w k ≤ 126) → ¬ sp_bytes w m = true := fun z y => z (by have := sp_all_iff.mp y k (by omega); simpa using this)
        refine kx_ild4 (pc := 15) C dX8_type_15 ?_
        refine kx_ild3 (pc := 17) C dX8_type_17 ?_
        refine kx_icmp_geN (pc := 18) C 45 (by omega) (by omega) dX8_type_18 (by decide) (fun c18 => ?_) (fun c18 => ?_)
        · omega
        · refine kx_lld1 (pc := 21) C dX8_type_21 ?_
          refine kx_ild4 (pc := 22) C dX8_type_22 ?_
          refine kx_callSI2 (pc := 24) C cs_X8_79 (m_X8_byteOf (by omega)) (by decide) dX8_type_24 (Nat.le_of_ble_eq_true rfl) (fun r24 h24 q24 => ?_)
          obtain ⟨z24, rfl⟩ := q24
          have z24 := z24.symm
          subst z24
          refine kx_bipush (pc := 27) C (v := nI 32) dX8_type_27 (by decide) ?_
          refine kx_bipush (pc := 29) C (v := nI 126) dX8_type_29 (by decide) ?_
          refine kx_callSI3 (pc := 31) C cs_X8_75 (m_X8_isWithin _ _ _) (by decide) dX8_type_31 (Nat.le_of_ble_eq_true rfl) (fun r31 h31 q31 => ?_)
          obtain ⟨z31, rfl⟩ := q31
          have z31 := z31.symm
          subst z31
          refine kx_if_ne (pc := 34) C 39 dX8_type_34 (by decide) (fun c34 => ?_) (fun c34 => ?_)
          · have c34 := kx_if1 c34
            rw [show (nI 32).toInt = 32 from rfl, show (nI 126).toInt = 126 from rfl] at c34
            rw [kx_T (by omega)] at c34
            first | refine kx_inc4 (pc := 39) C (v := nI (_ + 1)) dX8_type_39 (by decide) rfl (nI_1 _) ?_ | refine kx_inc4 (pc := 39) C dX8_type_39 (by decide) rfl rfl ?_
            refine kx_goto (pc := 42) C 15 dX8_type_42 (by decide) ?_
            exact ih (k + 1) (by omega) (by omega) (fun i hi => by
              rcases Nat.lt_or_ge i k with y | y
              · exact hb i y
              · rw [show i = k by omega]; exact decide_eq_true (by omega))
          · have c34 := kx_if0 c34
            rw [show (nI 32).toInt = 32 from rfl, show (nI 126).toInt = 126 from rfl] at c34
            rw [kx_T (by omega)] at c34
            refine kx_iconst (pc := 37) C (v := -1) dX8_type_37 (by decide) ?_
            exact hR dX8_type_38 rfl ⟨by rw [sp_type, kx_n, kx_n_nI hm2, if_neg (fun z => bad (by omega) z.2)], by rw [sp_typeN, sp_typeT, kx_n, kx_n_nI hm2, if_neg (fun z => bad (by omega) z.1.2), if_neg (fun z => bad (by omega) z.1.2)]; exact hTP, fun d j _ _ => rfl⟩
    refine kx_iconst (pc := 12) C (v := nI 0) dX8_type_12 (by decide) ?_
    refine kx_ist4 (pc := 13) C dX8_type_13 (by decide) rfl ?_
    exact chk m 0 (by omega) (by omega) (fun i hi => absurd hi (by omega))
  refine kx_ild3 (pc := 0) C dX8_type_0 ?_
  refine kx_iconst (pc := 1) C (v := nI 1) dX8_type_1 (by decide) ?_
  refine kx_bipush (pc := 2) C (v := nI 8) dX8_type_2 (by decide) ?_
  refine kx_callSI3 (pc := 4) C cs_X8_75 (m_X8_isWithin _ _ _) (by decide) dX8_type_4 (Nat.le_of_ble_eq_true rfl) (fun r4 h4 q4 => ?_)
  obtain ⟨z4, rfl⟩ := q4
  have z4 := z4.symm
  subst z4
  refine kx_if_ne (pc := 7) C 12 dX8_type_7 (by decide) (fun c7 => ?_) (fun c7 => ?_)
  · have c7 := kx_if1 c7
    rw [show (nI 1).toInt = 1 from rfl, show (nI 8).toInt = 8 from rfl] at c7
    obtain ⟨m, rfl, hm, hm2⟩ := kx_nat (x := v) (by omega)
    exact part m (by omega) (by omega) rfl
  · refine kx_iconst (pc := 10) C (v := -1) dX8_type_10 (by decide) ?_
    have c7 := kx_if0 c7
    rw [show (nI 1).toInt = 1 from rfl, show (nI 8).toInt = 8 from rfl] at c7
    exact hR dX8_type_11 rfl ⟨by rw [sp_type, if_neg (fun z => c7 z.1)], by rw [sp_typeN, sp_typeT, if_neg (fun z => c7 z.1.1), if_neg (fun z => c7 z.1.1)]; exact hTP, fun d j _ _ => rfl⟩
/-- a tale that comes -/
def sp_add (a : Nat → Nat) (f : Nat → Nat) (n : Nat) : Nat → Nat := fun k => if k = 0 then a 0 + 1 else if k = 81 + a 0 then n else if 9 + 9 * a 0 ≤ k ∧ k < 9 + 9 * a 0 + n then f (k - (9 + 9 * a 0)) else a k
def sp_good (tp : Nat → Nat) (n : Nat) : Prop := sp_fst (sp_bad tp) n = n ∧ 0 < sp_nd tp n
def sp_tale (a : Nat → Nat) (n : Nat) (tp : Nat → Nat) : Int32 := if sp_fst (sp_bad tp) n = n ∧ 0 < sp_nd tp n then (if 8 ≤ a 0 then -3 else nI (a 0)) else sp_pr tp n
def sp_taleA (a : Nat → Nat) (n : Nat) (tp : Nat → Nat) : Nat → Nat := if (sp_fst (sp_bad tp) n = n ∧ 0 < sp_nd tp n) ∧ a 0 < 8 then sp_add a (sp_wr tp n) (sp_nd tp n) else a
theorem sp_pr_neg {tp : Nat → Nat} {n : Nat} (hn : n ≤ 24) (h : ¬ (sp_fst (sp_bad tp) n = n ∧ 0 < sp_nd tp n)) : (sp_pr tp n).toInt < 0 := by
  have hl := sp_fst_le (sp_bad tp) n
  have e20 : (-20 : Int32).toInt = -20 := rfl
  unfold sp_pr
  split
  · rw [kx_Tsub (by rw [e20, kx_T (by omega)]; omega) (by rw [e20, kx_T (by omega)]; omega), e20, kx_T (by omega)]; omega
  · split
    · rw [kx_Tsub (by rw [e20, kx_T (by omega)]; omega) (by rw [e20, kx_T (by omega)]; omega), e20, kx_T (by omega)]; omega
    · omega
theorem sp_pr_good {tp : Nat → Nat} {n : Nat} (h : sp_fst (sp_bad tp) n = n ∧ 0 < sp_nd tp n) : sp_pr tp n = nI (sp_nd tp n) := by
  unfold sp_pr
  rw [if_neg (by omega), if_neg (by omega)]
theorem sp_good_le {tp : Nat → Nat} {n : Nat} (h : sp_fst (sp_bad tp) n = n) : sp_nd tp n ≤ 9 := sp_nd_le (fun i hi => sp_fst_no (n := n) (by omega))
theorem st_CH.add {h : kx_H} {a : Nat → Nat} (hC : st_CH h a) {f : Nat → Nat} {n : Nat} (ha : a 0 < 8) (hn : n ≤ 9) (hf : ∀ j, j < n → h 56 j = nI (f j)) : st_CH (kx_up (kx_up (kx_cp h 56 (4 + a 0) 0 0 n) 2 (a 0) (nI n)) 1 0 (nI (a 0 + 1))) (sp_add a f n) := by
  refine st_CH.of (fun d j k hp => ?_) (hC.2.2.2.2.kept (fun j hj => by simp only [kx_up, kx_cp]; rw [if_neg (by omega), if_neg (by omega), if_neg (by omega)]) (fun k h1 h2 => by unfold sp_add; rw [if_neg (by omega), if_neg (by omega), if_neg (by omega)]))
  have h0 := hC.at hp
  unfold sp_add
  by_cases z1 : k = 0
  · have : d = 1 ∧ j = 0 := by unfold st_pos at hp; omega
    rw [if_pos z1, kx_up, if_pos this]
  · have : ¬ (d = 1 ∧ j = 0) := by unfold st_pos at hp; omega
    rw [if_neg z1, kx_up, if_neg this]
    by_cases z2 : k = 81 + a 0
    · have : d = 2 ∧ j = a 0 := by unfold st_pos at hp; omega
      rw [if_pos z2, kx_up, if_pos this]
    · have : ¬ (d = 2 ∧ j = a 0) := by unfold st_pos at hp; omega
      rw [if_neg z2, kx_up, if_neg this]
      by_cases z3 : 9 + 9 * a 0 ≤ k ∧ k < 9 + 9 * a 0 + n
      · have : d = 4 + a 0 ∧ j = k - (9 + 9 * a 0) := by unfold st_pos at hp; omega
        rw [if_pos z3, kx_cp, if_pos (by omega), ← this.2, show 0 + (j - 0) = j by omega]
        exact hf j (by omega)
      · have : ¬ (d = 4 + a 0 ∧ 0 ≤ j ∧ j < 0 + n) := by unfold st_pos at hp; omega
        rw [if_neg z3, kx_cp, if_neg this]
        exact h0
set_option maxHeartbeats 4000000 in
set_option maxRecDepth 100000 in
theorem m_X8_tale {h : kx_H} {a : Nat → Nat} {n : Nat} {tp : Nat → Nat} (hC : st_CH h a) (hB : st_B a) (hTP : st_TP h n tp) : kx_MI 3 yX8_tale cX8_tale 2 .int [.ref 0] h (fun r h1 => r = sp_tale a n tp ∧ st_CH h1 (sp_taleA a n tp) ∧ st_TP h1 0 tp ∧ ∀ d j, (d < 1 ∨ 23 ≤ d) → d ≠ 45 → d ≠ 56 → h1 d j = h d j) := by
  refine kx_mkI (own := RX8) (L0 := [some (.ref 0), none]) rfl (by decide +kernel) (Nat.le_of_ble_eq_true rfl) rfl (fun F C hR => ?_)
  obtain ⟨hn, hn24, htp, ht8⟩ := id hTP
  have b0 := hB.1.1
  refine kx_ald0 (pc := 0) C dX8_tale_0 ?_
  refine kx_getr (pc := 1) C fl_X8_22 fd_0_3 dX8_tale_1 ?_
  refine kx_ald0 (pc := 4) C dX8_tale_4 ?_
  refine kx_getr (pc := 5) C fl_X8_32 fd_0_5 dX8_tale_5 ?_
  refine kx_callVI1 (pc := 8) C cs_X8_91 ob_45 (m_X7_parseInto hn hn24 htp ht8) (by decide) dX8_tale_8 (Nat.le_of_ble_eq_true rfl) (fun r8 h8 q8 => ?_)
  obtain ⟨rfl, k1, k2⟩ := q8
  have hC2 : st_CH h8 a := kx_frame2 hC (fun d j hd => k2 d j (by omega))
  have hC3 : st_CH (kx_up h8 45 1 (nI 0)) a := kx_frame2 hC2 (fun d j hd => by rw [kx_up, if_neg (by omega)])
  have hT3 := hC3.1.1
  refine kx_ist1 (pc := 11) C dX8_tale_11 (by decide) rfl ?_
  refine kx_ald0 (pc := 12) C dX8_tale_12 ?_
  refine kx_getr (pc := 13) C fl_X8_22 fd_0_3 dX8_tale_13 ?_
  refine kx_iconst (pc := 16) C (v := nI 0) dX8_tale_16 (by decide) ?_
  refine kx_puti (pc := 17) C fl_X8_83 fp_X7_1 fd_45_1 rfl rfl dX8_tale_17 ?_
  refine kx_ild1 (pc := 20) C dX8_tale_20 ?_
  refine kx_if_geI (pc := 21) C 26 dX8_tale_21 (by decide) (fun c21 => ?_) (fun c21 => ?_)
  · by_cases good : sp_fst (sp_bad tp) n = n ∧ 0 < sp_nd tp n
    case neg => exact absurd (sp_pr_neg hn24 good) (by omega)
    have h9 := sp_good_le good.1
    rw [sp_pr_good good]
    refine kx_ald0 (pc := 26) C dX8_tale_26 ?_
    refine kx_getr (pc := 27) C fl_X8_10 fd_0_0 dX8_tale_27 ?_
    refine kx_geti (pc := 30) C fl_X8_95 fd_1_0 (by first | assumption | rfl) dX8_tale_30 ?_
    refine kx_bipush (pc := 33) C (v := nI 8) dX8_tale_33 (by decide) ?_
    refine kx_icmp_ltN (pc := 35) C 43 (by omega) (by omega) dX8_tale_35 (by decide) (fun c35 => ?_) (fun c35 => ?_)
    · refine kx_ald0 (pc := 43) C dX8_tale_43 ?_
      refine kx_getr (pc := 44) C fl_X8_10 fd_0_0 dX8_tale_44 ?_
      refine kx_ald0 (pc := 47) C dX8_tale_47 ?_
      refine kx_getr (pc := 48) C fl_X8_32 fd_0_5 dX8_tale_48 ?_
      refine kx_ild1 (pc := 51) C dX8_tale_51 ?_
      refine kx_callVI2 (pc := 52) C cs_X8_98 ob_1 (m_X2_addTale hT3 (by omega) (by omega)) (by decide) dX8_tale_52 (Nat.le_of_ble_eq_true rfl) (fun r52 h52 q52 => ?_)
      obtain ⟨rfl, rfl⟩ := q52
      first
        | exact hR dX8_tale_55 rfl ⟨by rw [sp_tale, if_pos good, if_pos (by omega)], by rw [sp_taleA, if_neg (fun z => by have := z.2; omega)]; exact hC3, ⟨by simp [kx_up], by omega, fun k hk => by rw [kx_up, if_neg (by omega), k2 46 k (by omega)]; exact htp k hk, ht8⟩, fun d j h1 h2 h3 => by rw [kx_up, if_neg (by omega)]; exact k2 d j h3⟩
        | (refine hR dX8_tale_55 rfl ⟨by rw [sp_tale, if_pos good, if_neg (by omega)], ?_, ⟨?_, by omega, fun k hk => ?_, ht8⟩, fun d j h1 h2 h3 => ?_⟩
           · rw [sp_taleA, if_pos ⟨good, c35⟩]
             exact hC3.add c35 (by omega) (fun j hj => by rw [kx_up, if_neg (by omega)]; exact k1 good.1 j hj)
           · rw [kx_up, if_neg (by omega), kx_up, if_neg (by omega), kx_cp, if_neg (by omega)]
             simp [kx_up]
           · rw [kx_up, if_neg (by omega), kx_up, if_neg (by omega), kx_cp, if_neg (by omega), kx_up, if_neg (by omega), k2 46 k (by omega)]
             exact htp k hk
           · rw [kx_up, if_neg (by omega), kx_up, if_neg (by omega), kx_cp, if_neg (by omega), kx_up, if_neg (by omega)]
             exact k2 d j h3)
    · refine kx_bipush (pc := 38) C (v := -3) dX8_tale_38 (by decide) ?_
      refine kx_goto (pc := 40) C 55 dX8_tale_40 (by decide) ?_
      first
        | exact hR dX8_tale_55 rfl ⟨by rw [sp_tale, if_pos good, if_pos (by omega)], by rw [sp_taleA, if_neg (fun z => by have := z.2; omega)]; exact hC3, ⟨by simp [kx_up], by omega, fun k hk => by rw [kx_up, if_neg (by omega), k2 46 k (by omega)]; exact htp k hk, ht8⟩, fun d j h1 h2 h3 => by rw [kx_up, if_neg (by omega)]; exact k2 d j h3⟩
        | (refine hR dX8_tale_55 rfl ⟨by rw [sp_tale, if_pos good, if_neg (by omega)], ?_, ⟨?_, by omega, fun k hk => ?_, ht8⟩, fun d j h1 h2 h3 => ?_⟩
           · rw [sp_taleA, if_pos ⟨good, c35⟩]
             exact hC3.add c35 (by omega) (fun j hj => by rw [kx_up, if_neg (by omega)]; exact k1 good.1 j hj)
           · rw [kx_up, if_neg (by omega), kx_up, if_neg (by omega), kx_cp, if_neg (by omega)]
             simp [kx_up]
           · rw [kx_up, if_neg (by omega), kx_up, if_neg (by omega), kx_cp, if_neg (by omega), kx_up, if_neg (by omega), k2 46 k (by omega)]
             exact htp k hk
           · rw [kx_up, if_neg (by omega), kx_up, if_neg (by omega), kx_cp, if_neg (by omega), kx_up, if_neg (by omega)]
             exact k2 d j h3)
  · have ng : ¬ (sp_fst (sp_bad tp) n = n ∧ 0 < sp_nd tp n) := fun z => by
      have := sp_good_le z.1
      rw [sp_pr_good z, kx_T (by omega)] at c21
      omega
    refine kx_ild1 (pc := 24) C dX8_tale_24 ?_
    exact hR dX8_tale_25 rfl ⟨by rw [sp_tale, if_neg ng], by rw [sp_taleA, if_neg (fun z => ng z.1)]; exact hC3, ⟨by simp [kx_up], by omega, fun k hk => by rw [kx_up, if_neg (by omega), k2 46 k (by omega)]; exact htp k hk, ht8⟩, fun d j h1 h2 h3 => by rw [kx_up, if_neg (by omega)]; exact k2 d j h3⟩
