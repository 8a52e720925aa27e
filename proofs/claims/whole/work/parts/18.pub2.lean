/-- where the class's hearth keeps the numbers -/
def st_pos (d j k : Nat) : Prop := (d = 1 ∧ j < 4 ∧ k = j) ∨ (d = 1 ∧ j = 4 ∧ k = 8) ∨ (d = 2 ∧ j < 8 ∧ k = 81 + j) ∨ (4 ≤ d ∧ d < 12 ∧ j < 9 ∧ k = 9 + 9 * (d - 4) + j) ∨ (d = 12 ∧ j < 4 ∧ k = 89 + j) ∨ (14 ≤ d ∧ d < 18 ∧ j < 4 ∧ k = 93 + 4 * (d - 14) + j) ∨ (19 ≤ d ∧ d < 23 ∧ j < 8 ∧ k = 109 + 8 * (d - 19) + j)
theorem st_CH.at {h : kx_H} {a : Nat → Nat} (hC : st_CH h a) {d j k : Nat} (hp : st_pos d j k) : h d j = nI (a k) := by
  obtain ⟨⟨hT, hE, hS, hev, hme⟩, ⟨hlen, hten, hkd⟩, hYD, hHD, hBR⟩ := hC
  rcases hp with ⟨rfl, hj, rfl⟩ | ⟨rfl, rfl, rfl⟩ | ⟨rfl, hj, rfl⟩ | ⟨h1, h2, hj, rfl⟩ | ⟨rfl, hj, rfl⟩ | ⟨h1, h2, hj, rfl⟩ | ⟨h1, h2, hj, rfl⟩
  · rcases (show k = 0 ∨ k = 1 ∨ k = 2 ∨ k = 3 by omega) with rfl | rfl | rfl | rfl
    · exact hT
    · exact hE
    · exact hS
    · exact hev
  · exact hme
  · exact hlen j hj
  · have := hten (d - 4) j (by omega) hj
    rwa [show 4 + (d - 4) = d by omega] at this
  · exact hkd j hj
  · have := hYD (d - 14) j (by omega) hj
    rwa [show 14 + (d - 14) = d by omega] at this
  · have := hHD (d - 19) j (by omega) hj
    rwa [show 19 + (d - 19) = d by omega] at this
theorem st_CH.of {h : kx_H} {a : Nat → Nat} (hp : ∀ d j k, st_pos d j k → h d j = nI (a k)) (hb : st_BR 1 h a) : st_CH h a := by
  refine ⟨⟨hp 1 0 0 (Or.inl (by omega)), hp 1 1 1 (Or.inl (by omega)), hp 1 2 2 (Or.inl (by omega)), hp 1 3 3 (Or.inl (by omega)), hp 1 4 8 (Or.inr (Or.inl (by omega)))⟩, ⟨fun t ht => hp _ _ _ (Or.inr (Or.inr (Or.inl (by omega)))), fun t i ht hi => hp _ _ _ (Or.inr (Or.inr (Or.inr (Or.inl (by omega))))), fun e he => hp _ _ _ (Or.inr (Or.inr (Or.inr (Or.inr (Or.inl (by omega))))))⟩, fun s k hs hk => hp _ _ _ (Or.inr (Or.inr (Or.inr (Or.inr (Or.inr (Or.inl (by omega))))))), fun s t hs ht => hp _ _ _ (Or.inr (Or.inr (Or.inr (Or.inr (Or.inr (Or.inr (by omega))))))), hb⟩
theorem st_pos_k {d j k : Nat} (h : st_pos d j k) : k ≠ 4 ∧ k ≠ 5 ∧ k ≠ 6 ∧ k ≠ 7 := by unfold st_pos at h; omega
theorem st_pos_d {d j k : Nat} (h : st_pos d j k) : ¬ (d = 1 ∧ 10 ≤ j) := by unfold st_pos at h; omega
theorem st_pos_inj {d j k d2 j2 k2 : Nat} (h : st_pos d j k) (h2 : st_pos d2 j2 k2) : (d = d2 ∧ j = j2) ↔ k = k2 := by
  unfold st_pos at h h2
  rcases h with h | h | h | h | h | h | h <;> rcases h2 with h2 | h2 | h2 | h2 | h2 | h2 | h2 <;> omega
theorem st_BR.kept {h g : kx_H} {a b : Nat → Nat} (hb : st_BR 1 h a) (h1 : ∀ j, 10 ≤ j → g 1 j = h 1 j) (h2 : ∀ k, 4 ≤ k → k ≤ 7 → b k = a k) : st_BR 1 g b := by
  unfold st_BR
  rw [h2 4 (by omega) (by omega), h2 5 (by omega) (by omega), h2 6 (by omega) (by omega), h2 7 (by omega) (by omega), h1 10 (by omega), h1 11 (by omega), h1 12 (by omega), h1 13 (by omega)]
  exact hb
theorem st_CH.up1 {h : kx_H} {a : Nat → Nat} (hC : st_CH h a) {d j k v : Nat} (hp : st_pos d j k) : st_CH (kx_up h d j (nI v)) (up a k v) := by
  refine st_CH.of (fun d2 j2 k2 hp2 => ?_) (hC.2.2.2.2.kept (fun q hq => by rw [kx_up, if_neg (by have := st_pos_d hp; omega)]) (fun q h1 h2 => up_o (by have := st_pos_k hp; omega)))
  have hi := st_pos_inj hp2 hp
  by_cases z : k2 = k
  · rw [kx_up, if_pos (hi.mpr z), z, up_s]
  · rw [kx_up, if_neg (fun y => z (hi.mp y)), up_o z]
    exact hC.at hp2
set_option maxHeartbeats 4000000 in
set_option maxRecDepth 100000 in
theorem m_X8_teller {h : kx_H} {a : Nat → Nat} (k : Int32) (hC : st_CH h a) (hB : st_B a) : kx_MI 2 yX8_teller cX8_teller 2 .int [.ref 0, .int k] h (fun r h1 => r = sp_teller a k ∧ st_CH h1 (sp_tellerA a k) ∧ ∀ d j, (d < 1 ∨ 23 ≤ d) → h1 d j = h d j) := by
  refine kx_mkI (own := RX8) (L0 := [some (.ref 0), some (.int k)]) rfl (by decide +kernel) (Nat.le_of_ble_eq_true rfl) rfl (fun F C hR => ?_)
  obtain ⟨⟨hT, hE, hS, hev, hme⟩, ⟨hlen, hten, hkd⟩, hYD, hHD, hBR⟩ := id hC
  obtain ⟨⟨b0, b1, b2, b3, b8, b8'⟩, hRB, bl, byy, bh, bz, bb⟩ := id hB
  have hl9 := hRB.1
  refine kx_ild1 (pc := 0) C dX8_teller_0 ?_
  refine kx_iconst (pc := 1) C (v := nI 0) dX8_teller_1 (by decide) ?_
  refine kx_iconst (pc := 2) C (v := nI 3) dX8_teller_2 (by decide) ?_
  refine kx_callSI3 (pc := 3) C cs_X8_75 (m_X8_isWithin _ _ _) (by decide) dX8_teller_3 (Nat.le_of_ble_eq_true rfl) (fun r3 h3 q3 => ?_)
  obtain ⟨z3, rfl⟩ := q3
  have z3 := z3.symm
  subst z3
  refine kx_if_ne (pc := 6) C 11 dX8_teller_6 (by decide) (fun c6 => ?_) (fun c6 => ?_)
  · have c6 := kx_if1 c6
    rw [show (nI 0).toInt = 0 from rfl, show (nI 3).toInt = 3 from rfl] at c6
    obtain ⟨m, rfl, hm, hm2⟩ := kx_nat c6.1
    refine kx_ald0 (pc := 11) C dX8_teller_11 ?_
    refine kx_getr (pc := 12) C fl_X8_10 fd_0_0 dX8_teller_12 ?_
    refine kx_geti (pc := 15) C fl_X8_113 fd_1_1 (by first | assumption | exact hlen _ (by omega) | exact hten _ _ (by omega) (by omega) | exact hkd _ (by omega) | exact hYD _ _ (by omega) (by omega) | exact hHD _ _ (by omega) (by omega) | rfl) dX8_teller_15 ?_
    refine kx_iconst (pc := 18) C (v := nI 4) dX8_teller_18 (by decide) ?_
    refine kx_icmp_ltN (pc := 19) C 25 (by omega) (by omega) dX8_teller_19 (by decide) (fun c19 => ?_) (fun c19 => ?_)
    · refine kx_ald0 (pc := 25) C dX8_teller_25 ?_
      refine kx_getr (pc := 26) C fl_X8_10 fd_0_0 dX8_teller_26 ?_
      refine kx_getr (pc := 29) C fl_X8_116 fd_1_7 dX8_teller_29 ?_
      refine kx_ald0 (pc := 32) C dX8_teller_32 ?_
      refine kx_getr (pc := 33) C fl_X8_10 fd_0_0 dX8_teller_33 ?_
      refine kx_geti (pc := 36) C fl_X8_113 fd_1_1 (by first | assumption | exact hlen _ (by omega) | exact hten _ _ (by omega) (by omega) | exact hkd _ (by omega) | exact hYD _ _ (by omega) (by omega) | exact hHD _ _ (by omega) (by omega) | rfl) dX8_teller_36 ?_
      refine kx_ild1 (pc := 39) C dX8_teller_39 ?_
      refine kx_iast (pc := 40) C ia_12 (by omega) dX8_teller_40 ?_
      have e40 : kx_up h 12 (a 1) (nI m) 1 1 = nI (a 1) := by rw [kx_up, if_neg (by omega)]; exact hE
      refine kx_ald0 (pc := 41) C dX8_teller_41 ?_
      refine kx_getr (pc := 42) C fl_X8_10 fd_0_0 dX8_teller_42 ?_
      refine kx_dup (pc := 45) C dX8_teller_45 rfl ?_
      refine kx_geti (pc := 46) C fl_X8_113 fd_1_1 (by first | assumption | exact hlen _ (by omega) | exact hten _ _ (by omega) (by omega) | exact hkd _ (by omega) | exact hYD _ _ (by omega) (by omega) | exact hHD _ _ (by omega) (by omega) | rfl) dX8_teller_46 ?_
      refine kx_dup_x1 (pc := 49) C dX8_teller_49 rfl rfl ?_
      refine kx_iconst (pc := 50) C (v := nI 1) dX8_teller_50 (by decide) ?_
      first | refine kx_iaddN (pc := 51) C dX8_teller_51 ?_ | refine kx_iadd (pc := 51) C dX8_teller_51 ?_
      refine kx_puti (pc := 52) C fl_X8_113 fp_X2_1 fd_1_1 rfl rfl dX8_teller_52 ?_
      exact hR dX8_teller_55 rfl ⟨by rw [sp_teller, if_pos (by omega), if_neg (by omega)], by rw [sp_tellerA, if_pos (by omega), kx_n, kx_n_nI hm2]; exact (hC.up1 (by unfold st_pos; omega)).up1 (by unfold st_pos; omega), fun d j hd => by rw [kx_up, if_neg (by omega), kx_up, if_neg (by omega)]⟩
    · refine kx_bipush (pc := 22) C (v := -3) dX8_teller_22 (by decide) ?_
      exact hR dX8_teller_24 rfl ⟨by rw [sp_teller, if_pos (by omega), if_pos c19], by rw [sp_tellerA, if_neg (by omega)]; exact hC, fun d j _ => rfl⟩
  · refine kx_iconst (pc := 9) C (v := -1) dX8_teller_9 (by decide) ?_
    have c6 := kx_if0 c6
    rw [show (nI 0).toInt = 0 from rfl, show (nI 3).toInt = 3 from rfl] at c6
    exact hR dX8_teller_10 rfl ⟨by rw [sp_teller, if_neg c6], by rw [sp_tellerA, if_neg (fun z => c6 z.1)]; exact hC, fun d j _ => rfl⟩
set_option maxHeartbeats 4000000 in
set_option maxRecDepth 100000 in
theorem m_X8_spinner {h : kx_H} {a : Nat → Nat}  (hC : st_CH h a) (hB : st_B a) : kx_MI 1 yX8_spinner cX8_spinner 1 .int [.ref 0] h (fun r h1 => r = sp_spinner a ∧ st_CH h1 (sp_spinnerA a) ∧ ∀ d j, (d < 1 ∨ 23 ≤ d) → h1 d j = h d j) := by
  refine kx_mkI (own := RX8) (L0 := [some (.ref 0)]) rfl (by decide +kernel) (Nat.le_of_ble_eq_true rfl) rfl (fun F C hR => ?_)
  obtain ⟨⟨hT, hE, hS, hev, hme⟩, ⟨hlen, hten, hkd⟩, hYD, hHD, hBR⟩ := id hC
  obtain ⟨⟨b0, b1, b2, b3, b8, b8'⟩, hRB, bl, byy, bh, bz, bb⟩ := id hB
  have hl9 := hRB.1
  refine kx_ald0 (pc := 0) C dX8_spinner_0 ?_
  refine kx_getr (pc := 1) C fl_X8_10 fd_0_0 dX8_spinner_1 ?_
  refine kx_geti (pc := 4) C fl_X8_119 fd_1_2 (by first | assumption | exact hlen _ (by omega) | exact hten _ _ (by omega) (by omega) | exact hkd _ (by omega) | exact hYD _ _ (by omega) (by omega) | exact hHD _ _ (by omega) (by omega) | rfl) dX8_spinner_4 ?_
  refine kx_iconst (pc := 7) C (v := nI 4) dX8_spinner_7 (by decide) ?_
  refine kx_icmp_ltN (pc := 8) C 16 (by omega) (by omega) dX8_spinner_8 (by decide) (fun c8 => ?_) (fun c8 => ?_)
  · refine kx_ald0 (pc := 16) C dX8_spinner_16 ?_
    refine kx_getr (pc := 17) C fl_X8_10 fd_0_0 dX8_spinner_17 ?_
    refine kx_dup (pc := 20) C dX8_spinner_20 rfl ?_
    refine kx_geti (pc := 21) C fl_X8_119 fd_1_2 (by first | assumption | exact hlen _ (by omega) | exact hten _ _ (by omega) (by omega) | exact hkd _ (by omega) | exact hYD _ _ (by omega) (by omega) | exact hHD _ _ (by omega) (by omega) | rfl) dX8_spinner_21 ?_
    refine kx_dup_x1 (pc := 24) C dX8_spinner_24 rfl rfl ?_
    refine kx_iconst (pc := 25) C (v := nI 1) dX8_spinner_25 (by decide) ?_
    first | refine kx_iaddN (pc := 26) C dX8_spinner_26 ?_ | refine kx_iadd (pc := 26) C dX8_spinner_26 ?_
    refine kx_puti (pc := 27) C fl_X8_119 fp_X2_2 fd_1_2 rfl rfl dX8_spinner_27 ?_
    first
      | exact hR dX8_spinner_30 rfl ⟨by rw [sp_spinner, if_pos (by omega)], by rw [sp_spinnerA, if_neg (by omega)]; exact hC, fun d j _ => rfl⟩
      | exact hR dX8_spinner_30 rfl ⟨by rw [sp_spinner, if_neg (by omega)], by rw [sp_spinnerA, if_pos (by omega)]; exact hC.up1 (by unfold st_pos; omega), fun d j hd => by rw [kx_up, if_neg (by omega)]⟩
  · refine kx_bipush (pc := 11) C (v := -3) dX8_spinner_11 (by decide) ?_
    refine kx_goto (pc := 13) C 30 dX8_spinner_13 (by decide) ?_
    first
      | exact hR dX8_spinner_30 rfl ⟨by rw [sp_spinner, if_pos (by omega)], by rw [sp_spinnerA, if_neg (by omega)]; exact hC, fun d j _ => rfl⟩
      | exact hR dX8_spinner_30 rfl ⟨by rw [sp_spinner, if_neg (by omega)], by rw [sp_spinnerA, if_pos (by omega)]; exact hC.up1 (by unfold st_pos; omega), fun d j hd => by rw [kx_up, if_neg (by omega)]⟩
set_option maxHeartbeats 4000000 in
set_option maxRecDepth 100000 in
theorem m_X8_memory {h : kx_H} {a : Nat → Nat} (v : Int32) (hC : st_CH h a) (hB : st_B a) : kx_MI 2 yX8_memory cX8_memory 3 .int [.ref 0, .int v] h (fun r h1 => r = sp_memory a v ∧ st_CH h1 (sp_memoryA a v) ∧ ∀ d j, (d < 1 ∨ 23 ≤ d) → h1 d j = h d j) := by
  refine kx_mkI (own := RX8) (L0 := [some (.ref 0), some (.int v), none]) rfl (by decide +kernel) (Nat.le_of_ble_eq_true rfl) rfl (fun F C hR => ?_)
  obtain ⟨⟨hT, hE, hS, hev, hme⟩, ⟨hlen, hten, hkd⟩, hYD, hHD, hBR⟩ := id hC
  obtain ⟨⟨b0, b1, b2, b3, b8, b8'⟩, hRB, bl, byy, bh, bz, bb⟩ := id hB
  have hl9 := hRB.1
  refine kx_ild1 (pc := 0) C dX8_memory_0 ?_
  refine kx_iconst (pc := 1) C (v := nI 1) dX8_memory_1 (by decide) ?_
  refine kx_bipush (pc := 2) C (v := nI 99) dX8_memory_2 (by decide) ?_
  refine kx_callSI3 (pc := 4) C cs_X8_75 (m_X8_isWithin _ _ _) (by decide) dX8_memory_4 (Nat.le_of_ble_eq_true rfl) (fun r4 h4 q4 => ?_)
  obtain ⟨z4, rfl⟩ := q4
  have z4 := z4.symm
  subst z4
  refine kx_if_ne (pc := 7) C 12 dX8_memory_7 (by decide) (fun c7 => ?_) (fun c7 => ?_)
  · have c7 := kx_if1 c7
    rw [show (nI 1).toInt = 1 from rfl, show (nI 99).toInt = 99 from rfl] at c7
    obtain ⟨m, rfl, hm, hm2⟩ := kx_nat (x := v) (by omega)
    refine kx_ald0 (pc := 12) C dX8_memory_12 ?_
    refine kx_getr (pc := 13) C fl_X8_10 fd_0_0 dX8_memory_13 ?_
    refine kx_geti (pc := 16) C fl_X8_122 fd_1_4 (by first | assumption | exact hlen _ (by omega) | exact hten _ _ (by omega) (by omega) | exact hkd _ (by omega) | exact hYD _ _ (by omega) (by omega) | exact hHD _ _ (by omega) (by omega) | rfl) dX8_memory_16 ?_
    refine kx_ist2 (pc := 19) C dX8_memory_19 (by decide) rfl ?_
    refine kx_ald0 (pc := 20) C dX8_memory_20 ?_
    refine kx_getr (pc := 21) C fl_X8_10 fd_0_0 dX8_memory_21 ?_
    refine kx_ild1 (pc := 24) C dX8_memory_24 ?_
    refine kx_puti (pc := 25) C fl_X8_122 fp_X2_4 fd_1_4 rfl rfl dX8_memory_25 ?_
    refine kx_ild2 (pc := 28) C dX8_memory_28 ?_
    exact hR dX8_memory_29 rfl ⟨by rw [sp_memory, if_pos c7], by rw [sp_memoryA, if_pos c7, kx_n, kx_n_nI hm2]; exact hC.up1 (by unfold st_pos; omega), fun d j hd => by rw [kx_up, if_neg (by omega)]⟩
  · refine kx_iconst (pc := 10) C (v := -1) dX8_memory_10 (by decide) ?_
    have c7 := kx_if0 c7
    rw [show (nI 1).toInt = 1 from rfl, show (nI 99).toInt = 99 from rfl] at c7
    exact hR dX8_memory_11 rfl ⟨by rw [sp_memory, if_neg c7], by rw [sp_memoryA, if_neg c7]; exact hC, fun d j _ => rfl⟩
theorem st_BR.eq {h : kx_H} {a : Nat → Nat} (hb : st_BR 1 h a) (hB : st_B a) {j : Nat} (hj : j < 2 ^ 31) : h 1 10 = nI j ↔ a 4 = j + 1 := by
  rcases hb with ⟨z, q⟩ | ⟨z, q, -⟩
  · rw [q]
    exact ⟨fun y => absurd y.symm (kx_m1 hj), fun y => by omega⟩
  · have := hB.2.2.2.2.2.2 z
    have b0 := hB.1.1
    rw [q, nI_eq (by omega) hj]
    omega
set_option maxHeartbeats 4000000 in
set_option maxRecDepth 100000 in
theorem m_X8_change {h : kx_H} {a : Nat → Nat} (t i v : Int32) (hC : st_CH h a) (hB : st_B a) : kx_MI 4 yX8_change cX8_change 5 .int [.ref 0, .int t, .int i, .int v] h (fun r h1 => r = sp_change a t i v ∧ st_CH h1 (sp_changeA a t i v) ∧ ∀ d j, (d < 1 ∨ 23 ≤ d) → h1 d j = h d j) := by
  refine kx_mkI (own := RX8) (L0 := [some (.ref 0), some (.int t), some (.int i), some (.int v), none]) rfl (by decide +kernel) (Nat.le_of_ble_eq_true rfl) rfl (fun F C hR => ?_)
  obtain ⟨⟨hT, hE, hS, hev, hme⟩, ⟨hlen, hten, hkd⟩, hYD, hHD, hBR⟩ := id hC
  obtain ⟨⟨b0, b1, b2, b3, b8, b8'⟩, hRB, bl, byy, bh, bz, bb⟩ := id hB
  have hl9 := hRB.1
  refine kx_ald0 (pc := 0) C dX8_change_0 ?_
  refine kx_getr (pc := 1) C fl_X8_10 fd_0_0 dX8_change_1 ?_
  refine kx_ild1 (pc := 4) C dX8_change_4 ?_
  refine kx_ild2 (pc := 5) C dX8_change_5 ?_
  refine kx_callVI2 (pc := 6) C cs_X8_102 ob_1 (m_X2_hasSentence _ _ (by assumption) (by omega) hlen hl9) (by decide) dX8_change_6 (Nat.le_of_ble_eq_true rfl) (fun r6 h6 q6 => ?_)
  obtain ⟨z6, rfl⟩ := q6
  have z6 := z6.symm
  subst z6
  refine kx_if_eq (pc := 9) C 22 dX8_change_9 (by decide) (fun c9 => ?_) (fun c9 => ?_)
  · refine kx_iconst (pc := 22) C (v := -1) dX8_change_22 (by decide) ?_
    have nc : ¬ (((0 ≤ t.toInt ∧ t.toInt < (a 0 : Int)) ∧ 0 ≤ i.toInt ∧ i.toInt < (a (81 + kx_n t) : Int)) ∧ 0 ≤ v.toInt ∧ v.toInt ≤ 9) := fun z => by
      first
        | (have c19 := kx_if0 c19
           rw [show (nI 0).toInt = 0 from rfl, show (nI 9).toInt = 9 from rfl] at c19
           exact c19 z.2)
        | exact kx_if0 c9 z.1
    exact hR dX8_change_23 rfl ⟨by rw [sp_change, if_neg nc], by rw [sp_changeA, if_neg (fun z => nc z.1)]; exact hC, fun d j _ => rfl⟩
  · refine kx_ild3 (pc := 12) C dX8_change_12 ?_
    refine kx_iconst (pc := 13) C (v := nI 0) dX8_change_13 (by decide) ?_
    refine kx_bipush (pc := 14) C (v := nI 9) dX8_change_14 (by decide) ?_
    refine kx_callSI3 (pc := 16) C cs_X8_75 (m_X8_isWithin _ _ _) (by decide) dX8_change_16 (Nat.le_of_ble_eq_true rfl) (fun r16 h16 q16 => ?_)
    obtain ⟨z16, rfl⟩ := q16
    have z16 := z16.symm
    subst z16
    refine kx_if_ne (pc := 19) C 24 dX8_change_19 (by decide) (fun c19 => ?_) (fun c19 => ?_)
    · have c9 := kx_if1 c9
      have c19 := kx_if1 c19
      rw [show (nI 0).toInt = 0 from rfl, show (nI 9).toInt = 9 from rfl] at c19
      obtain ⟨j, rfl, hj, hj2⟩ := kx_nat c9.1.1
      obtain ⟨k, rfl, hk, hk2⟩ := kx_nat c9.2.1
      obtain ⟨m, rfl, hm, hm2⟩ := kx_nat c19.1
      rw [kx_n_nI hj2] at c9
      have l1 := hl9 j (by omega)
      have hbe := hBR.eq hB hj2
      refine kx_ald0 (pc := 24) C dX8_change_24 ?_
      refine kx_getr (pc := 25) C fl_X8_10 fd_0_0 dX8_change_25 ?_
      refine kx_geti (pc := 28) C fl_X8_106 fd_1_10 rfl dX8_change_28 ?_
      refine kx_ild1 (pc := 31) C dX8_change_31 ?_
      refine kx_icmp_ne (pc := 32) C 38 dX8_change_32 (by decide) (fun c32 => ?_) (fun c32 => ?_)
      · refine kx_ald0 (pc := 38) C dX8_change_38 ?_
        refine kx_getr (pc := 39) C fl_X8_10 fd_0_0 dX8_change_39 ?_
        refine kx_getr (pc := 42) C fl_X8_109 fd_1_6 dX8_change_42 ?_
        refine kx_ild1 (pc := 45) C dX8_change_45 ?_
        refine kx_aald1 (pc := 46) C ra_3 (by omega) dX8_change_46 ?_
        refine kx_ild2 (pc := 47) C dX8_change_47 ?_
        refine kx_iald (pc := 48) C (if_ten _ (by omega)) (by omega) (by first | assumption | exact hlen _ (by omega) | exact hten _ _ (by omega) (by omega) | exact hkd _ (by omega) | exact hYD _ _ (by omega) (by omega) | exact hHD _ _ (by omega) (by omega) | rfl) dX8_change_48 ?_
        refine kx_ist4 (pc := 49) C dX8_change_49 (by decide) rfl ?_
        refine kx_ald0 (pc := 51) C dX8_change_51 ?_
        refine kx_getr (pc := 52) C fl_X8_10 fd_0_0 dX8_change_52 ?_
        refine kx_getr (pc := 55) C fl_X8_109 fd_1_6 dX8_change_55 ?_
        refine kx_ild1 (pc := 58) C dX8_change_58 ?_
        refine kx_aald1 (pc := 59) C ra_3 (by omega) dX8_change_59 ?_
        refine kx_ild2 (pc := 60) C dX8_change_60 ?_
        refine kx_ild3 (pc := 61) C dX8_change_61 ?_
        refine kx_iast (pc := 62) C (if_ten _ (by omega)) (by omega) dX8_change_62 ?_
        refine kx_ild4 (pc := 63) C dX8_change_63 ?_
        exact hR dX8_change_65 rfl ⟨by rw [sp_change, kx_n, kx_n, kx_n_nI hj2, kx_n_nI hk2, if_pos (by omega), if_neg (fun z => c32 (hbe.mpr z))], by rw [sp_changeA, kx_n, kx_n, kx_n, kx_n_nI hj2, kx_n_nI hk2, kx_n_nI hm2, if_pos ⟨by omega, fun z => c32 (hbe.mpr z)⟩]; exact hC.up1 (by unfold st_pos; omega), fun d j hd => by rw [kx_up, if_neg (by omega)]⟩
      · refine kx_bipush (pc := 35) C (v := -2) dX8_change_35 (by decide) ?_
        exact hR dX8_change_37 rfl ⟨by rw [sp_change, kx_n, kx_n, kx_n_nI hj2, if_pos (by omega), if_pos (hbe.mp c32)], by rw [sp_changeA, kx_n, kx_n, kx_n_nI hj2, if_neg (fun z => z.2 (hbe.mp c32))]; exact hC, fun d j _ => rfl⟩
    · refine kx_iconst (pc := 22) C (v := -1) dX8_change_22 (by decide) ?_
      have nc : ¬ (((0 ≤ t.toInt ∧ t.toInt < (a 0 : Int)) ∧ 0 ≤ i.toInt ∧ i.toInt < (a (81 + kx_n t) : Int)) ∧ 0 ≤ v.toInt ∧ v.toInt ≤ 9) := fun z => by
        first
          | (have c19 := kx_if0 c19
             rw [show (nI 0).toInt = 0 from rfl, show (nI 9).toInt = 9 from rfl] at c19
             exact c19 z.2)
          | exact kx_if0 c9 z.1
      exact hR dX8_change_23 rfl ⟨by rw [sp_change, if_neg nc], by rw [sp_changeA, if_neg (fun z => nc z.1)]; exact hC, fun d j _ => rfl⟩
set_option maxHeartbeats 4000000 in
set_option maxRecDepth 100000 in
theorem m_X8_mind {h : kx_H} {a : Nat → Nat} (s : Int32) (hC : st_CH h a) (hB : st_B a) : kx_MI 3 yX8_mind cX8_mind 4 .int [.ref 0, .int s] h (fun r h1 => h1 = h ∧ r = sp_mindr a s) := by
  refine kx_mkI (own := RX8) (L0 := [some (.ref 0), some (.int s), none, none]) rfl (by decide +kernel) (Nat.le_of_ble_eq_true rfl) rfl (fun F C hR => ?_)
  obtain ⟨⟨hT, hE, hS, hev, hme⟩, ⟨hlen, hten, hkd⟩, hYD, hHD, hBR⟩ := id hC
  obtain ⟨⟨b0, b1, b2, b3, b8, b8'⟩, hRB, bl, byy, bh, bz, bb⟩ := id hB
  have hl9 := hRB.1
  have loop : ∀ (s q t : Nat), (0 ≤ (nI s).toInt ∧ (nI s).toInt < (a 2 : Int)) → s < 4 → (∀ r, r = nI (sp_ms a s (a 0)) → (h = h ∧ r = sp_mindr a (nI s))) → a 0 - t = q → t ≤ a 0 → (∀ {pc : Nat} {L : List (Option Value)} {r : Int32} {h' : kx_H}, decode cX8_mind pc = .ok (.ireturn, 1) → narrow .int (.int r) = .int r → (h' = h ∧ r = sp_mindr a (nI s)) → F pc L [.int r] h') → F 17 [some (.ref 0), some (.int (nI s)), some (.int (nI (sp_ms a s t))), some (.int (nI t))] [] h := by
    intro s q
    induction q with
    | zero =>
      intro t hs hs4 hf hq ht hR
      refine kx_ild3 (pc := 17) C dX8_mind_17 ?_
      refine kx_ald0 (pc := 18) C dX8_mind_18 ?_
      refine kx_getr (pc := 19) C fl_X8_10 fd_0_0 dX8_mind_19 ?_
      refine kx_geti (pc := 22) C fl_X8_95 fd_1_0 (by first | assumption | exact hlen _ (by omega) | exact hten _ _ (by omega) (by omega) | exact hkd _ (by omega) | exact hYD _ _ (by omega) (by omega) | exact hHD _ _ (by omega) (by omega) | rfl) dX8_mind_22 ?_
      refine kx_icmp_geN (pc := 25) C 61 (by omega) (by omega) dX8_mind_25 (by decide) (fun c25 => ?_) (fun c25 => ?_)
      · refine kx_ild2 (pc := 61) C dX8_mind_61 ?_
        exact hR dX8_mind_62 rfl (hf _ (by rw [show t = a 0 by omega]))
      · omega
    | succ q ih =>
      intro t hs hs4 hf hq ht hR
      have hb2 := bh s t (by omega) (by omega)
      have hms := sp_ms_lt a s t
      have hml := sp_m_le a s t (a 3 + 1)
      refine kx_ild3 (pc := 17) C dX8_mind_17 ?_
      refine kx_ald0 (pc := 18) C dX8_mind_18 ?_
      refine kx_getr (pc := 19) C fl_X8_10 fd_0_0 dX8_mind_19 ?_
      refine kx_geti (pc := 22) C fl_X8_95 fd_1_0 (by first | assumption | exact hlen _ (by omega) | exact hten _ _ (by omega) (by omega) | exact hkd _ (by omega) | exact hYD _ _ (by omega) (by omega) | exact hHD _ _ (by omega) (by omega) | rfl) dX8_mind_22 ?_
      refine kx_icmp_geN (pc := 25) C 61 (by omega) (by omega) dX8_mind_25 (by decide) (fun c25 => ?_) (fun c25 => ?_)
      · omega
      · refine kx_ald0 (pc := 28) C dX8_mind_28 ?_
        refine kx_getr (pc := 29) C fl_X8_10 fd_0_0 dX8_mind_29 ?_
        refine kx_ild1 (pc := 32) C dX8_mind_32 ?_
        refine kx_ild3 (pc := 33) C dX8_mind_33 ?_
        refine kx_ald0 (pc := 34) C dX8_mind_34 ?_
        refine kx_getr (pc := 35) C fl_X8_10 fd_0_0 dX8_mind_35 ?_
        refine kx_geti (pc := 38) C fl_X8_148 fd_1_3 (by first | assumption | exact hlen _ (by omega) | exact hten _ _ (by omega) (by omega) | exact hkd _ (by omega) | exact hYD _ _ (by omega) (by omega) | exact hHD _ _ (by omega) (by omega) | rfl) dX8_mind_38 ?_
        refine kx_iconst (pc := 41) C (v := nI 1) dX8_mind_41 (by decide) ?_
        first | refine kx_iaddN (pc := 42) C dX8_mind_42 ?_ | refine kx_iadd (pc := 42) C dX8_mind_42 ?_
        refine kx_callVI3 (pc := 43) C cs_X8_151 ob_1 (m_X2_isInMind hme (by omega) hHD (by omega) (by omega) (by omega) (by omega)) (by decide) dX8_mind_43 (Nat.le_of_ble_eq_true rfl) (fun r43 h43 q43 => ?_)
        obtain ⟨z43, rfl⟩ := q43
        have z43 := z43.symm
        subst z43
        rw [sp_m_eq]
        refine kx_if_eqN (pc := 46) C 55 (by omega) dX8_mind_46 (by decide) (fun c46 => ?_) (fun c46 => ?_)
        · first | refine kx_inc3 (pc := 55) C (v := nI (_ + 1)) dX8_mind_55 (by decide) rfl (nI_1 _) ?_ | refine kx_inc3 (pc := 55) C dX8_mind_55 (by decide) rfl rfl ?_
          refine kx_goto (pc := 58) C 17 dX8_mind_58 (by decide) ?_
          have h3 := ih (t + 1) hs hs4 hf (by omega) (by omega) hR
          rw [show sp_ms a s (t + 1) = sp_ms a s t + if sp_m a s t (a 3 + 1) = 0 then 0 else 2 ^ t from rfl] at h3
          first
            | (rw [if_pos c46, Nat.add_zero] at h3; exact h3)
            | (rw [if_neg (by omega)] at h3; exact h3)
        · refine kx_ild2 (pc := 49) C dX8_mind_49 ?_
          refine kx_iconst (pc := 50) C (v := nI 1) dX8_mind_50 (by decide) ?_
          refine kx_ild3 (pc := 51) C dX8_mind_51 ?_
          refine kx_ishl (pc := 52) C dX8_mind_52 ?_
          rw [kx_sl1 (by omega)]
          refine kx_ior (pc := 53) C dX8_mind_53 ?_
          rw [kx_or hms]
          refine kx_ist2 (pc := 54) C dX8_mind_54 (by decide) rfl ?_
          first | refine kx_inc3 (pc := 55) C (v := nI (_ + 1)) dX8_mind_55 (by decide) rfl (nI_1 _) ?_ | refine kx_inc3 (pc := 55) C dX8_mind_55 (by decide) rfl rfl ?_
          refine kx_goto (pc := 58) C 17 dX8_mind_58 (by decide) ?_
          have h3 := ih (t + 1) hs hs4 hf (by omega) (by omega) hR
          rw [show sp_ms a s (t + 1) = sp_ms a s t + if sp_m a s t (a 3 + 1) = 0 then 0 else 2 ^ t from rfl] at h3
          first
            | (rw [if_pos c46, Nat.add_zero] at h3; exact h3)
            | (rw [if_neg (by omega)] at h3; exact h3)
  refine kx_ald0 (pc := 0) C dX8_mind_0 ?_
  refine kx_getr (pc := 1) C fl_X8_10 fd_0_0 dX8_mind_1 ?_
  refine kx_ild1 (pc := 4) C dX8_mind_4 ?_
  refine kx_callVI1 (pc := 5) C cs_X8_139 ob_1 (m_X2_hasSpinner _ (by assumption) (by omega)) (by decide) dX8_mind_5 (Nat.le_of_ble_eq_true rfl) (fun r5 h5 q5 => ?_)
  obtain ⟨z5, rfl⟩ := q5
  have z5 := z5.symm
  subst z5
  refine kx_if_ne (pc := 8) C 13 dX8_mind_8 (by decide) (fun c8 => ?_) (fun c8 => ?_)
  · have c8 := kx_if1 c8
    obtain ⟨i, rfl, hi, hi2⟩ := kx_nat c8.1
    refine kx_iconst (pc := 13) C (v := nI 0) dX8_mind_13 (by decide) ?_
    refine kx_ist2 (pc := 14) C dX8_mind_14 (by decide) rfl ?_
    refine kx_iconst (pc := 15) C (v := nI 0) dX8_mind_15 (by decide) ?_
    refine kx_ist3 (pc := 16) C dX8_mind_16 (by decide) rfl ?_
    exact loop i (a 0) 0 c8 (by omega) (fun r e => ⟨rfl, by rw [sp_mindr, if_pos c8, kx_n, kx_n_nI hi2]; exact e⟩) (by omega) (by omega) hR
  · refine kx_iconst (pc := 11) C (v := -1) dX8_mind_11 (by decide) ?_
    exact hR dX8_mind_12 rfl ⟨rfl, by rw [sp_mindr, if_neg (kx_if0 c8)]⟩
set_option maxHeartbeats 4000000 in
set_option maxRecDepth 100000 in
theorem m_X8_count {h : kx_H} {a : Nat → Nat} (w : Int32) (hC : st_CH h a) (hB : st_B a) : kx_MI 2 yX8_count cX8_count 2 .int [.ref 0, .int w] h (fun r h1 => h1 = h ∧ r = sp_count a w) := by
  refine kx_mkI (own := RX8) (L0 := [some (.ref 0), some (.int w)]) rfl (by decide +kernel) (Nat.le_of_ble_eq_true rfl) rfl (fun F C hR => ?_)
  obtain ⟨⟨hT, hE, hS, hev, hme⟩, ⟨hlen, hten, hkd⟩, hYD, hHD, hBR⟩ := id hC
  obtain ⟨⟨b0, b1, b2, b3, b8, b8'⟩, hRB, bl, byy, bh, bz, bb⟩ := id hB
  have hl9 := hRB.1
  have sw : ∀ j : Nat, j ≤ 6 → w = nI j → (4 ≤ j → ¬ h 1 10 = -1) → F 32 [some (.ref 0), some (.int w)] [.int w] h := by
    intro j hj e hnb
    subst e
    rcases (show j = 0 ∨ j = 1 ∨ j = 2 ∨ j = 3 ∨ j = 4 ∨ j = 5 ∨ j = 6 by omega) with rfl | rfl | rfl | rfl | rfl | rfl | rfl
    · refine kx_tblIn (pc := 32) C 72 dX8_count_32 (by decide) (by decide) (off := 40) (by decide) (by decide) ?_
      refine kx_ald0 (pc := 72) C dX8_count_72 ?_
      refine kx_getr (pc := 73) C fl_X8_10 fd_0_0 dX8_count_73 ?_
      refine kx_geti (pc := 76) C fl_X8_95 fd_1_0 (by first | assumption | exact hlen _ (by omega) | exact hten _ _ (by omega) (by omega) | exact hkd _ (by omega) | exact hYD _ _ (by omega) (by omega) | exact hHD _ _ (by omega) (by omega) | rfl) dX8_count_76 ?_
      exact hR dX8_count_79 rfl ⟨rfl, rfl⟩
    · refine kx_tblIn (pc := 32) C 80 dX8_count_32 (by decide) (by decide) (off := 48) (by decide) (by decide) ?_
      refine kx_ald0 (pc := 80) C dX8_count_80 ?_
      refine kx_getr (pc := 81) C fl_X8_10 fd_0_0 dX8_count_81 ?_
      refine kx_geti (pc := 84) C fl_X8_113 fd_1_1 (by first | assumption | exact hlen _ (by omega) | exact hten _ _ (by omega) (by omega) | exact hkd _ (by omega) | exact hYD _ _ (by omega) (by omega) | exact hHD _ _ (by omega) (by omega) | rfl) dX8_count_84 ?_
      exact hR dX8_count_87 rfl ⟨rfl, rfl⟩
    · refine kx_tblIn (pc := 32) C 88 dX8_count_32 (by decide) (by decide) (off := 56) (by decide) (by decide) ?_
      refine kx_ald0 (pc := 88) C dX8_count_88 ?_
      refine kx_getr (pc := 89) C fl_X8_10 fd_0_0 dX8_count_89 ?_
      refine kx_geti (pc := 92) C fl_X8_119 fd_1_2 (by first | assumption | exact hlen _ (by omega) | exact hten _ _ (by omega) (by omega) | exact hkd _ (by omega) | exact hYD _ _ (by omega) (by omega) | exact hHD _ _ (by omega) (by omega) | rfl) dX8_count_92 ?_
      exact hR dX8_count_95 rfl ⟨rfl, rfl⟩
    · refine kx_tblIn (pc := 32) C 96 dX8_count_32 (by decide) (by decide) (off := 64) (by decide) (by decide) ?_
      refine kx_ald0 (pc := 96) C dX8_count_96 ?_
      refine kx_getr (pc := 97) C fl_X8_10 fd_0_0 dX8_count_97 ?_
      refine kx_geti (pc := 100) C fl_X8_148 fd_1_3 (by first | assumption | exact hlen _ (by omega) | exact hten _ _ (by omega) (by omega) | exact hkd _ (by omega) | exact hYD _ _ (by omega) (by omega) | exact hHD _ _ (by omega) (by omega) | rfl) dX8_count_100 ?_
      exact hR dX8_count_103 rfl ⟨rfl, rfl⟩
    · refine kx_tblIn (pc := 32) C 104 dX8_count_32 (by decide) (by decide) (off := 72) (by decide) (by decide) ?_
      refine kx_ald0 (pc := 104) C dX8_count_104 ?_
      refine kx_getr (pc := 105) C fl_X8_10 fd_0_0 dX8_count_105 ?_
      refine kx_geti (pc := 108) C fl_X8_106 fd_1_10 rfl dX8_count_108 ?_
      rcases hBR with ⟨z, q⟩ | ⟨z, q1, q2, q3, q4⟩
      · exact absurd q (hnb (by omega))
      · exact hR dX8_count_111 rfl ⟨rfl, by rw [q1]; unfold sp_count; rw [if_pos (by decide), if_neg (by omega)]; rfl⟩
    · refine kx_tblIn (pc := 32) C 112 dX8_count_32 (by decide) (by decide) (off := 80) (by decide) (by decide) ?_
      refine kx_ald0 (pc := 112) C dX8_count_112 ?_
      refine kx_getr (pc := 113) C fl_X8_10 fd_0_0 dX8_count_113 ?_
      refine kx_geti (pc := 116) C fl_X8_154 fd_1_11 rfl dX8_count_116 ?_
      rcases hBR with ⟨z, q⟩ | ⟨z, q1, q2, q3, q4⟩
      · exact absurd q (hnb (by omega))
      · exact hR dX8_count_119 rfl ⟨rfl, by rw [q2]; unfold sp_count; rw [if_pos (by decide), if_neg (by omega)]; rfl⟩
    · refine kx_tblOut (pc := 32) C 120 dX8_count_32 (Or.inr (by decide)) (by decide) ?_
      refine kx_ald0 (pc := 120) C dX8_count_120 ?_
      refine kx_getr (pc := 121) C fl_X8_10 fd_0_0 dX8_count_121 ?_
      refine kx_geti (pc := 124) C fl_X8_157 fd_1_12 rfl dX8_count_124 ?_
      rcases hBR with ⟨z, q⟩ | ⟨z, q1, q2, q3, q4⟩
      · exact absurd q (hnb (by omega))
      · exact hR dX8_count_127 rfl ⟨rfl, by rw [q3]; unfold sp_count; rw [if_pos (by decide), if_neg (by omega)]; rfl⟩
  refine kx_ild1 (pc := 0) C dX8_count_0 ?_
  refine kx_iconst (pc := 1) C (v := nI 0) dX8_count_1 (by decide) ?_
  refine kx_bipush (pc := 2) C (v := nI 6) dX8_count_2 (by decide) ?_
  refine kx_callSI3 (pc := 4) C cs_X8_75 (m_X8_isWithin _ _ _) (by decide) dX8_count_4 (Nat.le_of_ble_eq_true rfl) (fun r4 h4 q4 => ?_)
  obtain ⟨z4, rfl⟩ := q4
  have z4 := z4.symm
  subst z4
  refine kx_if_ne (pc := 7) C 12 dX8_count_7 (by decide) (fun c7 => ?_) (fun c7 => ?_)
  · have c7 := kx_if1 c7
    rw [show (nI 0).toInt = 0 from rfl, show (nI 6).toInt = 6 from rfl] at c7
    obtain ⟨m, rfl, hm, hm2⟩ := kx_nat c7.1
    refine kx_ild1 (pc := 12) C dX8_count_12 ?_
    refine kx_iconst (pc := 13) C (v := nI 4) dX8_count_13 (by decide) ?_
    refine kx_icmp_ltN (pc := 14) C 31 (by omega) (by omega) dX8_count_14 (by decide) (fun c14 => ?_) (fun c14 => ?_)
    · refine kx_ild1 (pc := 31) C dX8_count_31 ?_
      exact sw m (by omega) rfl (fun z => by first | omega | exact c25)
    · refine kx_ald0 (pc := 17) C dX8_count_17 ?_
      refine kx_getr (pc := 18) C fl_X8_10 fd_0_0 dX8_count_18 ?_
      refine kx_geti (pc := 21) C fl_X8_106 fd_1_10 rfl dX8_count_21 ?_
      refine kx_iconst (pc := 24) C (v := -1) dX8_count_24 (by decide) ?_
      refine kx_icmp_ne (pc := 25) C 31 dX8_count_25 (by decide) (fun c25 => ?_) (fun c25 => ?_)
      · refine kx_ild1 (pc := 31) C dX8_count_31 ?_
        exact sw m (by omega) rfl (fun z => by first | omega | exact c25)
      · refine kx_bipush (pc := 28) C (v := -4) dX8_count_28 (by decide) ?_
        have e4 : a 4 = 0 := by
          rcases hBR with ⟨z, q⟩ | ⟨z, q1, -⟩
          · exact z
          · rw [q1] at c25
            have := bb z
            exact absurd c25 (kx_m1 (by omega))
        exact hR dX8_count_30 rfl ⟨rfl, by rw [sp_count, if_pos c7, if_pos (by omega)]⟩
  · refine kx_iconst (pc := 10) C (v := -1) dX8_count_10 (by decide) ?_
    have c7 := kx_if0 c7
    rw [show (nI 0).toInt = 0 from rfl, show (nI 6).toInt = 6 from rfl] at c7
    exact hR dX8_count_11 rfl ⟨rfl, by rw [sp_count, if_neg c7]⟩
