abbrev kx_n (x : Int32) : Nat := x.toInt.toNat
theorem kx_n_nI {j : Nat} (h : j < 2 ^ 31) : (nI j).toInt.toNat = j := by rw [kx_T h]; omega
def up (a : Nat → Nat) (k v : Nat) : Nat → Nat := fun j => if j = k then v else a j
theorem up_s {a : Nat → Nat} {k v : Nat} : up a k v k = v := if_pos rfl
theorem up_o {a : Nat → Nat} {k v j : Nat} (h : j ≠ k) : up a k v j = a j := if_neg h
theorem kx_m1 {j : Nat} (h : j < 2 ^ 31) : ¬ nI j = -1 := by
  rw [kx_eqI, kx_T h, show (-1 : Int32).toInt = -1 from rfl]
  omega
/-! what the calls answer -/
def sp_told (a : Nat → Nat) (t i : Int32) : Int32 := if 0 ≤ t.toInt ∧ t.toInt < (a 0 : Int) then (if i = -1 then nI (a (81 + kx_n t)) else if 0 ≤ i.toInt ∧ i.toInt < (a (81 + kx_n t) : Int) then nI (a (9 + 9 * kx_n t + kx_n i)) else -1) else -1
def sp_tells (a : Nat → Nat) (e t i : Int32) : Int32 := if (0 ≤ e.toInt ∧ e.toInt < (a 1 : Int)) ∧ (0 ≤ t.toInt ∧ t.toInt < (a 0 : Int)) ∧ 0 ≤ i.toInt ∧ i.toInt < (a (81 + kx_n t) : Int) then nI (sp_te a (kx_n e) (kx_n t) (kx_n i)) else -1
def sp_yards (a : Nat → Nat) (s k : Int32) : Int32 := if (0 ≤ s.toInt ∧ s.toInt < (a 2 : Int)) ∧ 0 ≤ k.toInt ∧ k.toInt ≤ 3 then nI (a (93 + 4 * kx_n s + kx_n k)) else -1
def sp_useC (a : Nat → Nat) (s k n : Int32) : Prop := (0 ≤ s.toInt ∧ s.toInt < (a 2 : Int)) ∧ (0 ≤ k.toInt ∧ k.toInt ≤ 3) ∧ 1 ≤ n.toInt ∧ n.toInt ≤ 999
def sp_use (a : Nat → Nat) (s k n : Int32) : Int32 := if (0 ≤ s.toInt ∧ s.toInt < (a 2 : Int)) ∧ (0 ≤ k.toInt ∧ k.toInt ≤ 3) ∧ 1 ≤ n.toInt ∧ n.toInt ≤ 999 then (if a (93 + 4 * kx_n s + kx_n k) < kx_n n then -2 else nI (a (93 + 4 * kx_n s + kx_n k) - kx_n n)) else -1
def sp_useA (a : Nat → Nat) (s k n : Int32) : Nat → Nat := if ((0 ≤ s.toInt ∧ s.toInt < (a 2 : Int)) ∧ (0 ≤ k.toInt ∧ k.toInt ≤ 3) ∧ 1 ≤ n.toInt ∧ n.toInt ≤ 999) ∧ kx_n n ≤ a (93 + 4 * kx_n s + kx_n k) then up a (93 + 4 * kx_n s + kx_n k) (a (93 + 4 * kx_n s + kx_n k) - kx_n n) else a
def sp_ms (a : Nat → Nat) (s : Nat) : Nat → Nat
  | 0 => 0
  | t + 1 => sp_ms a s t + if sp_m a s t (a 3 + 1) = 0 then 0 else 2 ^ t
def sp_mindr (a : Nat → Nat) (s : Int32) : Int32 := if 0 ≤ s.toInt ∧ s.toInt < (a 2 : Int) then nI (sp_ms a (kx_n s) (a 0)) else -1
def sp_count (a : Nat → Nat) (w : Int32) : Int32 := if 0 ≤ w.toInt ∧ w.toInt ≤ 6 then (if 4 ≤ w.toInt ∧ a 4 = 0 then -4 else if w.toInt = 4 then nI (a 4 - 1) else nI (a (kx_n w))) else -1
def sp_teller (a : Nat → Nat) (k : Int32) : Int32 := if 0 ≤ k.toInt ∧ k.toInt ≤ 3 then (if 4 ≤ a 1 then -3 else nI (a 1)) else -1
def sp_tellerA (a : Nat → Nat) (k : Int32) : Nat → Nat := if (0 ≤ k.toInt ∧ k.toInt ≤ 3) ∧ a 1 < 4 then up (up a (89 + a 1) (kx_n k)) 1 (a 1 + 1) else a
def sp_spinner (a : Nat → Nat) : Int32 := if 4 ≤ a 2 then -3 else nI (a 2)
def sp_spinnerA (a : Nat → Nat) : Nat → Nat := if a 2 < 4 then up a 2 (a 2 + 1) else a
def sp_memory (a : Nat → Nat) (v : Int32) : Int32 := if 1 ≤ v.toInt ∧ v.toInt ≤ 99 then nI (a 8) else -1
def sp_memoryA (a : Nat → Nat) (v : Int32) : Nat → Nat := if 1 ≤ v.toInt ∧ v.toInt ≤ 99 then up a 8 (kx_n v) else a
def sp_changeC (a : Nat → Nat) (t i v : Int32) : Prop := ((0 ≤ t.toInt ∧ t.toInt < (a 0 : Int)) ∧ 0 ≤ i.toInt ∧ i.toInt < (a (81 + kx_n t) : Int)) ∧ 0 ≤ v.toInt ∧ v.toInt ≤ 9
def sp_change (a : Nat → Nat) (t i v : Int32) : Int32 := if ((0 ≤ t.toInt ∧ t.toInt < (a 0 : Int)) ∧ 0 ≤ i.toInt ∧ i.toInt < (a (81 + kx_n t) : Int)) ∧ 0 ≤ v.toInt ∧ v.toInt ≤ 9 then (if a 4 = kx_n t + 1 then -2 else nI (a (9 + 9 * kx_n t + kx_n i))) else -1
def sp_changeA (a : Nat → Nat) (t i v : Int32) : Nat → Nat := if (((0 ≤ t.toInt ∧ t.toInt < (a 0 : Int)) ∧ 0 ≤ i.toInt ∧ i.toInt < (a (81 + kx_n t) : Int)) ∧ 0 ≤ v.toInt ∧ v.toInt ≤ 9) ∧ ¬ a 4 = kx_n t + 1 then up a (9 + 9 * kx_n t + kx_n i) (kx_n v) else a
def sp_evening (a : Nat → Nat) (e t n w : Int32) : Int32 := if (0 ≤ e.toInt ∧ e.toInt < (a 1 : Int)) ∧ (0 ≤ t.toInt ∧ t.toInt < (a 0 : Int)) ∧ (1 ≤ n.toInt ∧ n.toInt ≤ 9) ∧ 0 ≤ w.toInt ∧ w.toInt < ((2 ^ a 2 : Nat) : Int) then (if a 3 < 9999 then nI ((sp_to a (kx_n e) (kx_n t) (kx_n n) - sp_fr a (kx_n e) (kx_n t)) * sp_pop (kx_n w)) else -3) else -1
def sp_eveningA (a : Nat → Nat) (e t n w : Int32) : Nat → Nat := if ((0 ≤ e.toInt ∧ e.toInt < (a 1 : Int)) ∧ (0 ≤ t.toInt ∧ t.toInt < (a 0 : Int)) ∧ (1 ≤ n.toInt ∧ n.toInt ≤ 9) ∧ 0 ≤ w.toInt ∧ w.toInt < ((2 ^ a 2 : Nat) : Int)) ∧ a 3 < 9999 then sp_ev a (kx_n e) (kx_n t) (kx_n n) (kx_n w) else a
/-- a tale as a teller tells it -/
def sp_tf (a : Nat → Nat) (e t : Nat) (i : Nat) : Nat := if i < a (81 + t) then sp_te a e t i else 0
def sp_play (a : Nat → Nat) (e t j p w : Int32) : Int32 := if (0 ≤ e.toInt ∧ e.toInt < (a 1 : Int)) ∧ ((0 ≤ t.toInt ∧ t.toInt < (a 0 : Int)) ∧ 1 ≤ j.toInt ∧ j.toInt ≤ (a (81 + kx_n t) : Int)) ∧ (0 ≤ p.toInt ∧ p.toInt ≤ 9) ∧ 0 ≤ w.toInt ∧ w.toInt ≤ 1 then (if w = 0 then iI (sp_P0 (sp_tf a (kx_n e) (kx_n t)) (a (81 + kx_n t)) (kx_n j) (kx_n p)) else iI (sp_P1 (sp_tf a (kx_n e) (kx_n t)) (a (81 + kx_n t)) (kx_n j) (kx_n p))) else -100001
def sp_rests (a : Nat → Nat) (e t w : Int32) : Int32 := if (0 ≤ e.toInt ∧ e.toInt < (a 1 : Int)) ∧ (0 ≤ t.toInt ∧ t.toInt < (a 0 : Int)) ∧ 0 ≤ w.toInt ∧ w.toInt ≤ 1 then (if w = 0 then nI (sp_ct (sp_Rx (sp_tf a (kx_n e) (kx_n t)) (a (81 + kx_n t))) (10 * a (81 + kx_n t))) else sp_Rf (sp_tf a (kx_n e) (kx_n t)) (a (81 + kx_n t)) (10 * a (81 + kx_n t))) else -1
theorem kx_or {x k : Nat} (h : x < 2 ^ k) : nI x ||| nI (2 ^ k) = nI (x + 2 ^ k) := by
  have e : nI x ||| nI (2 ^ k) = nI (x ||| 2 ^ k) := by
    apply Int32.toBitVec_inj.1
    show BitVec.ofNat 32 x ||| BitVec.ofNat 32 (2 ^ k) = BitVec.ofNat 32 (x ||| 2 ^ k)
    apply BitVec.eq_of_getLsbD_eq
    intro i hi
    simp [hi]
  rw [e]
  congr 1
  have := Nat.two_pow_add_eq_or_of_lt (i := k) (b := x) h 1
  rw [Nat.mul_one] at this
  rw [Nat.or_comm, ← this, Nat.add_comm]
theorem sp_ms_lt (a : Nat → Nat) (s : Nat) : ∀ t, sp_ms a s t < 2 ^ t
  | 0 => by simp [sp_ms]
  | t + 1 => by
    have := sp_ms_lt a s t
    unfold sp_ms
    rw [Nat.pow_succ]
    split <;> omega
set_option maxHeartbeats 4000000 in
set_option maxRecDepth 100000 in
theorem m_X8_told {h : kx_H} {a : Nat → Nat} (t i : Int32) (hC : st_CH h a) (hB : st_B a) : kx_MI 4 yX8_told cX8_told 3 .int [.ref 0, .int t, .int i] h (fun r h1 => h1 = h ∧ r = sp_told a t i) := by
  refine kx_mkI (own := RX8) (L0 := [some (.ref 0), some (.int t), some (.int i)]) rfl (by decide +kernel) (Nat.le_of_ble_eq_true rfl) rfl (fun F C hR => ?_)
  obtain ⟨⟨hT, hE, hS, hev, hme⟩, ⟨hlen, hten, hkd⟩, hYD, hHD, hBR⟩ := id hC
  obtain ⟨⟨b0, b1, b2, b3, b8, b8'⟩, hRB, bl, byy, bh, bz, bb⟩ := id hB
  have hl9 := hRB.1
  refine kx_ild2 (pc := 0) C dX8_told_0 ?_
  refine kx_iconst (pc := 1) C (v := -1) dX8_told_1 (by decide) ?_
  refine kx_icmp_ne (pc := 2) C 26 dX8_told_2 (by decide) (fun c2 => ?_) (fun c2 => ?_)
  · refine kx_ald0 (pc := 26) C dX8_told_26 ?_
    refine kx_getr (pc := 27) C fl_X8_10 fd_0_0 dX8_told_27 ?_
    refine kx_ild1 (pc := 30) C dX8_told_30 ?_
    refine kx_ild2 (pc := 31) C dX8_told_31 ?_
    refine kx_callVI2 (pc := 32) C cs_X8_102 ob_1 (m_X2_hasSentence _ _ (by assumption) (by omega) hlen hl9) (by decide) dX8_told_32 (Nat.le_of_ble_eq_true rfl) (fun r32 h32 q32 => ?_)
    obtain ⟨z32, rfl⟩ := q32
    have z32 := z32.symm
    subst z32
    refine kx_if_eq (pc := 35) C 52 dX8_told_35 (by decide) (fun c35 => ?_) (fun c35 => ?_)
    · refine kx_iconst (pc := 52) C (v := -1) dX8_told_52 (by decide) ?_
      first
        | exact absurd c35.1 (kx_if0 c13)
        | exact hR dX8_told_53 rfl ⟨rfl, by rw [sp_told, if_neg (kx_if0 c13)]⟩
        | exact hR dX8_told_53 rfl ⟨rfl, by
            have e2 : ¬ nI k = -1 := kx_m1 hk2
            rw [sp_told, if_pos (by omega), if_neg e2, kx_n, kx_n, kx_n_nI hj2, kx_n_nI hk2, if_pos (by omega)]⟩
        | exact hR dX8_told_53 rfl ⟨rfl, by
            have c35 := kx_if0 c35
            by_cases q : 0 ≤ t.toInt ∧ t.toInt < (a 0 : Int)
            · rw [sp_told, if_pos q, if_neg c2, if_neg (fun z => c35 ⟨q, z⟩)]
            · rw [sp_told, if_neg q]⟩
    · have c35 := kx_if1 c35
      obtain ⟨j, rfl, hj, hj2⟩ := kx_nat c35.1.1
      obtain ⟨k, rfl, hk, hk2⟩ := kx_nat c35.2.1
      rw [kx_n_nI hj2] at c35
      have l1 := hl9 j (by omega)
      refine kx_ald0 (pc := 38) C dX8_told_38 ?_
      refine kx_getr (pc := 39) C fl_X8_10 fd_0_0 dX8_told_39 ?_
      refine kx_getr (pc := 42) C fl_X8_109 fd_1_6 dX8_told_42 ?_
      refine kx_ild1 (pc := 45) C dX8_told_45 ?_
      refine kx_aald1 (pc := 46) C ra_3 (by omega) dX8_told_46 ?_
      refine kx_ild2 (pc := 47) C dX8_told_47 ?_
      refine kx_iald (pc := 48) C (if_ten _ (by omega)) (by omega) (by first | assumption | exact hlen _ (by omega) | exact hten _ _ (by omega) (by omega) | exact hkd _ (by omega) | exact hYD _ _ (by omega) (by omega) | exact hHD _ _ (by omega) (by omega) | rfl) dX8_told_48 ?_
      refine kx_goto (pc := 49) C 53 dX8_told_49 (by decide) ?_
      first
        | exact absurd c35.1 (kx_if0 c13)
        | exact hR dX8_told_53 rfl ⟨rfl, by rw [sp_told, if_neg (kx_if0 c13)]⟩
        | exact hR dX8_told_53 rfl ⟨rfl, by
            have e2 : ¬ nI k = -1 := kx_m1 hk2
            rw [sp_told, if_pos (by omega), if_neg e2, kx_n, kx_n, kx_n_nI hj2, kx_n_nI hk2, if_pos (by omega)]⟩
        | exact hR dX8_told_53 rfl ⟨rfl, by
            have c35 := kx_if0 c35
            by_cases q : 0 ≤ t.toInt ∧ t.toInt < (a 0 : Int)
            · rw [sp_told, if_pos q, if_neg c2, if_neg (fun z => c35 ⟨q, z⟩)]
            · rw [sp_told, if_neg q]⟩
  · refine kx_ald0 (pc := 5) C dX8_told_5 ?_
    refine kx_getr (pc := 6) C fl_X8_10 fd_0_0 dX8_told_6 ?_
    refine kx_ild1 (pc := 9) C dX8_told_9 ?_
    refine kx_callVI1 (pc := 10) C cs_X8_125 ob_1 (m_X2_hasTale _ (by assumption) (by omega)) (by decide) dX8_told_10 (Nat.le_of_ble_eq_true rfl) (fun r10 h10 q10 => ?_)
    obtain ⟨z10, rfl⟩ := q10
    have z10 := z10.symm
    subst z10
    refine kx_if_eq (pc := 13) C 26 dX8_told_13 (by decide) (fun c13 => ?_) (fun c13 => ?_)
    · refine kx_ald0 (pc := 26) C dX8_told_26 ?_
      refine kx_getr (pc := 27) C fl_X8_10 fd_0_0 dX8_told_27 ?_
      refine kx_ild1 (pc := 30) C dX8_told_30 ?_
      refine kx_ild2 (pc := 31) C dX8_told_31 ?_
      refine kx_callVI2 (pc := 32) C cs_X8_102 ob_1 (m_X2_hasSentence _ _ (by assumption) (by omega) hlen hl9) (by decide) dX8_told_32 (Nat.le_of_ble_eq_true rfl) (fun r32 h32 q32 => ?_)
      obtain ⟨z32, rfl⟩ := q32
      have z32 := z32.symm
      subst z32
      refine kx_if_eq (pc := 35) C 52 dX8_told_35 (by decide) (fun c35 => ?_) (fun c35 => ?_)
      · refine kx_iconst (pc := 52) C (v := -1) dX8_told_52 (by decide) ?_
        first
          | exact absurd c35.1 (kx_if0 c13)
          | exact hR dX8_told_53 rfl ⟨rfl, by rw [sp_told, if_neg (kx_if0 c13)]⟩
          | exact hR dX8_told_53 rfl ⟨rfl, by
              have e2 : ¬ nI k = -1 := kx_m1 hk2
              rw [sp_told, if_pos (by omega), if_neg e2, kx_n, kx_n, kx_n_nI hj2, kx_n_nI hk2, if_pos (by omega)]⟩
          | exact hR dX8_told_53 rfl ⟨rfl, by
              have c35 := kx_if0 c35
              by_cases q : 0 ≤ t.toInt ∧ t.toInt < (a 0 : Int)
              · rw [sp_told, if_pos q, if_neg c2, if_neg (fun z => c35 ⟨q, z⟩)]
              · rw [sp_told, if_neg q]⟩
      · have c35 := kx_if1 c35
        obtain ⟨j, rfl, hj, hj2⟩ := kx_nat c35.1.1
        obtain ⟨k, rfl, hk, hk2⟩ := kx_nat c35.2.1
        rw [kx_n_nI hj2] at c35
        have l1 := hl9 j (by omega)
        refine kx_ald0 (pc := 38) C dX8_told_38 ?_
        refine kx_getr (pc := 39) C fl_X8_10 fd_0_0 dX8_told_39 ?_
        refine kx_getr (pc := 42) C fl_X8_109 fd_1_6 dX8_told_42 ?_
        refine kx_ild1 (pc := 45) C dX8_told_45 ?_
        refine kx_aald1 (pc := 46) C ra_3 (by omega) dX8_told_46 ?_
        refine kx_ild2 (pc := 47) C dX8_told_47 ?_
        refine kx_iald (pc := 48) C (if_ten _ (by omega)) (by omega) (by first | assumption | exact hlen _ (by omega) | exact hten _ _ (by omega) (by omega) | exact hkd _ (by omega) | exact hYD _ _ (by omega) (by omega) | exact hHD _ _ (by omega) (by omega) | rfl) dX8_told_48 ?_
        refine kx_goto (pc := 49) C 53 dX8_told_49 (by decide) ?_
        first
          | exact absurd c35.1 (kx_if0 c13)
          | exact hR dX8_told_53 rfl ⟨rfl, by rw [sp_told, if_neg (kx_if0 c13)]⟩
          | exact hR dX8_told_53 rfl ⟨rfl, by
              have e2 : ¬ nI k = -1 := kx_m1 hk2
              rw [sp_told, if_pos (by omega), if_neg e2, kx_n, kx_n, kx_n_nI hj2, kx_n_nI hk2, if_pos (by omega)]⟩
          | exact hR dX8_told_53 rfl ⟨rfl, by
              have c35 := kx_if0 c35
              by_cases q : 0 ≤ t.toInt ∧ t.toInt < (a 0 : Int)
              · rw [sp_told, if_pos q, if_neg c2, if_neg (fun z => c35 ⟨q, z⟩)]
              · rw [sp_told, if_neg q]⟩
    · have c13 := kx_if1 c13
      obtain ⟨j, rfl, hj, hj2⟩ := kx_nat c13.1
      refine kx_ald0 (pc := 16) C dX8_told_16 ?_
      refine kx_getr (pc := 17) C fl_X8_10 fd_0_0 dX8_told_17 ?_
      refine kx_getr (pc := 20) C fl_X8_129 fd_1_5 dX8_told_20 ?_
      refine kx_ild1 (pc := 23) C dX8_told_23 ?_
      refine kx_iald (pc := 24) C ia_2 (by omega) (by first | assumption | exact hlen _ (by omega) | exact hten _ _ (by omega) (by omega) | exact hkd _ (by omega) | exact hYD _ _ (by omega) (by omega) | exact hHD _ _ (by omega) (by omega) | rfl) dX8_told_24 ?_
      exact hR dX8_told_25 rfl ⟨rfl, by rw [sp_told, if_pos (by omega), if_pos c2, kx_n, kx_n_nI hj2]⟩
set_option maxHeartbeats 4000000 in
set_option maxRecDepth 100000 in
theorem m_X8_tells {h : kx_H} {a : Nat → Nat} (e t i : Int32) (hC : st_CH h a) (hB : st_B a) : kx_MI 4 yX8_tells cX8_tells 4 .int [.ref 0, .int e, .int t, .int i] h (fun r h1 => h1 = h ∧ r = sp_tells a e t i) := by
  refine kx_mkI (own := RX8) (L0 := [some (.ref 0), some (.int e), some (.int t), some (.int i)]) rfl (by decide +kernel) (Nat.le_of_ble_eq_true rfl) rfl (fun F C hR => ?_)
  obtain ⟨⟨hT, hE, hS, hev, hme⟩, ⟨hlen, hten, hkd⟩, hYD, hHD, hBR⟩ := id hC
  obtain ⟨⟨b0, b1, b2, b3, b8, b8'⟩, hRB, bl, byy, bh, bz, bb⟩ := id hB
  have hl9 := hRB.1
  refine kx_ald0 (pc := 0) C dX8_tells_0 ?_
  refine kx_getr (pc := 1) C fl_X8_10 fd_0_0 dX8_tells_1 ?_
  refine kx_ild1 (pc := 4) C dX8_tells_4 ?_
  refine kx_callVI1 (pc := 5) C cs_X8_132 ob_1 (m_X2_hasTeller _ (by assumption) (by omega)) (by decide) dX8_tells_5 (Nat.le_of_ble_eq_true rfl) (fun r5 h5 q5 => ?_)
  obtain ⟨z5, rfl⟩ := q5
  have z5 := z5.symm
  subst z5
  refine kx_if_eq (pc := 8) C 23 dX8_tells_8 (by decide) (fun c8 => ?_) (fun c8 => ?_)
  · refine kx_iconst (pc := 23) C (v := -1) dX8_tells_23 (by decide) ?_
    exact hR dX8_tells_24 rfl ⟨rfl, by rw [sp_tells, if_neg (fun z => by first | exact kx_if0 c20 z.2 | exact kx_if0 c8 z.1)]⟩
  · refine kx_ald0 (pc := 11) C dX8_tells_11 ?_
    refine kx_getr (pc := 12) C fl_X8_10 fd_0_0 dX8_tells_12 ?_
    refine kx_ild2 (pc := 15) C dX8_tells_15 ?_
    refine kx_ild3 (pc := 16) C dX8_tells_16 ?_
    refine kx_callVI2 (pc := 17) C cs_X8_102 ob_1 (m_X2_hasSentence _ _ (by assumption) (by omega) hlen hl9) (by decide) dX8_tells_17 (Nat.le_of_ble_eq_true rfl) (fun r17 h17 q17 => ?_)
    obtain ⟨z17, rfl⟩ := q17
    have z17 := z17.symm
    subst z17
    refine kx_if_ne (pc := 20) C 25 dX8_tells_20 (by decide) (fun c20 => ?_) (fun c20 => ?_)
    · have c20 := kx_if1 c20
      obtain ⟨j, rfl, hj, hj2⟩ := kx_nat c20.1.1
      obtain ⟨k, rfl, hk, hk2⟩ := kx_nat c20.2.1
      have c8 := kx_if1 c8
      obtain ⟨m, rfl, hm, hm2⟩ := kx_nat c8.1
      rw [kx_n_nI hj2] at c20
      refine kx_ald0 (pc := 25) C dX8_tells_25 ?_
      refine kx_getr (pc := 26) C fl_X8_10 fd_0_0 dX8_tells_26 ?_
      refine kx_ild1 (pc := 29) C dX8_tells_29 ?_
      refine kx_ild2 (pc := 30) C dX8_tells_30 ?_
      refine kx_ild3 (pc := 31) C dX8_tells_31 ?_
      refine kx_callVI3 (pc := 32) C cs_X8_135 ob_1 (m_X2_tensionBy ⟨hlen, hten, hkd⟩ hRB (by omega) (by omega) (by omega)) (by decide) dX8_tells_32 (Nat.le_of_ble_eq_true rfl) (fun r32 h32 q32 => ?_)
      obtain ⟨z32, rfl⟩ := q32
      have z32 := z32.symm
      subst z32
      exact hR dX8_tells_35 rfl ⟨rfl, by rw [sp_tells, kx_n, kx_n, kx_n, kx_n_nI hj2, kx_n_nI hk2, kx_n_nI hm2, if_pos (by omega)]⟩
    · refine kx_iconst (pc := 23) C (v := -1) dX8_tells_23 (by decide) ?_
      exact hR dX8_tells_24 rfl ⟨rfl, by rw [sp_tells, if_neg (fun z => by first | exact kx_if0 c20 z.2 | exact kx_if0 c8 z.1)]⟩
set_option maxHeartbeats 4000000 in
set_option maxRecDepth 100000 in
theorem m_X8_yards {h : kx_H} {a : Nat → Nat} (s k : Int32) (hC : st_CH h a) (hB : st_B a) : kx_MI 3 yX8_yards cX8_yards 3 .int [.ref 0, .int s, .int k] h (fun r h1 => h1 = h ∧ r = sp_yards a s k) := by
  refine kx_mkI (own := RX8) (L0 := [some (.ref 0), some (.int s), some (.int k)]) rfl (by decide +kernel) (Nat.le_of_ble_eq_true rfl) rfl (fun F C hR => ?_)
  obtain ⟨⟨hT, hE, hS, hev, hme⟩, ⟨hlen, hten, hkd⟩, hYD, hHD, hBR⟩ := id hC
  obtain ⟨⟨b0, b1, b2, b3, b8, b8'⟩, hRB, bl, byy, bh, bz, bb⟩ := id hB
  have hl9 := hRB.1
  refine kx_ald0 (pc := 0) C dX8_yards_0 ?_
  refine kx_getr (pc := 1) C fl_X8_10 fd_0_0 dX8_yards_1 ?_
  refine kx_ild1 (pc := 4) C dX8_yards_4 ?_
  refine kx_callVI1 (pc := 5) C cs_X8_139 ob_1 (m_X2_hasSpinner _ (by assumption) (by omega)) (by decide) dX8_yards_5 (Nat.le_of_ble_eq_true rfl) (fun r5 h5 q5 => ?_)
  obtain ⟨z5, rfl⟩ := q5
  have z5 := z5.symm
  subst z5
  refine kx_if_eq (pc := 8) C 32 dX8_yards_8 (by decide) (fun c8 => ?_) (fun c8 => ?_)
  · refine kx_iconst (pc := 32) C (v := -1) dX8_yards_32 (by decide) ?_
    first
      | exact hR dX8_yards_33 rfl ⟨rfl, by rw [sp_yards, if_neg (fun z => by first | exact kx_if0 c15 z.2 | exact kx_if0 c8 z.1)]⟩
      | exact hR dX8_yards_33 rfl ⟨rfl, by rw [sp_yards, kx_n, kx_n, kx_n_nI hi2, kx_n_nI hj2, if_pos (by omega)]⟩
  · refine kx_ild2 (pc := 11) C dX8_yards_11 ?_
    refine kx_callSI1 (pc := 12) C cs_X8_142 (m_X8_isSort _) (by decide) dX8_yards_12 (Nat.le_of_ble_eq_true rfl) (fun r12 h12 q12 => ?_)
    obtain ⟨z12, rfl⟩ := q12
    have z12 := z12.symm
    subst z12
    refine kx_if_eq (pc := 15) C 32 dX8_yards_15 (by decide) (fun c15 => ?_) (fun c15 => ?_)
    · refine kx_iconst (pc := 32) C (v := -1) dX8_yards_32 (by decide) ?_
      first
        | exact hR dX8_yards_33 rfl ⟨rfl, by rw [sp_yards, if_neg (fun z => by first | exact kx_if0 c15 z.2 | exact kx_if0 c8 z.1)]⟩
        | exact hR dX8_yards_33 rfl ⟨rfl, by rw [sp_yards, kx_n, kx_n, kx_n_nI hi2, kx_n_nI hj2, if_pos (by omega)]⟩
    · have c8 := kx_if1 c8
      have c15 := kx_if1 c15
      obtain ⟨i, rfl, hi, hi2⟩ := kx_nat c8.1
      obtain ⟨j, rfl, hj, hj2⟩ := kx_nat c15.1
      refine kx_ald0 (pc := 18) C dX8_yards_18 ?_
      refine kx_getr (pc := 19) C fl_X8_10 fd_0_0 dX8_yards_19 ?_
      refine kx_getr (pc := 22) C fl_X8_145 fd_1_8 dX8_yards_22 ?_
      refine kx_ild1 (pc := 25) C dX8_yards_25 ?_
      refine kx_aald1 (pc := 26) C ra_13 (by omega) dX8_yards_26 ?_
      refine kx_ild2 (pc := 27) C dX8_yards_27 ?_
      refine kx_iald (pc := 28) C (if_yds _ (by omega)) (by omega) (by first | assumption | exact hlen _ (by omega) | exact hten _ _ (by omega) (by omega) | exact hkd _ (by omega) | exact hYD _ _ (by omega) (by omega) | exact hHD _ _ (by omega) (by omega) | rfl) dX8_yards_28 ?_
      refine kx_goto (pc := 29) C 33 dX8_yards_29 (by decide) ?_
      first
        | exact hR dX8_yards_33 rfl ⟨rfl, by rw [sp_yards, if_neg (fun z => by first | exact kx_if0 c15 z.2 | exact kx_if0 c8 z.1)]⟩
        | exact hR dX8_yards_33 rfl ⟨rfl, by rw [sp_yards, kx_n, kx_n, kx_n_nI hi2, kx_n_nI hj2, if_pos (by omega)]⟩
theorem st_CH.yd {h : kx_H} {a : Nat → Nat} (hC : st_CH h a) {s k v : Nat} (hs : s < 4) (hk : k < 4) : st_CH (kx_up h (14 + s) k (nI v)) (up a (93 + 4 * s + k) v) := by
  obtain ⟨⟨hT, hE, hS, hev, hme⟩, ⟨hlen, hten, hkd⟩, hYD, hHD, hBR⟩ := hC
  have e0 : ∀ j, j < 93 → up a (93 + 4 * s + k) v j = a j := fun j hj => up_o (by omega)
  have g0 : ∀ d j, d < 14 ∨ 18 ≤ d → kx_up h (14 + s) k (nI v) d j = h d j := fun d j hd => by rw [kx_up, if_neg (by omega)]
  refine ⟨⟨?_, ?_, ?_, ?_, ?_⟩, ⟨fun t ht => ?_, fun t i ht hi => ?_, fun e he => ?_⟩, fun u m hu hm => ?_, fun u t hu ht => ?_, ?_⟩
  · rw [g0 _ _ (by omega), e0 _ (by omega)]; exact hT
  · rw [g0 _ _ (by omega), e0 _ (by omega)]; exact hE
  · rw [g0 _ _ (by omega), e0 _ (by omega)]; exact hS
  · rw [g0 _ _ (by omega), e0 _ (by omega)]; exact hev
  · rw [g0 _ _ (by omega), e0 _ (by omega)]; exact hme
  · rw [g0 _ _ (by omega), e0 _ (by omega)]; exact hlen t ht
  · rw [g0 _ _ (by omega), e0 _ (by omega)]; exact hten t i ht hi
  · rw [g0 _ _ (by omega), e0 _ (by omega)]; exact hkd e he
  · by_cases z : u = s ∧ m = k
    · obtain ⟨rfl, rfl⟩ := z
      rw [kx_up, if_pos ⟨rfl, rfl⟩, up_s]
    · rw [kx_up, if_neg (by omega), up_o (by omega)]; exact hYD u m hu hm
  · rw [g0 _ _ (by omega), up_o (by omega)]; exact hHD u t hu ht
  · unfold st_BR
    rw [e0 4 (by omega), e0 5 (by omega), e0 6 (by omega), e0 7 (by omega), g0 1 10 (by omega), g0 1 11 (by omega), g0 1 12 (by omega), g0 1 13 (by omega)]
    exact hBR
set_option maxHeartbeats 4000000 in
set_option maxRecDepth 100000 in
theorem m_X8_use {h : kx_H} {a : Nat → Nat} (s k n : Int32) (hC : st_CH h a) (hB : st_B a) : kx_MI 3 yX8_use cX8_use 4 .int [.ref 0, .int s, .int k, .int n] h (fun r h1 => r = sp_use a s k n ∧ st_CH h1 (sp_useA a s k n) ∧ ∀ d j, (d < 1 ∨ 23 ≤ d) → h1 d j = h d j) := by
  refine kx_mkI (own := RX8) (L0 := [some (.ref 0), some (.int s), some (.int k), some (.int n)]) rfl (by decide +kernel) (Nat.le_of_ble_eq_true rfl) rfl (fun F C hR => ?_)
  obtain ⟨⟨hT, hE, hS, hev, hme⟩, ⟨hlen, hten, hkd⟩, hYD, hHD, hBR⟩ := id hC
  obtain ⟨⟨b0, b1, b2, b3, b8, b8'⟩, hRB, bl, byy, bh, bz, bb⟩ := id hB
  have hl9 := hRB.1
  refine kx_ald0 (pc := 0) C dX8_use_0 ?_
  refine kx_getr (pc := 1) C fl_X8_10 fd_0_0 dX8_use_1 ?_
  refine kx_ild1 (pc := 4) C dX8_use_4 ?_
  refine kx_callVI1 (pc := 5) C cs_X8_139 ob_1 (m_X2_hasSpinner _ (by assumption) (by omega)) (by decide) dX8_use_5 (Nat.le_of_ble_eq_true rfl) (fun r5 h5 q5 => ?_)
  obtain ⟨z5, rfl⟩ := q5
  have z5 := z5.symm
  subst z5
  refine kx_if_eq (pc := 8) C 29 dX8_use_8 (by decide) (fun c8 => ?_) (fun c8 => ?_)
  · refine kx_iconst (pc := 29) C (v := -1) dX8_use_29 (by decide) ?_
    have nc : ¬ ((0 ≤ s.toInt ∧ s.toInt < (a 2 : Int)) ∧ (0 ≤ k.toInt ∧ k.toInt ≤ 3) ∧ 1 ≤ n.toInt ∧ n.toInt ≤ 999) := fun z => by
      first
        | exact kx_if0 c26 z.2.2
        | exact kx_if0 c15 z.2.1
        | exact kx_if0 c8 z.1
    exact hR dX8_use_30 rfl ⟨by rw [sp_use, if_neg nc], by rw [sp_useA, if_neg (fun z => nc z.1)]; exact hC, fun d j _ => rfl⟩
  · refine kx_ild2 (pc := 11) C dX8_use_11 ?_
    refine kx_callSI1 (pc := 12) C cs_X8_142 (m_X8_isSort _) (by decide) dX8_use_12 (Nat.le_of_ble_eq_true rfl) (fun r12 h12 q12 => ?_)
    obtain ⟨z12, rfl⟩ := q12
    have z12 := z12.symm
    subst z12
    refine kx_if_eq (pc := 15) C 29 dX8_use_15 (by decide) (fun c15 => ?_) (fun c15 => ?_)
    · refine kx_iconst (pc := 29) C (v := -1) dX8_use_29 (by decide) ?_
      have nc : ¬ ((0 ≤ s.toInt ∧ s.toInt < (a 2 : Int)) ∧ (0 ≤ k.toInt ∧ k.toInt ≤ 3) ∧ 1 ≤ n.toInt ∧ n.toInt ≤ 999) := fun z => by
        first
          | exact kx_if0 c26 z.2.2
          | exact kx_if0 c15 z.2.1
          | exact kx_if0 c8 z.1
      exact hR dX8_use_30 rfl ⟨by rw [sp_use, if_neg nc], by rw [sp_useA, if_neg (fun z => nc z.1)]; exact hC, fun d j _ => rfl⟩
    · refine kx_ild3 (pc := 18) C dX8_use_18 ?_
      refine kx_iconst (pc := 19) C (v := nI 1) dX8_use_19 (by decide) ?_
      refine kx_sipush (pc := 20) C (v := nI 999) dX8_use_20 (by decide) ?_
      refine kx_callSI3 (pc := 23) C cs_X8_75 (m_X8_isWithin _ _ _) (by decide) dX8_use_23 (Nat.le_of_ble_eq_true rfl) (fun r23 h23 q23 => ?_)
      obtain ⟨z23, rfl⟩ := q23
      have z23 := z23.symm
      subst z23
      refine kx_if_ne (pc := 26) C 31 dX8_use_26 (by decide) (fun c26 => ?_) (fun c26 => ?_)
      · have c8 := kx_if1 c8
        have c15 := kx_if1 c15
        have c26 := kx_if1 c26
        rw [show (nI 1).toInt = 1 from rfl, show (nI 999).toInt = 999 from rfl] at c26
        obtain ⟨i, rfl, hi, hi2⟩ := kx_nat c8.1
        obtain ⟨j, rfl, hj, hj2⟩ := kx_nat c15.1
        obtain ⟨m, rfl, hm, hm2⟩ := kx_nat (x := n) (by omega)
        have hy := hYD i j (by omega) (by omega)
        have hb9 := byy i j (by omega) (by omega)
        refine kx_ald0 (pc := 31) C dX8_use_31 ?_
        refine kx_getr (pc := 32) C fl_X8_10 fd_0_0 dX8_use_32 ?_
        refine kx_getr (pc := 35) C fl_X8_145 fd_1_8 dX8_use_35 ?_
        refine kx_ild1 (pc := 38) C dX8_use_38 ?_
        refine kx_aald1 (pc := 39) C ra_13 (by omega) dX8_use_39 ?_
        refine kx_ild2 (pc := 40) C dX8_use_40 ?_
        refine kx_iald (pc := 41) C (if_yds _ (by omega)) (by omega) hy dX8_use_41 ?_
        refine kx_ild3 (pc := 42) C dX8_use_42 ?_
        refine kx_icmp_geN (pc := 43) C 49 (by omega) (by omega) dX8_use_43 (by decide) (fun c43 => ?_) (fun c43 => ?_)
        · refine kx_ald0 (pc := 49) C dX8_use_49 ?_
          refine kx_getr (pc := 50) C fl_X8_10 fd_0_0 dX8_use_50 ?_
          refine kx_getr (pc := 53) C fl_X8_145 fd_1_8 dX8_use_53 ?_
          refine kx_ild1 (pc := 56) C dX8_use_56 ?_
          refine kx_aald1 (pc := 57) C ra_13 (by omega) dX8_use_57 ?_
          refine kx_ild2 (pc := 58) C dX8_use_58 ?_
          refine kx_dup2 (pc := 59) C dX8_use_59 rfl rfl ?_
          refine kx_iald (pc := 60) C (if_yds _ (by omega)) (by omega) hy dX8_use_60 ?_
          refine kx_ild3 (pc := 61) C dX8_use_61 ?_
          refine kx_isubN (pc := 62) C (by omega) dX8_use_62 ?_
          refine kx_iast (pc := 63) C (if_yds _ (by omega)) (by omega) dX8_use_63 ?_
          refine kx_ald0 (pc := 64) C dX8_use_64 ?_
          refine kx_getr (pc := 65) C fl_X8_10 fd_0_0 dX8_use_65 ?_
          refine kx_getr (pc := 68) C fl_X8_145 fd_1_8 dX8_use_68 ?_
          refine kx_ild1 (pc := 71) C dX8_use_71 ?_
          refine kx_aald1 (pc := 72) C ra_13 (by omega) dX8_use_72 ?_
          refine kx_ild2 (pc := 73) C dX8_use_73 ?_
          refine kx_iald (pc := 74) C (if_yds _ (by omega)) (by omega) (show _ = nI (a (93 + 4 * i + j) - m) by simp [kx_up]) dX8_use_74 ?_
          exact hR dX8_use_75 rfl ⟨by rw [sp_use, kx_n, kx_n, kx_n, kx_n_nI hi2, kx_n_nI hj2, kx_n_nI hm2, if_pos (by omega), if_neg (by omega)], by rw [sp_useA, kx_n, kx_n, kx_n, kx_n_nI hi2, kx_n_nI hj2, kx_n_nI hm2, if_pos (by omega)]; exact hC.yd (by omega) (by omega), fun d x hd => by rw [kx_up, if_neg (by omega)]⟩
        · refine kx_bipush (pc := 46) C (v := -2) dX8_use_46 (by decide) ?_
          exact hR dX8_use_48 rfl ⟨by rw [sp_use, kx_n, kx_n, kx_n, kx_n_nI hi2, kx_n_nI hj2, kx_n_nI hm2, if_pos (by omega), if_pos (by omega)], by rw [sp_useA, kx_n, kx_n, kx_n, kx_n_nI hi2, kx_n_nI hj2, kx_n_nI hm2, if_neg (by omega)]; exact hC, fun d j _ => rfl⟩
      · refine kx_iconst (pc := 29) C (v := -1) dX8_use_29 (by decide) ?_
        have nc : ¬ ((0 ≤ s.toInt ∧ s.toInt < (a 2 : Int)) ∧ (0 ≤ k.toInt ∧ k.toInt ≤ 3) ∧ 1 ≤ n.toInt ∧ n.toInt ≤ 999) := fun z => by
          first
            | exact kx_if0 c26 z.2.2
            | exact kx_if0 c15 z.2.1
            | exact kx_if0 c8 z.1
        exact hR dX8_use_30 rfl ⟨by rw [sp_use, if_neg nc], by rw [sp_useA, if_neg (fun z => nc z.1)]; exact hC, fun d j _ => rfl⟩
