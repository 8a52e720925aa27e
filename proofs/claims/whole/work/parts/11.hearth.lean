theorem kx_ifc {c d : Prop} [Decidable c] [Decidable d] (h : c ↔ d) : (if c then (1 : Int32) else 0) = if d then 1 else 0 := by
  by_cases q : c
  · rw [if_pos q, if_pos (h.mp q)]
  · rw [if_neg q, if_neg (fun z => q (h.mpr z))]
theorem kx_sh31 : ∀ s, s < 32 → nI s &&& 31 = nI s := by decide +kernel
theorem kx_smod : ∀ s, s < 32 → ((nI s).toBitVec.smod 32).toNat = s := by decide +kernel
theorem kx_shr {x s : Nat} (hx : x < 2 ^ 31) (hs : s < 31) : nI x >>> (nI s &&& 31) = nI (x / 2 ^ s) := by
  rw [kx_sh31 s (by omega)]
  exact pk_shrN hx (nI s) s (kx_smod s (by omega))
theorem kx_bit {x s : Nat} (hx : x < 2 ^ 31) (hs : s < 31) : (nI x >>> (nI s &&& 31)) &&& nI 1 = nI (x / 2 ^ s % 2) := by
  rw [kx_shr hx hs]
  have h := pk_andN (n := x / 2 ^ s) (Nat.lt_of_le_of_lt (Nat.div_le_self _ _) (by omega)) (m := nI 1) 1 (by decide)
  simpa using h
theorem kx_sl1 {s : Nat} (hs : s < 31) : nI 1 <<< (nI s &&& 31) = nI (2 ^ s) := by
  rw [kx_sh31 s (by omega)]
  have h2 : 1 * 2 ^ s < 2 ^ 32 := by
    have : 2 ^ s ≤ 2 ^ 31 := Nat.pow_le_pow_right (by decide) (by omega)
    omega
  have h := pk_shlN (n := 1) (nI s) s (kx_smod s (by omega)) h2
  rw [Nat.one_mul] at h
  exact h
/-! THE STATE: a hearth as numbers, in the reference's places: 0 tales, 1 tellers, 2 spinners, 3 evenings, 4 broken tale + 1 (0: none), 5 by, 6 told, 7 set, 8 memory, 9.. tensions, 81.. lengths, 89.. kinds, 93.. yards, 109.. heard -/
def st_RD (l t0 k0 : Nat) (h : kx_H) (a : Nat → Nat) : Prop := (∀ t, t < 8 → h l t = nI (a (81 + t))) ∧ (∀ t i, t < 8 → i < 9 → h (t0 + t) i = nI (a (9 + 9 * t + i))) ∧ ∀ e, e < 4 → h k0 e = nI (a (89 + e))
def st_SC (ob : Nat) (h : kx_H) (a : Nat → Nat) : Prop := h ob 0 = nI (a 0) ∧ h ob 1 = nI (a 1) ∧ h ob 2 = nI (a 2) ∧ h ob 3 = nI (a 3) ∧ h ob 4 = nI (a 8)
def st_YD (y0 : Nat) (h : kx_H) (a : Nat → Nat) : Prop := ∀ s k, s < 4 → k < 4 → h (y0 + s) k = nI (a (93 + 4 * s + k))
def st_HD (d0 : Nat) (h : kx_H) (a : Nat → Nat) : Prop := ∀ s t, s < 4 → t < 8 → h (d0 + s) t = nI (a (109 + 8 * s + t))
def st_BR (ob : Nat) (h : kx_H) (a : Nat → Nat) : Prop := (a 4 = 0 ∧ h ob 10 = -1) ∨ (0 < a 4 ∧ h ob 10 = nI (a 4 - 1) ∧ h ob 11 = nI (a 5) ∧ h ob 12 = nI (a 6) ∧ h ob 13 = nI (a 7))
/-- the class's hearth -/
def st_CH (h : kx_H) (a : Nat → Nat) : Prop := st_SC 1 h a ∧ st_RD 2 4 12 h a ∧ st_YD 14 h a ∧ st_HD 19 h a ∧ st_BR 1 h a
/-- what it keeps as an image -/
def st_CK (h : kx_H) (a : Nat → Nat) : Prop := st_SC 23 h a ∧ st_RD 24 26 34 h a ∧ st_YD 36 h a ∧ st_HD 41 h a ∧ st_BR 23 h a
def st_RB (a : Nat → Nat) : Prop := (∀ t, t < 8 → a (81 + t) ≤ 9) ∧ (∀ t i, t < 8 → i < 9 → a (9 + 9 * t + i) ≤ 9) ∧ ∀ e, e < 4 → a (89 + e) ≤ 3
/-- the numbers' bounds -/
def st_B (a : Nat → Nat) : Prop := (a 0 ≤ 8 ∧ a 1 ≤ 4 ∧ a 2 ≤ 4 ∧ a 3 ≤ 9999 ∧ 1 ≤ a 8 ∧ a 8 ≤ 99) ∧ st_RB a ∧ (∀ t, t < a 0 → 1 ≤ a (81 + t)) ∧ (∀ s k, s < 4 → k < 4 → a (93 + 4 * s + k) ≤ 9 * a 3) ∧ (∀ s t, s < 4 → t < 8 → a (109 + 8 * s + t) ≤ a 3) ∧ (∀ s, a 2 ≤ s → s < 4 → (∀ k, k < 4 → a (93 + 4 * s + k) = 0) ∧ ∀ t, t < 8 → a (109 + 8 * s + t) = 0) ∧ (0 < a 4 → a 4 ≤ a 0 ∧ a 5 < a 1 ∧ 1 ≤ a 6 ∧ a 6 < a (81 + (a 4 - 1)) ∧ a 7 < 16)
def sp_te (a : Nat → Nat) (e t i : Nat) : Nat := sp_by (a (89 + e)) (a (9 + 9 * t + sp_ix (a (89 + e)) (a (81 + t)) i))
def sp_mind (a : Nat → Nat) (s t ev : Nat) : Prop := 0 < a (109 + 8 * s + t) ∧ ev ≤ a (109 + 8 * s + t) + a 8
theorem sp_te_le {a : Nat → Nat} (hb : st_RB a) {e t i : Nat} (ht : t < 8) (hi : i < a (81 + t)) : sp_te a e t i ≤ 9 := by
  have h1 := hb.1 t ht
  have : sp_ix (a (89 + e)) (a (81 + t)) i < 9 := by unfold sp_ix; split <;> omega
  exact sp_by_le (hb.2.1 t _ ht this)
def sp_so (m : Nat) (v : Nat) : Nat := if m = 0 then v / 3 else v / 3 - 1
theorem sp_so_lt {m v : Nat} (h : v ≤ 9) : sp_so m v < 4 := by unfold sp_so; split <;> omega
/-- how many of f from, .. , f (from + n - 1) are k -/
def sp_cn (f : Nat → Nat) (k fr : Nat) : Nat → Nat
  | 0 => 0
  | n + 1 => sp_cn f k fr n + if f (fr + n) = k then 1 else 0
theorem sp_cn_le (f : Nat → Nat) (k fr : Nat) : ∀ n, sp_cn f k fr n ≤ n
  | 0 => Nat.le_refl 0
  | n + 1 => by have := sp_cn_le f k fr n; unfold sp_cn; split <;> omega

set_option maxHeartbeats 4000000 in
set_option maxRecDepth 100000 in
theorem m_X2_hasTale {h : kx_H} {a : Nat → Nat} (v : Int32) (hT : h 1 0 = nI (a 0)) (hb : a 0 ≤ 8) : kx_MI 2 yX2_hasTale cX2_hasTale 2 .boolean [.ref 1, .int v] h (fun r h1 => h1 = h ∧ r = if 0 ≤ v.toInt ∧ v.toInt < (a 0 : Int) then 1 else 0) := by
  refine kx_mkI (own := RX2) (L0 := [some (.ref 1), some (.int v)]) rfl (by decide +kernel) (Nat.le_of_ble_eq_true rfl) rfl (fun F C hR => ?_)
  refine kx_ild1 (pc := 0) C dX2_hasTale_0 ?_
  refine kx_iconst (pc := 1) C (v := nI 0) dX2_hasTale_1 (by decide) ?_
  refine kx_ald0 (pc := 2) C dX2_hasTale_2 ?_
  refine kx_geti (pc := 3) C fl_X2_36 fd_1_0 (by first | assumption | rfl) dX2_hasTale_3 ?_
  refine kx_iconst (pc := 6) C (v := nI 1) dX2_hasTale_6 (by decide) ?_
  refine kx_isub (pc := 7) C dX2_hasTale_7 ?_
  refine kx_callNI3 (pc := 8) C cs_X2_39 (m_X8_isWithin _ _ _) (by decide) dX2_hasTale_8 (Nat.le_of_ble_eq_true rfl) (fun r8 h8 q8 => ?_)
  obtain ⟨rfl, rfl⟩ := q8
  exact hR dX2_hasTale_11 (kx_b01 _) ⟨rfl, kx_ifc (by rw [kx_Ts (by omega) (by omega), show (nI 0).toInt = 0 from rfl]; omega)⟩
set_option maxHeartbeats 4000000 in
set_option maxRecDepth 100000 in
theorem m_X2_hasTeller {h : kx_H} {a : Nat → Nat} (v : Int32) (hT : h 1 1 = nI (a 1)) (hb : a 1 ≤ 8) : kx_MI 2 yX2_hasTeller cX2_hasTeller 2 .boolean [.ref 1, .int v] h (fun r h1 => h1 = h ∧ r = if 0 ≤ v.toInt ∧ v.toInt < (a 1 : Int) then 1 else 0) := by
  refine kx_mkI (own := RX2) (L0 := [some (.ref 1), some (.int v)]) rfl (by decide +kernel) (Nat.le_of_ble_eq_true rfl) rfl (fun F C hR => ?_)
  refine kx_ild1 (pc := 0) C dX2_hasTeller_0 ?_
  refine kx_iconst (pc := 1) C (v := nI 0) dX2_hasTeller_1 (by decide) ?_
  refine kx_ald0 (pc := 2) C dX2_hasTeller_2 ?_
  refine kx_geti (pc := 3) C fl_X2_47 fd_1_1 (by first | assumption | rfl) dX2_hasTeller_3 ?_
  refine kx_iconst (pc := 6) C (v := nI 1) dX2_hasTeller_6 (by decide) ?_
  refine kx_isub (pc := 7) C dX2_hasTeller_7 ?_
  refine kx_callNI3 (pc := 8) C cs_X2_39 (m_X8_isWithin _ _ _) (by decide) dX2_hasTeller_8 (Nat.le_of_ble_eq_true rfl) (fun r8 h8 q8 => ?_)
  obtain ⟨rfl, rfl⟩ := q8
  exact hR dX2_hasTeller_11 (kx_b01 _) ⟨rfl, kx_ifc (by rw [kx_Ts (by omega) (by omega), show (nI 0).toInt = 0 from rfl]; omega)⟩
set_option maxHeartbeats 4000000 in
set_option maxRecDepth 100000 in
theorem m_X2_hasSpinner {h : kx_H} {a : Nat → Nat} (v : Int32) (hT : h 1 2 = nI (a 2)) (hb : a 2 ≤ 8) : kx_MI 2 yX2_hasSpinner cX2_hasSpinner 2 .boolean [.ref 1, .int v] h (fun r h1 => h1 = h ∧ r = if 0 ≤ v.toInt ∧ v.toInt < (a 2 : Int) then 1 else 0) := by
  refine kx_mkI (own := RX2) (L0 := [some (.ref 1), some (.int v)]) rfl (by decide +kernel) (Nat.le_of_ble_eq_true rfl) rfl (fun F C hR => ?_)
  refine kx_ild1 (pc := 0) C dX2_hasSpinner_0 ?_
  refine kx_iconst (pc := 1) C (v := nI 0) dX2_hasSpinner_1 (by decide) ?_
  refine kx_ald0 (pc := 2) C dX2_hasSpinner_2 ?_
  refine kx_geti (pc := 3) C fl_X2_50 fd_1_2 (by first | assumption | rfl) dX2_hasSpinner_3 ?_
  refine kx_iconst (pc := 6) C (v := nI 1) dX2_hasSpinner_6 (by decide) ?_
  refine kx_isub (pc := 7) C dX2_hasSpinner_7 ?_
  refine kx_callNI3 (pc := 8) C cs_X2_39 (m_X8_isWithin _ _ _) (by decide) dX2_hasSpinner_8 (Nat.le_of_ble_eq_true rfl) (fun r8 h8 q8 => ?_)
  obtain ⟨rfl, rfl⟩ := q8
  exact hR dX2_hasSpinner_11 (kx_b01 _) ⟨rfl, kx_ifc (by rw [kx_Ts (by omega) (by omega), show (nI 0).toInt = 0 from rfl]; omega)⟩
set_option maxHeartbeats 4000000 in
set_option maxRecDepth 100000 in
theorem m_X2_hasSentence {h : kx_H} {a : Nat → Nat} (t i : Int32) (hT : h 1 0 = nI (a 0)) (hb : a 0 ≤ 8) (hlen : ∀ t, t < 8 → h 2 t = nI (a (81 + t))) (hl9 : ∀ t, t < 8 → a (81 + t) ≤ 9) : kx_MI 3 yX2_hasSentence cX2_hasSentence 3 .boolean [.ref 1, .int t, .int i] h (fun r h1 => h1 = h ∧ r = if (0 ≤ t.toInt ∧ t.toInt < (a 0 : Int)) ∧ 0 ≤ i.toInt ∧ i.toInt < (a (81 + t.toInt.toNat) : Int) then 1 else 0) := by
  refine kx_mkI (own := RX2) (L0 := [some (.ref 1), some (.int t), some (.int i)]) rfl (by decide +kernel) (Nat.le_of_ble_eq_true rfl) rfl (fun F C hR => ?_)
  refine kx_ald0 (pc := 0) C dX2_hasSentence_0 ?_
  refine kx_ild1 (pc := 1) C dX2_hasSentence_1 ?_
  refine kx_callVI1 (pc := 2) C cs_X2_43 ob_1 (m_X2_hasTale _ (by assumption) (by omega)) (by decide) dX2_hasSentence_2 (Nat.le_of_ble_eq_true rfl) (fun r2 h2 q2 => ?_)
  obtain ⟨rfl, rfl⟩ := q2
  refine kx_if_eq (pc := 5) C 28 dX2_hasSentence_5 (by decide) (fun c5 => ?_) (fun c5 => ?_)
  · refine kx_iconst (pc := 28) C (v := nI 0) dX2_hasSentence_28 (by decide) ?_
    first
      | exact hR dX2_hasSentence_29 rfl ⟨rfl, by rw [if_neg (fun q => kx_if0 c5 q.1)]; rfl⟩
      | (simp only [kx_Ts (show a (81 + j) < 2 ^ 30 by omega) (show 1 < 2 ^ 30 by omega), show (nI 0).toInt = 0 from rfl] at c21
         rw [hj] at c5
         first
           | exact hR dX2_hasSentence_29 rfl ⟨rfl, by rw [if_neg (fun q => kx_if0 c21 (by have := q.2; rw [hj, Int.toNat_natCast] at this; omega))]; rfl⟩
           | exact hR dX2_hasSentence_29 rfl ⟨rfl, by rw [if_pos ⟨by omega, by have := kx_if1 c21; rw [hj, Int.toNat_natCast]; omega⟩]; rfl⟩)
  · have c5 := kx_if1 c5
    obtain ⟨j, rfl, hj, hj2⟩ := kx_nat c5.1
    have hl := hl9 j (by omega)
    refine kx_ild2 (pc := 8) C dX2_hasSentence_8 ?_
    refine kx_iconst (pc := 9) C (v := nI 0) dX2_hasSentence_9 (by decide) ?_
    refine kx_ald0 (pc := 10) C dX2_hasSentence_10 ?_
    refine kx_getr (pc := 11) C fl_X2_15 fd_1_5 dX2_hasSentence_11 ?_
    refine kx_ild1 (pc := 14) C dX2_hasSentence_14 ?_
    refine kx_iald (pc := 15) C ia_2 (by omega) (hlen _ (by omega)) dX2_hasSentence_15 ?_
    refine kx_iconst (pc := 16) C (v := nI 1) dX2_hasSentence_16 (by decide) ?_
    refine kx_isub (pc := 17) C dX2_hasSentence_17 ?_
    refine kx_callNI3 (pc := 18) C cs_X2_39 (m_X8_isWithin _ _ _) (by decide) dX2_hasSentence_18 (Nat.le_of_ble_eq_true rfl) (fun r18 h18 q18 => ?_)
    obtain ⟨rfl, rfl⟩ := q18
    refine kx_if_eq (pc := 21) C 28 dX2_hasSentence_21 (by decide) (fun c21 => ?_) (fun c21 => ?_)
    · refine kx_iconst (pc := 28) C (v := nI 0) dX2_hasSentence_28 (by decide) ?_
      first
        | exact hR dX2_hasSentence_29 rfl ⟨rfl, by rw [if_neg (fun q => kx_if0 c5 q.1)]; rfl⟩
        | (simp only [kx_Ts (show a (81 + j) < 2 ^ 30 by omega) (show 1 < 2 ^ 30 by omega), show (nI 0).toInt = 0 from rfl] at c21
           rw [hj] at c5
           first
             | exact hR dX2_hasSentence_29 rfl ⟨rfl, by rw [if_neg (fun q => kx_if0 c21 (by have := q.2; rw [hj, Int.toNat_natCast] at this; omega))]; rfl⟩
             | exact hR dX2_hasSentence_29 rfl ⟨rfl, by rw [if_pos ⟨by omega, by have := kx_if1 c21; rw [hj, Int.toNat_natCast]; omega⟩]; rfl⟩)
    · refine kx_iconst (pc := 24) C (v := nI 1) dX2_hasSentence_24 (by decide) ?_
      refine kx_goto (pc := 25) C 29 dX2_hasSentence_25 (by decide) ?_
      first
        | exact hR dX2_hasSentence_29 rfl ⟨rfl, by rw [if_neg (fun q => kx_if0 c5 q.1)]; rfl⟩
        | (simp only [kx_Ts (show a (81 + j) < 2 ^ 30 by omega) (show 1 < 2 ^ 30 by omega), show (nI 0).toInt = 0 from rfl] at c21
           rw [hj] at c5
           first
             | exact hR dX2_hasSentence_29 rfl ⟨rfl, by rw [if_neg (fun q => kx_if0 c21 (by have := q.2; rw [hj, Int.toNat_natCast] at this; omega))]; rfl⟩
             | exact hR dX2_hasSentence_29 rfl ⟨rfl, by rw [if_pos ⟨by omega, by have := kx_if1 c21; rw [hj, Int.toNat_natCast]; omega⟩]; rfl⟩)
set_option maxHeartbeats 4000000 in
set_option maxRecDepth 100000 in
theorem m_X2_hasAllOf {h : kx_H} {a : Nat → Nat} (v : Int32) (hS : h 1 2 = nI (a 2)) (hb : a 2 ≤ 4) : kx_MI 2 yX2_hasAllOf cX2_hasAllOf 2 .boolean [.ref 1, .int v] h (fun r h1 => h1 = h ∧ r = if 0 ≤ v.toInt ∧ v.toInt < ((2 ^ a 2 : Nat) : Int) then 1 else 0) := by
  refine kx_mkI (own := RX2) (L0 := [some (.ref 1), some (.int v)]) rfl (by decide +kernel) (Nat.le_of_ble_eq_true rfl) rfl (fun F C hR => ?_)
  refine kx_ild1 (pc := 0) C dX2_hasAllOf_0 ?_
  refine kx_iconst (pc := 1) C (v := nI 0) dX2_hasAllOf_1 (by decide) ?_
  refine kx_iconst (pc := 2) C (v := nI 1) dX2_hasAllOf_2 (by decide) ?_
  refine kx_ald0 (pc := 3) C dX2_hasAllOf_3 ?_
  refine kx_geti (pc := 4) C fl_X2_50 fd_1_2 (by first | assumption | rfl) dX2_hasAllOf_4 ?_
  refine kx_ishl (pc := 7) C dX2_hasAllOf_7 ?_
  rw [kx_sl1 (by omega)]
  refine kx_iconst (pc := 8) C (v := nI 1) dX2_hasAllOf_8 (by decide) ?_
  refine kx_isub (pc := 9) C dX2_hasAllOf_9 ?_
  refine kx_callNI3 (pc := 10) C cs_X2_39 (m_X8_isWithin _ _ _) (by decide) dX2_hasAllOf_10 (Nat.le_of_ble_eq_true rfl) (fun r10 h10 q10 => ?_)
  obtain ⟨rfl, rfl⟩ := q10
  have h16 : 2 ^ a 2 ≤ 2 ^ 4 := Nat.pow_le_pow_right (by decide) hb
  exact hR dX2_hasAllOf_13 (kx_b01 _) ⟨rfl, kx_ifc (by rw [kx_Ts (by omega) (by omega), show (nI 0).toInt = 0 from rfl]; omega)⟩
set_option maxHeartbeats 4000000 in
set_option maxRecDepth 100000 in
theorem m_X2_tensionBy {h : kx_H} {a : Nat → Nat} {e t i : Nat} (hRD : st_RD 2 4 12 h a) (hRB : st_RB a) (he : e < 4) (ht : t < 8) (hi : i < a (81 + t)) : kx_MI 3 yX2_tensionBy cX2_tensionBy 5 .int [.ref 1, .int (nI e), .int (nI t), .int (nI i)] h (fun r h1 => h1 = h ∧ r = nI (sp_te a e t i)) := by
  refine kx_mkI (own := RX2) (L0 := [some (.ref 1), some (.int (nI e)), some (.int (nI t)), some (.int (nI i)), none]) rfl (by decide +kernel) (Nat.le_of_ble_eq_true rfl) rfl (fun F C hR => ?_)
  obtain ⟨hlen, hten, hkd⟩ := hRD
  have b1 := hRB.1 t ht
  have b3 := hRB.2.2 e he
  refine kx_ald0 (pc := 0) C dX2_tensionBy_0 ?_
  refine kx_getr (pc := 1) C fl_X2_24 fd_1_7 dX2_tensionBy_1 ?_
  refine kx_ild1 (pc := 4) C dX2_tensionBy_4 ?_
  refine kx_iald (pc := 5) C ia_12 (by omega) (by first | exact hlen _ (by omega) | exact hkd _ (by omega) | exact hten _ _ (by omega) (by omega) | assumption | rfl) dX2_tensionBy_5 ?_
  refine kx_iconst (pc := 6) C (v := nI 3) dX2_tensionBy_6 (by decide) ?_
  refine kx_icmp_neN (pc := 7) C 23 (by omega) (by omega) dX2_tensionBy_7 (by decide) (fun c7 => ?_) (fun c7 => ?_)
  · refine kx_ild3 (pc := 23) C dX2_tensionBy_23 ?_
    refine kx_ist4 (pc := 24) C dX2_tensionBy_24 (by decide) rfl ?_
    refine kx_ald0 (pc := 26) C dX2_tensionBy_26 ?_
    refine kx_getr (pc := 27) C fl_X2_24 fd_1_7 dX2_tensionBy_27 ?_
    refine kx_ild1 (pc := 30) C dX2_tensionBy_30 ?_
    refine kx_iald (pc := 31) C ia_12 (by omega) (by first | exact hlen _ (by omega) | exact hkd _ (by omega) | exact hten _ _ (by omega) (by omega) | assumption | rfl) dX2_tensionBy_31 ?_
    refine kx_ald0 (pc := 32) C dX2_tensionBy_32 ?_
    refine kx_getr (pc := 33) C fl_X2_21 fd_1_6 dX2_tensionBy_33 ?_
    refine kx_ild2 (pc := 36) C dX2_tensionBy_36 ?_
    refine kx_aald1 (pc := 37) C ra_3 (by omega) dX2_tensionBy_37 ?_
    refine kx_ild4 (pc := 38) C dX2_tensionBy_38 ?_
    refine kx_iald (pc := 40) C (if_ten _ (by omega)) (by omega) (by first | exact hlen _ (by omega) | exact hkd _ (by omega) | exact hten _ _ (by omega) (by omega) | assumption | rfl) dX2_tensionBy_40 ?_
    refine kx_callNI2 (pc := 41) C cs_X2_59 (m_X8_asToldBy (by omega) (hRB.2.1 t _ ht (by omega))) (by decide) dX2_tensionBy_41 (Nat.le_of_ble_eq_true rfl) (fun r41 h41 q41 => ?_)
    obtain ⟨rfl, rfl⟩ := q41
    exact hR dX2_tensionBy_44 rfl ⟨rfl, by unfold sp_te sp_ix; first | rw [if_pos c7] | rw [if_neg c7]⟩
  · refine kx_ald0 (pc := 10) C dX2_tensionBy_10 ?_
    refine kx_getr (pc := 11) C fl_X2_15 fd_1_5 dX2_tensionBy_11 ?_
    refine kx_ild2 (pc := 14) C dX2_tensionBy_14 ?_
    refine kx_iald (pc := 15) C ia_2 (by omega) (by first | exact hlen _ (by omega) | exact hkd _ (by omega) | exact hten _ _ (by omega) (by omega) | assumption | rfl) dX2_tensionBy_15 ?_
    refine kx_iconst (pc := 16) C (v := nI 1) dX2_tensionBy_16 (by decide) ?_
    refine kx_isubN (pc := 17) C (by omega) dX2_tensionBy_17 ?_
    refine kx_ild3 (pc := 18) C dX2_tensionBy_18 ?_
    refine kx_isubN (pc := 19) C (by omega) dX2_tensionBy_19 ?_
    refine kx_goto (pc := 20) C 24 dX2_tensionBy_20 (by decide) ?_
    refine kx_ist4 (pc := 24) C dX2_tensionBy_24 (by decide) rfl ?_
    refine kx_ald0 (pc := 26) C dX2_tensionBy_26 ?_
    refine kx_getr (pc := 27) C fl_X2_24 fd_1_7 dX2_tensionBy_27 ?_
    refine kx_ild1 (pc := 30) C dX2_tensionBy_30 ?_
    refine kx_iald (pc := 31) C ia_12 (by omega) (by first | exact hlen _ (by omega) | exact hkd _ (by omega) | exact hten _ _ (by omega) (by omega) | assumption | rfl) dX2_tensionBy_31 ?_
    refine kx_ald0 (pc := 32) C dX2_tensionBy_32 ?_
    refine kx_getr (pc := 33) C fl_X2_21 fd_1_6 dX2_tensionBy_33 ?_
    refine kx_ild2 (pc := 36) C dX2_tensionBy_36 ?_
    refine kx_aald1 (pc := 37) C ra_3 (by omega) dX2_tensionBy_37 ?_
    refine kx_ild4 (pc := 38) C dX2_tensionBy_38 ?_
    refine kx_iald (pc := 40) C (if_ten _ (by omega)) (by omega) (by first | exact hlen _ (by omega) | exact hkd _ (by omega) | exact hten _ _ (by omega) (by omega) | assumption | rfl) dX2_tensionBy_40 ?_
    refine kx_callNI2 (pc := 41) C cs_X2_59 (m_X8_asToldBy (by omega) (hRB.2.1 t _ ht (by omega))) (by decide) dX2_tensionBy_41 (Nat.le_of_ble_eq_true rfl) (fun r41 h41 q41 => ?_)
    obtain ⟨rfl, rfl⟩ := q41
    exact hR dX2_tensionBy_44 rfl ⟨rfl, by unfold sp_te sp_ix; first | rw [if_pos c7] | rw [if_neg c7]⟩
set_option maxHeartbeats 4000000 in
set_option maxRecDepth 100000 in
theorem m_X2_isInMind {h : kx_H} {a : Nat → Nat} {s t v : Nat} (hme : h 1 4 = nI (a 8)) (hm : a 8 ≤ 99) (hhd : st_HD 19 h a) (hs : s < 4) (ht : t < 8) (hv : v < 2 ^ 31) (hd : a (109 + 8 * s + t) ≤ v) : kx_MI 2 yX2_isInMind cX2_isInMind 4 .boolean [.ref 1, .int (nI s), .int (nI t), .int (nI v)] h (fun r h1 => h1 = h ∧ r = if 0 < a (109 + 8 * s + t) ∧ v ≤ a (109 + 8 * s + t) + a 8 then 1 else 0) := by
  refine kx_mkI (own := RX2) (L0 := [some (.ref 1), some (.int (nI s)), some (.int (nI t)), some (.int (nI v))]) rfl (by decide +kernel) (Nat.le_of_ble_eq_true rfl) rfl (fun F C hR => ?_)
  refine kx_ald0 (pc := 0) C dX2_isInMind_0 ?_
  refine kx_getr (pc := 1) C fl_X2_30 fd_1_9 dX2_isInMind_1 ?_
  refine kx_ild1 (pc := 4) C dX2_isInMind_4 ?_
  refine kx_aald1 (pc := 5) C ra_18 (by omega) dX2_isInMind_5 ?_
  refine kx_ild2 (pc := 6) C dX2_isInMind_6 ?_
  refine kx_iald (pc := 7) C (if_hrd _ (by omega)) (by omega) (by first | exact hhd _ _ (by omega) (by omega) | assumption | rfl) dX2_isInMind_7 ?_
  refine kx_ild3 (pc := 8) C dX2_isInMind_8 ?_
  refine kx_ald0 (pc := 9) C dX2_isInMind_9 ?_
  refine kx_geti (pc := 10) C fl_X2_9 fd_1_4 (by first | exact hhd _ _ (by omega) (by omega) | assumption | rfl) dX2_isInMind_10 ?_
  refine kx_callNI3 (pc := 13) C cs_X2_63 (m_X8_isRemembered hd hv (by omega)) (by decide) dX2_isInMind_13 (Nat.le_of_ble_eq_true rfl) (fun r13 h13 q13 => ?_)
  obtain ⟨rfl, rfl⟩ := q13
  exact hR dX2_isInMind_16 (kx_b01 _) ⟨rfl, rfl⟩
theorem st_RD.kept {l t0 k0 c : Nat} {h g : kx_H} {a : Nat → Nat} (hr : st_RD l t0 k0 h a) (hg : ∀ d j, d ≠ c → g d j = h d j) (h1 : c ≠ l) (h2 : c < t0 ∨ t0 + 8 ≤ c) (h3 : c ≠ k0) : st_RD l t0 k0 g a :=
  ⟨fun t ht => by rw [hg l t (fun q => h1 q.symm)]; exact hr.1 t ht, fun t i ht hi => by rw [hg (t0 + t) i (by omega)]; exact hr.2.1 t i ht hi, fun e he => by rw [hg k0 e (fun q => h3 q.symm)]; exact hr.2.2 e he⟩
set_option maxHeartbeats 4000000 in
set_option maxRecDepth 100000 in
theorem m_X2_spin {h : kx_H} {a : Nat → Nat} {c e t fr to m : Nat} (hRD : st_RD 2 4 12 h a) (hRB : st_RB a) (hc : kx_ia c 4) (hc2 : 13 ≤ c) (he : e < 4) (ht : t < 8) (hto : to ≤ a (81 + t)) (hfr : fr ≤ to) (hm : m ≤ 1) : kx_MV 4 yX2_spin cX2_spin 9 [.ref 1, .ref c, .int (nI e), .int (nI t), .int (nI fr), .int (nI to), .int (nI m)] h (fun h1 => (∀ k, k < 4 → h1 c k = h c k + nI (sp_cn (fun i => sp_so m (sp_te a e t i)) k fr (to - fr))) ∧ ∀ d j, d ≠ c → h1 d j = h d j) := by
  refine kx_mkV (own := RX2) (L0 := [some (.ref 1), some (.ref c), some (.int (nI e)), some (.int (nI t)), some (.int (nI fr)), some (.int (nI to)), some (.int (nI m)), none, none]) rfl (by decide +kernel) (Nat.le_of_ble_eq_true rfl) rfl (fun F C hR => ?_)
  have b1 := hRB.1 t ht
  have loop : ∀ (q i : Nat) (g : kx_H) (z : Option Value), kx_nl [some (.ref 1), some (.ref c), some (.int (nI e)), some (.int (nI t)), some (.int (nI fr)), some (.int (nI to)), some (.int (nI m)), some (.int (nI i)), z] 8 = true → to - i = q → i ≤ to → fr ≤ i → (∀ k, k < 4 → g c k = h c k + nI (sp_cn (fun i => sp_so m (sp_te a e t i)) k fr (i - fr))) → (∀ d j, d ≠ c → g d j = h d j) → F 4 [some (.ref 1), some (.ref c), some (.int (nI e)), some (.int (nI t)), some (.int (nI fr)), some (.int (nI to)), some (.int (nI m)), some (.int (nI i)), z] [] g := by
    intro q
    induction q with
    | zero =>
      intro i g z hz hq hi hf hk hg
      refine kx_ild7 (pc := 4) C dX2_spin_4 ?_
      refine kx_ild5 (pc := 6) C dX2_spin_6 ?_
      refine kx_icmp_geN (pc := 8) C 51 (by omega) (by omega) dX2_spin_8 (by decide) (fun c8 => ?_) (fun c8 => ?_)
      · exact hR dX2_spin_51 ⟨fun k z => by rw [hk k z, show i - fr = to - fr by omega], hg⟩
      · omega
    | succ q ih =>
      intro i g z hz hq hi hf hk hg
      have hrd : st_RD 2 4 12 g a := hRD.kept hg (by omega) (by omega) (by omega)
      have key : ∀ x, x < 4 → x = sp_so m (sp_te a e t i) → F 40 [some (.ref 1), some (.ref c), some (.int (nI e)), some (.int (nI t)), some (.int (nI fr)), some (.int (nI to)), some (.int (nI m)), some (.int (nI i)), some (.int (nI (sp_te a e t i / 3)))] [.int (nI x), .ref c] g := by
        intro x hx ex
        have hv := hk x hx
        refine kx_dup2 (pc := 40) C dX2_spin_40 rfl rfl ?_
        refine kx_iald (pc := 41) C hc (by omega) (by first | assumption | rfl) dX2_spin_41 ?_
        refine kx_iconst (pc := 42) C (v := nI 1) dX2_spin_42 (by decide) ?_
        refine kx_iadd (pc := 43) C dX2_spin_43 ?_
        refine kx_iast (pc := 44) C hc (by omega) dX2_spin_44 ?_
        first | refine kx_inc7 (pc := 45) C (v := nI (_ + 1)) dX2_spin_45 (by decide) rfl (nI_1 _) ?_ | refine kx_inc7 (pc := 45) C dX2_spin_45 (by decide) rfl rfl ?_
        refine kx_goto (pc := 48) C 4 dX2_spin_48 (by decide) ?_
        refine ih (i + 1) _ _ rfl (by omega) (by omega) (by omega) (fun k hk4 => ?_) (fun d j hd => by simp only [kx_up, hd, false_and, if_false]; exact hg d j hd)
        rw [show i + 1 - fr = (i - fr) + 1 by omega, sp_cn, show fr + (i - fr) = i by omega]
        by_cases hkx : k = x
        · subst hkx
          simp only [kx_up, and_self, if_true]
          rw [if_pos ex.symm, ← nI_add, Int32.add_assoc]
        · simp only [kx_up, hkx, and_false, if_false]
          rw [if_neg (fun z => hkx (by rw [ex, ← z])), hk k hk4]
          rfl
      have hte := sp_te_le hRB (e := e) ht (show i < a (81 + t) by omega)
      have hso := sp_so_lt (m := m) hte
      refine kx_ild7 (pc := 4) C dX2_spin_4 ?_
      refine kx_ild5 (pc := 6) C dX2_spin_6 ?_
      refine kx_icmp_geN (pc := 8) C 51 (by omega) (by omega) dX2_spin_8 (by decide) (fun c8 => ?_) (fun c8 => ?_)
      · omega
      · refine kx_ald0 (pc := 11) C dX2_spin_11 ?_
        refine kx_ild2 (pc := 12) C dX2_spin_12 ?_
        refine kx_ild3 (pc := 13) C dX2_spin_13 ?_
        refine kx_ild7 (pc := 14) C dX2_spin_14 ?_
        refine kx_callVI3 (pc := 16) C cs_X2_100 ob_1 (m_X2_tensionBy hrd hRB he ht (by omega)) (by decide) dX2_spin_16 (Nat.le_of_ble_eq_true rfl) (fun r16 h16 q16 => ?_)
        obtain ⟨rfl, rfl⟩ := q16
        refine kx_callNI1 (pc := 19) C cs_X2_104 (m_X8_sortOf (by omega)) (by decide) dX2_spin_19 (Nat.le_of_ble_eq_true rfl) (fun r19 h19 q19 => ?_)
        obtain ⟨rfl, rfl⟩ := q19
        refine kx_ist8 (pc := 22) C dX2_spin_22 (by decide) rfl ?_
        refine kx_ald1 (pc := 24) C dX2_spin_24 ?_
        refine kx_ild6 (pc := 25) C dX2_spin_25 ?_
        refine kx_if_eqN (pc := 27) C 38 (by omega) dX2_spin_27 (by decide) (fun c27 => ?_) (fun c27 => ?_)
        · refine kx_ild8 (pc := 38) C dX2_spin_38 ?_
          exact key _ (by omega) (by unfold sp_so; first | rw [if_pos c27] | rw [if_neg (by omega)])
        · refine kx_ild8 (pc := 30) C dX2_spin_30 ?_
          refine kx_callNI1 (pc := 32) C cs_X2_107 (m_X8_duller (by omega)) (by decide) dX2_spin_32 (Nat.le_of_ble_eq_true rfl) (fun r32 h32 q32 => ?_)
          obtain ⟨rfl, rfl⟩ := q32
          refine kx_goto (pc := 35) C 40 dX2_spin_35 (by decide) ?_
          exact key _ (by omega) (by unfold sp_so; first | rw [if_pos c27] | rw [if_neg (by omega)])
  refine kx_ild4 (pc := 0) C dX2_spin_0 ?_
  refine kx_ist7 (pc := 2) C dX2_spin_2 (by decide) rfl ?_
  exact loop (to - fr) fr h none rfl (by omega) (by omega) (by omega) (fun k hk => by rw [Nat.sub_self]; show _ = _ + nI 0; rw [nI_zero, Int32.add_zero]) (fun d j _ => rfl)
