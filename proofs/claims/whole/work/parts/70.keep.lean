/-! THE BOUNDS ARE KEPT -/
theorem kb_wr {tp : Nat → Nat} : ∀ {k : Nat}, (∀ i, i < k → sp_bad tp i = false) → ∀ j, sp_wr tp k j ≤ 9
  | 0, _, _ => Nat.zero_le 9
  | k + 1, h, j => by
    have h1 := kb_wr (tp := tp) (k := k) (fun i hi => h i (by omega)) j
    have h2 := h k (by omega)
    unfold sp_wr
    split
    · next q =>
      simp only [sp_bad, decide_eq_false_iff_not] at h2
      have : 48 ≤ tp k ∧ tp k ≤ 57 ∧ sp_nd tp k < 9 := Decidable.byContradiction fun z => h2 ⟨q.1, z⟩
      omega
    · exact h1
theorem kb_change {a : Nat → Nat} (hB : st_B a) {t i v : Nat} (ht : t < 8) (hi : i < 9) (hv : v ≤ 9) : st_B (up a (9 + 9 * t + i) v) := by
  obtain ⟨⟨b0, b1, b2, b3, b8, b8'⟩, ⟨r1, r2, r3⟩, bl, byy, bh, bz, bb⟩ := id hB
  have e : ∀ k, k ≠ 9 + 9 * t + i → up a (9 + 9 * t + i) v k = a k := fun k hk => up_o hk
  refine ⟨⟨?_, ?_, ?_, ?_, ?_, ?_⟩, ⟨fun u hu => ?_, fun u j hu hj => ?_, fun u hu => ?_⟩, fun u hu => ?_, fun s2 k2 hs2 hk2 => ?_, fun s2 u hs2 hu => ?_, fun s2 h1 h2 => ⟨fun k2 hk2 => ?_, fun u hu => ?_⟩, fun h4 => ?_⟩
  · rw [e 0 (by omega)]; exact b0
  · rw [e 1 (by omega)]; exact b1
  · rw [e 2 (by omega)]; exact b2
  · rw [e 3 (by omega)]; exact b3
  · rw [e 8 (by omega)]; exact b8
  · rw [e 8 (by omega)]; exact b8'
  · rw [e (81 + u) (by omega)]; exact r1 u hu
  · by_cases z : 9 + 9 * u + j = 9 + 9 * t + i
    · rw [z, up_s]; exact hv
    · rw [e _ z]; exact r2 u j hu hj
  · rw [e (89 + u) (by omega)]; exact r3 u hu
  · rw [e 0 (by omega)] at hu; rw [e (81 + u) (by omega)]; exact bl u hu
  · rw [e (93 + 4 * s2 + k2) (by omega), e 3 (by omega)]; exact byy s2 k2 hs2 hk2
  · rw [e (109 + 8 * s2 + u) (by omega), e 3 (by omega)]; exact bh s2 u hs2 hu
  · rw [e 2 (by omega)] at h1; rw [e (93 + 4 * s2 + k2) (by omega)]; exact (bz s2 h1 h2).1 k2 hk2
  · rw [e 2 (by omega)] at h1; rw [e (109 + 8 * s2 + u) (by omega)]; exact (bz s2 h1 h2).2 u hu
  · rw [e 4 (by omega)] at h4; have h5 := bb h4; rw [e 4 (by omega), e 0 (by omega), e 5 (by omega), e 1 (by omega), e 6 (by omega), e (81 + (a 4 - 1)) (by omega), e 7 (by omega)]; exact h5
theorem kb_teller {a : Nat → Nat} (hB : st_B a) {k : Nat} (h1 : a 1 < 4) (hk : k ≤ 3) : st_B (up (up a (89 + a 1) k) 1 (a 1 + 1)) := by
  obtain ⟨⟨b0, b1, b2, b3, b8, b8'⟩, ⟨r1, r2, r3⟩, bl, byy, bh, bz, bb⟩ := id hB
  have e1 : up (up a (89 + a 1) k) 1 (a 1 + 1) 1 = a 1 + 1 := up_s
  have e : ∀ j, j ≠ 1 → j ≠ 89 + a 1 → up (up a (89 + a 1) k) 1 (a 1 + 1) j = a j := fun j h1 h2 => by rw [up_o h1, up_o h2]
  refine ⟨⟨?_, ?_, ?_, ?_, ?_, ?_⟩, ⟨fun u hu => ?_, fun u j hu hj => ?_, fun u hu => ?_⟩, fun u hu => ?_, fun s2 k2 hs2 hk2 => ?_, fun s2 u hs2 hu => ?_, fun s2 h1 h2 => ⟨fun k2 hk2 => ?_, fun u hu => ?_⟩, fun h4 => ?_⟩
  · rw [e 0 (by omega) (by omega)]; exact b0
  · rw [e1]; omega
  · rw [e 2 (by omega) (by omega)]; exact b2
  · rw [e 3 (by omega) (by omega)]; exact b3
  · rw [e 8 (by omega) (by omega)]; exact b8
  · rw [e 8 (by omega) (by omega)]; exact b8'
  · rw [e (81 + u) (by omega) (by omega)]; exact r1 u hu
  · rw [e (9 + 9 * u + j) (by omega) (by omega)]; exact r2 u j hu hj
  · by_cases z : u = a 1
    · rw [z, up_o (by omega), up_s]; exact hk
    · rw [e (89 + u) (by omega) (by omega)]; exact r3 u hu
  · rw [e 0 (by omega) (by omega)] at hu; rw [e (81 + u) (by omega) (by omega)]; exact bl u hu
  · rw [e (93 + 4 * s2 + k2) (by omega) (by omega), e 3 (by omega) (by omega)]; exact byy s2 k2 hs2 hk2
  · rw [e (109 + 8 * s2 + u) (by omega) (by omega), e 3 (by omega) (by omega)]; exact bh s2 u hs2 hu
  · rw [e 2 (by omega) (by omega)] at h1; rw [e (93 + 4 * s2 + k2) (by omega) (by omega)]; exact (bz s2 h1 h2).1 k2 hk2
  · rw [e 2 (by omega) (by omega)] at h1; rw [e (109 + 8 * s2 + u) (by omega) (by omega)]; exact (bz s2 h1 h2).2 u hu
  · rw [e 4 (by omega) (by omega)] at h4; have h5 := bb h4; rw [e 4 (by omega) (by omega), e 0 (by omega) (by omega), e 5 (by omega) (by omega), e1, e 6 (by omega) (by omega), e (81 + (a 4 - 1)) (by omega) (by omega), e 7 (by omega) (by omega)]; exact ⟨h5.1, by omega, h5.2.2⟩
theorem kb_spinner {a : Nat → Nat} (hB : st_B a) (h2 : a 2 < 4) : st_B (up a 2 (a 2 + 1)) := by
  obtain ⟨⟨b0, b1, b2, b3, b8, b8'⟩, ⟨r1, r2, r3⟩, bl, byy, bh, bz, bb⟩ := id hB
  have e1 : up a 2 (a 2 + 1) 2 = a 2 + 1 := up_s
  have e : ∀ j, j ≠ 2 → up a 2 (a 2 + 1) j = a j := fun j h1 => up_o h1
  refine ⟨⟨?_, ?_, ?_, ?_, ?_, ?_⟩, ⟨fun u hu => ?_, fun u j hu hj => ?_, fun u hu => ?_⟩, fun u hu => ?_, fun s2 k2 hs2 hk2 => ?_, fun s2 u hs2 hu => ?_, fun s2 h1 h2 => ⟨fun k2 hk2 => ?_, fun u hu => ?_⟩, fun h4 => ?_⟩
  · rw [e 0 (by omega)]; exact b0
  · rw [e 1 (by omega)]; exact b1
  · rw [e1]; omega
  · rw [e 3 (by omega)]; exact b3
  · rw [e 8 (by omega)]; exact b8
  · rw [e 8 (by omega)]; exact b8'
  · rw [e (81 + u) (by omega)]; exact r1 u hu
  · rw [e (9 + 9 * u + j) (by omega)]; exact r2 u j hu hj
  · rw [e (89 + u) (by omega)]; exact r3 u hu
  · rw [e 0 (by omega)] at hu; rw [e (81 + u) (by omega)]; exact bl u hu
  · rw [e (93 + 4 * s2 + k2) (by omega), e 3 (by omega)]; exact byy s2 k2 hs2 hk2
  · rw [e (109 + 8 * s2 + u) (by omega), e 3 (by omega)]; exact bh s2 u hs2 hu
  · rw [e1] at h1; rw [e (93 + 4 * s2 + k2) (by omega)]; exact (bz s2 (by omega) h2).1 k2 hk2
  · rw [e1] at h1; rw [e (109 + 8 * s2 + u) (by omega)]; exact (bz s2 (by omega) h2).2 u hu
  · rw [e 4 (by omega)] at h4; have h5 := bb h4; rw [e 4 (by omega), e 0 (by omega), e 5 (by omega), e 1 (by omega), e 6 (by omega), e (81 + (a 4 - 1)) (by omega), e 7 (by omega)]; exact h5
theorem kb_memory {a : Nat → Nat} (hB : st_B a) {v : Nat} (h1 : 1 ≤ v) (h99 : v ≤ 99) : st_B (up a 8 v) := by
  obtain ⟨⟨b0, b1, b2, b3, b8, b8'⟩, ⟨r1, r2, r3⟩, bl, byy, bh, bz, bb⟩ := id hB
  have e1 : up a 8 v 8 = v := up_s
  have e : ∀ j, j ≠ 8 → up a 8 v j = a j := fun j h1 => up_o h1
  refine ⟨⟨?_, ?_, ?_, ?_, ?_, ?_⟩, ⟨fun u hu => ?_, fun u j hu hj => ?_, fun u hu => ?_⟩, fun u hu => ?_, fun s2 k2 hs2 hk2 => ?_, fun s2 u hs2 hu => ?_, fun s2 h1 h2 => ⟨fun k2 hk2 => ?_, fun u hu => ?_⟩, fun h4 => ?_⟩
  · rw [e 0 (by omega)]; exact b0
  · rw [e 1 (by omega)]; exact b1
  · rw [e 2 (by omega)]; exact b2
  · rw [e 3 (by omega)]; exact b3
  · rw [e1]; exact h1
  · rw [e1]; exact h99
  · rw [e (81 + u) (by omega)]; exact r1 u hu
  · rw [e (9 + 9 * u + j) (by omega)]; exact r2 u j hu hj
  · rw [e (89 + u) (by omega)]; exact r3 u hu
  · rw [e 0 (by omega)] at hu; rw [e (81 + u) (by omega)]; exact bl u hu
  · rw [e (93 + 4 * s2 + k2) (by omega), e 3 (by omega)]; exact byy s2 k2 hs2 hk2
  · rw [e (109 + 8 * s2 + u) (by omega), e 3 (by omega)]; exact bh s2 u hs2 hu
  · rw [e 2 (by omega)] at h1; rw [e (93 + 4 * s2 + k2) (by omega)]; exact (bz s2 h1 h2).1 k2 hk2
  · rw [e 2 (by omega)] at h1; rw [e (109 + 8 * s2 + u) (by omega)]; exact (bz s2 h1 h2).2 u hu
  · rw [e 4 (by omega)] at h4; have h5 := bb h4; rw [e 4 (by omega), e 0 (by omega), e 5 (by omega), e 1 (by omega), e 6 (by omega), e (81 + (a 4 - 1)) (by omega), e 7 (by omega)]; exact h5
theorem kb_use {a : Nat → Nat} (hB : st_B a) {s k n : Nat} (hs : s < a 2) (hk : k < 4) : st_B (up a (93 + 4 * s + k) (a (93 + 4 * s + k) - n)) := by
  obtain ⟨⟨b0, b1, b2, b3, b8, b8'⟩, ⟨r1, r2, r3⟩, bl, byy, bh, bz, bb⟩ := id hB
  have e : ∀ j, j ≠ 93 + 4 * s + k → up a (93 + 4 * s + k) (a (93 + 4 * s + k) - n) j = a j := fun j h1 => up_o h1
  refine ⟨⟨?_, ?_, ?_, ?_, ?_, ?_⟩, ⟨fun u hu => ?_, fun u j hu hj => ?_, fun u hu => ?_⟩, fun u hu => ?_, fun s2 k2 hs2 hk2 => ?_, fun s2 u hs2 hu => ?_, fun s2 h1 h2 => ⟨fun k2 hk2 => ?_, fun u hu => ?_⟩, fun h4 => ?_⟩
  · rw [e 0 (by omega)]; exact b0
  · rw [e 1 (by omega)]; exact b1
  · rw [e 2 (by omega)]; exact b2
  · rw [e 3 (by omega)]; exact b3
  · rw [e 8 (by omega)]; exact b8
  · rw [e 8 (by omega)]; exact b8'
  · rw [e (81 + u) (by omega)]; exact r1 u hu
  · rw [e (9 + 9 * u + j) (by omega)]; exact r2 u j hu hj
  · rw [e (89 + u) (by omega)]; exact r3 u hu
  · rw [e 0 (by omega)] at hu; rw [e (81 + u) (by omega)]; exact bl u hu
  · by_cases z : 93 + 4 * s2 + k2 = 93 + 4 * s + k
    · rw [z, up_s, e 3 (by omega)]
      have := byy s k (by omega) hk
      omega
    · rw [e _ z, e 3 (by omega)]; exact byy s2 k2 hs2 hk2
  · rw [e (109 + 8 * s2 + u) (by omega), e 3 (by omega)]; exact bh s2 u hs2 hu
  · rw [e 2 (by omega)] at h1; rw [e (93 + 4 * s2 + k2) (by omega)]; exact (bz s2 h1 h2).1 k2 hk2
  · rw [e 2 (by omega)] at h1; rw [e (109 + 8 * s2 + u) (by omega)]; exact (bz s2 h1 h2).2 u hu
  · rw [e 4 (by omega)] at h4; have h5 := bb h4; rw [e 4 (by omega), e 0 (by omega), e 5 (by omega), e 1 (by omega), e 6 (by omega), e (81 + (a 4 - 1)) (by omega), e 7 (by omega)]; exact h5
theorem kb_add {a : Nat → Nat} (hB : st_B a) {f : Nat → Nat} {n : Nat} (h8 : a 0 < 8) (hn1 : 1 ≤ n) (hn9 : n ≤ 9) (hf : ∀ j, f j ≤ 9) : st_B (sp_add a f n) := by
  obtain ⟨⟨b0, b1, b2, b3, b8, b8'⟩, ⟨r1, r2, r3⟩, bl, byy, bh, bz, bb⟩ := id hB
  have e1 : sp_add a f n 0 = a 0 + 1 := if_pos rfl
  have e2 : sp_add a f n (81 + a 0) = n := by unfold sp_add; rw [if_neg (by omega), if_pos rfl]
  have e : ∀ k, k ≠ 0 → k ≠ 81 + a 0 → ¬ (9 + 9 * a 0 ≤ k ∧ k < 9 + 9 * a 0 + n) → sp_add a f n k = a k := fun k h1 h2 h3 => by unfold sp_add; rw [if_neg h1, if_neg h2, if_neg h3]
  refine ⟨⟨?_, ?_, ?_, ?_, ?_, ?_⟩, ⟨fun u hu => ?_, fun u j hu hj => ?_, fun u hu => ?_⟩, fun u hu => ?_, fun s2 k2 hs2 hk2 => ?_, fun s2 u hs2 hu => ?_, fun s2 h1 h2 => ⟨fun k2 hk2 => ?_, fun u hu => ?_⟩, fun h4 => ?_⟩
  · rw [e1]; omega
  · rw [e 1 (by omega) (by omega) (by omega)]; exact b1
  · rw [e 2 (by omega) (by omega) (by omega)]; exact b2
  · rw [e 3 (by omega) (by omega) (by omega)]; exact b3
  · rw [e 8 (by omega) (by omega) (by omega)]; exact b8
  · rw [e 8 (by omega) (by omega) (by omega)]; exact b8'
  · by_cases z : u = a 0
    · rw [z, e2]; exact hn9
    · rw [e (81 + u) (by omega) (by omega) (by omega)]; exact r1 u hu
  · by_cases z : 9 + 9 * a 0 ≤ 9 + 9 * u + j ∧ 9 + 9 * u + j < 9 + 9 * a 0 + n
    · unfold sp_add; rw [if_neg (by omega), if_neg (by omega), if_pos z]; exact hf _
    · rw [e (9 + 9 * u + j) (by omega) (by omega) z]; exact r2 u j hu hj
  · rw [e (89 + u) (by omega) (by omega) (by omega)]; exact r3 u hu
  · rw [e1] at hu
    by_cases z : u = a 0
    · rw [z, e2]; exact hn1
    · rw [e (81 + u) (by omega) (by omega) (by omega)]; exact bl u (by omega)
  · rw [e (93 + 4 * s2 + k2) (by omega) (by omega) (by omega), e 3 (by omega) (by omega) (by omega)]; exact byy s2 k2 hs2 hk2
  · rw [e (109 + 8 * s2 + u) (by omega) (by omega) (by omega), e 3 (by omega) (by omega) (by omega)]; exact bh s2 u hs2 hu
  · rw [e 2 (by omega) (by omega) (by omega)] at h1; rw [e (93 + 4 * s2 + k2) (by omega) (by omega) (by omega)]; exact (bz s2 h1 h2).1 k2 hk2
  · rw [e 2 (by omega) (by omega) (by omega)] at h1; rw [e (109 + 8 * s2 + u) (by omega) (by omega) (by omega)]; exact (bz s2 h1 h2).2 u hu
  · rw [e 4 (by omega) (by omega) (by omega)] at h4; have h5 := bb h4; rw [e 4 (by omega) (by omega) (by omega), e1, e 5 (by omega) (by omega) (by omega), e 1 (by omega) (by omega) (by omega), e 6 (by omega) (by omega) (by omega), e (81 + (a 4 - 1)) (by omega) (by omega) (by omega), e 7 (by omega) (by omega) (by omega)]; exact ⟨by omega, h5.2⟩
theorem kb_ev {a : Nat → Nat} (hB : st_B a) {e9 t n w : Nat} (he : e9 < a 1) (ht : t < a 0) (hn1 : 1 ≤ n) (hw : w < 16) (h3 : a 3 < 9999) : st_B (sp_ev a e9 t n w) := by
  obtain ⟨⟨b0, b1, b2, b3, b8, b8'⟩, ⟨r1, r2, r3⟩, bl, byy, bh, bz, bb⟩ := id hB
  have e3 : sp_ev a e9 t n w 3 = a 3 + 1 := rfl
  have e4 : sp_ev a e9 t n w 4 = if sp_to a e9 t n < a (81 + t) then t + 1 else 0 := rfl
  have e5 : sp_ev a e9 t n w 5 = if sp_to a e9 t n < a (81 + t) then e9 else 0 := rfl
  have e6 : sp_ev a e9 t n w 6 = if sp_to a e9 t n < a (81 + t) then sp_to a e9 t n else 0 := rfl
  have e7 : sp_ev a e9 t n w 7 = if sp_to a e9 t n < a (81 + t) then sp_wh a e9 t w else 0 := rfl
  have hwh := sp_wh_lt hB (e := e9) (t := t) hw
  have hl1 := bl t ht
  have hl9 := r1 t (by omega)
  have hto : sp_to a e9 t n = min (sp_fr a e9 t + n) (a (81 + t)) := rfl
  have e : ∀ k, k < 3 ∨ (7 < k ∧ k < 93) ∨ 141 ≤ k → sp_ev a e9 t n w k = a k := fun k hk => sp_ev_o hk
  refine ⟨⟨?_, ?_, ?_, ?_, ?_, ?_⟩, ⟨fun u hu => ?_, fun u j hu hj => ?_, fun u hu => ?_⟩, fun u hu => ?_, fun s2 k2 hs2 hk2 => ?_, fun s2 u hs2 hu => ?_, fun s2 h1 h2 => ⟨fun k2 hk2 => ?_, fun u hu => ?_⟩, fun h4 => ?_⟩
  · rw [e 0 (by omega)]; exact b0
  · rw [e 1 (by omega)]; exact b1
  · rw [e 2 (by omega)]; exact b2
  · rw [e3]; omega
  · rw [e 8 (by omega)]; exact b8
  · rw [e 8 (by omega)]; exact b8'
  · rw [e (81 + u) (by omega)]; exact r1 u hu
  · rw [e (9 + 9 * u + j) (by omega)]; exact r2 u j hu hj
  · rw [e (89 + u) (by omega)]; exact r3 u hu
  · rw [e 0 (by omega)] at hu; rw [e (81 + u) (by omega)]; exact bl u hu
  · rw [sp_ev_y hs2 hk2, e3]
    have q1 := byy s2 k2 hs2 hk2
    have q2 : sp_yc a e9 t n s2 k2 ≤ 9 := Nat.le_trans (sp_cn_le _ _ _ _) (by omega)
    split <;> omega
  · rw [sp_ev_h hs2 hu, e3]
    have q1 := bh s2 u hs2 hu
    split <;> omega
  · rw [e 2 (by omega)] at h1; rw [sp_ev_y h2 hk2, if_neg (fun z => by omega), (bz s2 h1 h2).1 k2 hk2]
  · rw [e 2 (by omega)] at h1; rw [sp_ev_h h2 hu, if_neg (fun z => by omega)]; exact (bz s2 h1 h2).2 u hu
  · have q : sp_to a e9 t n < a (81 + t) := by
      rcases Nat.lt_or_ge (sp_to a e9 t n) (a (81 + t)) with z | z
      · exact z
      · rw [e4, if_neg (by omega)] at h4; omega
    rw [e4, e5, e6, e7, if_pos q, if_pos q, if_pos q, if_pos q, e 0 (by omega), e 1 (by omega), show t + 1 - 1 = t by omega, e (81 + t) (by omega)]
    exact ⟨by omega, he, by omega, q, hwh⟩
theorem kb_changeA {a : Nat → Nat} (hB : st_B a) (t i v : Int32) : st_B (sp_changeA a t i v) := by
  unfold sp_changeA
  split
  · next q =>
    obtain ⟨⟨⟨⟨t1, t2⟩, i1, i2⟩, v1, v2⟩, -⟩ := q
    have et9 : kx_n t = t.toInt.toNat := rfl; have ei9 : kx_n i = i.toInt.toNat := rfl; have ev9 : kx_n v = v.toInt.toNat := rfl
    have b0 := hB.1.1
    have h9 := hB.2.1.1 (kx_n t) (by omega)
    exact kb_change hB (by omega) (by omega) (by omega)
  · exact hB
theorem kb_tellerA {a : Nat → Nat} (hB : st_B a) (k : Int32) : st_B (sp_tellerA a k) := by
  unfold sp_tellerA
  split
  · next q => exact kb_teller hB q.2 (by have ek9 : kx_n k = k.toInt.toNat := rfl; omega)
  · exact hB
theorem kb_spinnerA {a : Nat → Nat} (hB : st_B a) : st_B (sp_spinnerA a) := by
  unfold sp_spinnerA
  split
  · next q => exact kb_spinner hB q
  · exact hB
theorem kb_memoryA {a : Nat → Nat} (hB : st_B a) (v : Int32) : st_B (sp_memoryA a v) := by
  unfold sp_memoryA
  split
  · next q => exact kb_memory hB (by have ev9 : kx_n v = v.toInt.toNat := rfl; omega) (by have ev9 : kx_n v = v.toInt.toNat := rfl; omega)
  · exact hB
theorem kb_useA {a : Nat → Nat} (hB : st_B a) (s k n : Int32) : st_B (sp_useA a s k n) := by
  unfold sp_useA
  split
  · next q =>
    obtain ⟨⟨⟨s1, s2⟩, ⟨k1, k2⟩, -⟩, -⟩ := q
    have es9 : kx_n s = s.toInt.toNat := rfl; have ek9 : kx_n k = k.toInt.toNat := rfl
    exact kb_use hB (by omega) (by omega)
  · exact hB
theorem kb_taleA {a : Nat → Nat} (hB : st_B a) (n : Nat) (tp : Nat → Nat) : st_B (sp_taleA a n tp) := by
  unfold sp_taleA
  split
  · next q =>
    obtain ⟨⟨q1, q2⟩, q3⟩ := q
    have hb : ∀ i, i < n → sp_bad tp i = false := fun i hi => sp_fst_no (n := n) (by rw [q1]; exact hi)
    exact kb_add hB q3 q2 (sp_nd_le hb) (kb_wr hb)
  · exact hB
theorem kb_eveningA {a : Nat → Nat} (hB : st_B a) (e t n w : Int32) : st_B (sp_eveningA a e t n w) := by
  unfold sp_eveningA
  split
  · next q =>
    obtain ⟨⟨⟨e1, e2⟩, ⟨t1, t2⟩, ⟨n1, n2⟩, w1, w2⟩, q3⟩ := q
    have h16 : 2 ^ a 2 ≤ 2 ^ 4 := Nat.pow_le_pow_right (by decide) hB.1.2.2.1
    have ee9 : kx_n e = e.toInt.toNat := rfl; have et9 : kx_n t = t.toInt.toNat := rfl; have en9 : kx_n n = n.toInt.toNat := rfl; have ew9 : kx_n w = w.toInt.toNat := rfl
    exact kb_ev hB (by omega) (by omega) (by omega) (by omega) q3
  · exact hB
