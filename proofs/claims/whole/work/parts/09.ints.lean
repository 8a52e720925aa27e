theorem nI_one : nI 1 = 1 := rfl
theorem nI_zero : nI 0 = 0 := rfl
theorem kx_b01 (c : Prop) [Decidable c] : narrow .boolean (.int (if c then 1 else 0)) = .int (if c then 1 else 0) := by split <;> rfl
theorem kx_bI (r : Int32) (h : r = 0 ∨ r = 1) : narrow .boolean (.int r) = .int r := by rcases h with rfl | rfl <;> rfl
theorem kx_nat {x : Int32} (h : 0 ≤ x.toInt) : ∃ j : Nat, x = nI j ∧ x.toInt = (j : Int) ∧ j < 2 ^ 31 := by
  obtain ⟨j, h1, h2⟩ := nI_of (x := x) (fun q => by have := Int32.lt_iff_toInt_lt.mp q; simp at this; omega)
  exact ⟨j, h2, by rw [h2, nI_toInt h1], h1⟩
theorem kx_T {n : Nat} (h : n < 2 ^ 31) : (nI n).toInt = (n : Int) := nI_toInt h
theorem kx_Ts {a b : Nat} (ha : a < 2 ^ 30) (hb : b < 2 ^ 30) : (nI a - nI b).toInt = (a : Int) - b := pk_sub_toInt ha hb
theorem kx_eqI {x y : Int32} : x = y ↔ x.toInt = y.toInt := ⟨fun h => by rw [h], fun h => Int32.toInt_inj.mp h⟩
theorem kx_icmp_ltI {own : String} {cc : ByteArray} {nL dp : Nat} {F : kx_F} (C : kx_Ru own cc nL dp F) {pc : Nat} {L : List (Option Value)} {S : List Value} {h : kx_H} {x y : Int32} {off : Int} (tgt : Nat) (d : decode cc pc = .ok (.if_icmp .lt off, 3)) (ht : (pc : Int) + off = (tgt : Int)) (kt : x.toInt < y.toInt → F tgt L S h) (kf : y.toInt ≤ x.toInt → F (pc + 3) L S h) : F pc L (.int y :: .int x :: S) h := kx_icmp_lt C tgt d ht (fun z => kt (Int32.lt_iff_toInt_lt.mp z)) (fun z => kf (by have q : ¬ (x.toInt < y.toInt) := fun q => z (Int32.lt_iff_toInt_lt.mpr q); omega))
theorem kx_icmp_geI {own : String} {cc : ByteArray} {nL dp : Nat} {F : kx_F} (C : kx_Ru own cc nL dp F) {pc : Nat} {L : List (Option Value)} {S : List Value} {h : kx_H} {x y : Int32} {off : Int} (tgt : Nat) (d : decode cc pc = .ok (.if_icmp .ge off, 3)) (ht : (pc : Int) + off = (tgt : Int)) (kt : y.toInt ≤ x.toInt → F tgt L S h) (kf : x.toInt < y.toInt → F (pc + 3) L S h) : F pc L (.int y :: .int x :: S) h := kx_icmp_ge C tgt d ht (fun z => kt (Int32.le_iff_toInt_le.mp z)) (fun z => kf (by have q : ¬ (y.toInt ≤ x.toInt) := fun q => z (Int32.le_iff_toInt_le.mpr q); omega))
theorem kx_icmp_gtI {own : String} {cc : ByteArray} {nL dp : Nat} {F : kx_F} (C : kx_Ru own cc nL dp F) {pc : Nat} {L : List (Option Value)} {S : List Value} {h : kx_H} {x y : Int32} {off : Int} (tgt : Nat) (d : decode cc pc = .ok (.if_icmp .gt off, 3)) (ht : (pc : Int) + off = (tgt : Int)) (kt : y.toInt < x.toInt → F tgt L S h) (kf : x.toInt ≤ y.toInt → F (pc + 3) L S h) : F pc L (.int y :: .int x :: S) h := kx_icmp_gt C tgt d ht (fun z => kt (Int32.lt_iff_toInt_lt.mp z)) (fun z => kf (by have q : ¬ (y.toInt < x.toInt) := fun q => z (Int32.lt_iff_toInt_lt.mpr q); omega))
theorem kx_icmp_leI {own : String} {cc : ByteArray} {nL dp : Nat} {F : kx_F} (C : kx_Ru own cc nL dp F) {pc : Nat} {L : List (Option Value)} {S : List Value} {h : kx_H} {x y : Int32} {off : Int} (tgt : Nat) (d : decode cc pc = .ok (.if_icmp .le off, 3)) (ht : (pc : Int) + off = (tgt : Int)) (kt : x.toInt ≤ y.toInt → F tgt L S h) (kf : y.toInt < x.toInt → F (pc + 3) L S h) : F pc L (.int y :: .int x :: S) h := kx_icmp_le C tgt d ht (fun z => kt (Int32.le_iff_toInt_le.mp z)) (fun z => kf (by have q : ¬ (x.toInt ≤ y.toInt) := fun q => z (Int32.le_iff_toInt_le.mpr q); omega))
theorem kx_if_ltI {own : String} {cc : ByteArray} {nL dp : Nat} {F : kx_F} (C : kx_Ru own cc nL dp F) {pc : Nat} {L : List (Option Value)} {S : List Value} {h : kx_H} {x : Int32} {off : Int} (tgt : Nat) (d : decode cc pc = .ok (.ifCond .lt off, 3)) (ht : (pc : Int) + off = (tgt : Int)) (kt : x.toInt < 0 → F tgt L S h) (kf : 0 ≤ x.toInt → F (pc + 3) L S h) : F pc L (.int x :: S) h := kx_if_lt C tgt d ht (fun z => kt (Int32.lt_iff_toInt_lt.mp z)) (fun z => kf (by have q : ¬ (x.toInt < 0) := fun q => z (Int32.lt_iff_toInt_lt.mpr q); omega))
theorem kx_if_geI {own : String} {cc : ByteArray} {nL dp : Nat} {F : kx_F} (C : kx_Ru own cc nL dp F) {pc : Nat} {L : List (Option Value)} {S : List Value} {h : kx_H} {x : Int32} {off : Int} (tgt : Nat) (d : decode cc pc = .ok (.ifCond .ge off, 3)) (ht : (pc : Int) + off = (tgt : Int)) (kt : 0 ≤ x.toInt → F tgt L S h) (kf : x.toInt < 0 → F (pc + 3) L S h) : F pc L (.int x :: S) h := kx_if_ge C tgt d ht (fun z => kt (Int32.le_iff_toInt_le.mp z)) (fun z => kf (by have q : ¬ (0 ≤ x.toInt) := fun q => z (Int32.le_iff_toInt_le.mpr q); omega))
theorem kx_if_gtI {own : String} {cc : ByteArray} {nL dp : Nat} {F : kx_F} (C : kx_Ru own cc nL dp F) {pc : Nat} {L : List (Option Value)} {S : List Value} {h : kx_H} {x : Int32} {off : Int} (tgt : Nat) (d : decode cc pc = .ok (.ifCond .gt off, 3)) (ht : (pc : Int) + off = (tgt : Int)) (kt : 0 < x.toInt → F tgt L S h) (kf : x.toInt ≤ 0 → F (pc + 3) L S h) : F pc L (.int x :: S) h := kx_if_gt C tgt d ht (fun z => kt (Int32.lt_iff_toInt_lt.mp z)) (fun z => kf (by have q : ¬ (0 < x.toInt) := fun q => z (Int32.lt_iff_toInt_lt.mpr q); omega))
theorem kx_if_leI {own : String} {cc : ByteArray} {nL dp : Nat} {F : kx_F} (C : kx_Ru own cc nL dp F) {pc : Nat} {L : List (Option Value)} {S : List Value} {h : kx_H} {x : Int32} {off : Int} (tgt : Nat) (d : decode cc pc = .ok (.ifCond .le off, 3)) (ht : (pc : Int) + off = (tgt : Int)) (kt : x.toInt ≤ 0 → F tgt L S h) (kf : 0 < x.toInt → F (pc + 3) L S h) : F pc L (.int x :: S) h := kx_if_le C tgt d ht (fun z => kt (Int32.le_iff_toInt_le.mp z)) (fun z => kf (by have q : ¬ (x.toInt ≤ 0) := fun q => z (Int32.le_iff_toInt_le.mpr q); omega))
theorem kx_if_eqN {own : String} {cc : ByteArray} {nL dp : Nat} {F : kx_F} (C : kx_Ru own cc nL dp F) {pc : Nat} {L : List (Option Value)} {S : List Value} {h : kx_H} {a : Nat} {off : Int} (tgt : Nat) (ha : a < 2 ^ 31) (d : decode cc pc = .ok (.ifCond .eq off, 3)) (ht : (pc : Int) + off = (tgt : Int)) (kt : a = 0 → F tgt L S h) (kf : 0 < a → F (pc + 3) L S h) : F pc L (.int (nI a) :: S) h := kx_if_eq C tgt d ht (fun z => kt (by have q : nI a = nI 0 ↔ a = 0 := nI_eq ha (by decide); rw [nI_zero] at q; first | exact q.mp z | (have q2 : ¬ a = 0 := fun e => z (q.mpr e); omega))) (fun z => kf (by have q : nI a = nI 0 ↔ a = 0 := nI_eq ha (by decide); rw [nI_zero] at q; first | exact q.mp z | (have q2 : ¬ a = 0 := fun e => z (q.mpr e); omega)))
theorem kx_if_neN {own : String} {cc : ByteArray} {nL dp : Nat} {F : kx_F} (C : kx_Ru own cc nL dp F) {pc : Nat} {L : List (Option Value)} {S : List Value} {h : kx_H} {a : Nat} {off : Int} (tgt : Nat) (ha : a < 2 ^ 31) (d : decode cc pc = .ok (.ifCond .ne off, 3)) (ht : (pc : Int) + off = (tgt : Int)) (kt : 0 < a → F tgt L S h) (kf : a = 0 → F (pc + 3) L S h) : F pc L (.int (nI a) :: S) h := kx_if_ne C tgt d ht (fun z => kt (by have q : nI a = nI 0 ↔ a = 0 := nI_eq ha (by decide); rw [nI_zero] at q; first | exact q.mp z | (have q2 : ¬ a = 0 := fun e => z (q.mpr e); omega))) (fun z => kf (by have q : nI a = nI 0 ↔ a = 0 := nI_eq ha (by decide); rw [nI_zero] at q; first | exact q.mp z | (have q2 : ¬ a = 0 := fun e => z (q.mpr e); omega)))
theorem kx_if_gtN {own : String} {cc : ByteArray} {nL dp : Nat} {F : kx_F} (C : kx_Ru own cc nL dp F) {pc : Nat} {L : List (Option Value)} {S : List Value} {h : kx_H} {a : Nat} {off : Int} (tgt : Nat) (ha : a < 2 ^ 31) (d : decode cc pc = .ok (.ifCond .gt off, 3)) (ht : (pc : Int) + off = (tgt : Int)) (kt : 0 < a → F tgt L S h) (kf : a = 0 → F (pc + 3) L S h) : F pc L (.int (nI a) :: S) h := kx_if_gtI C tgt d ht (fun z => kt (by rw [kx_T ha] at z; omega)) (fun z => kf (by rw [kx_T ha] at z; omega))
theorem kx_if_leN {own : String} {cc : ByteArray} {nL dp : Nat} {F : kx_F} (C : kx_Ru own cc nL dp F) {pc : Nat} {L : List (Option Value)} {S : List Value} {h : kx_H} {a : Nat} {off : Int} (tgt : Nat) (ha : a < 2 ^ 31) (d : decode cc pc = .ok (.ifCond .le off, 3)) (ht : (pc : Int) + off = (tgt : Int)) (kt : a = 0 → F tgt L S h) (kf : 0 < a → F (pc + 3) L S h) : F pc L (.int (nI a) :: S) h := kx_if_leI C tgt d ht (fun z => kt (by rw [kx_T ha] at z; omega)) (fun z => kf (by rw [kx_T ha] at z; omega))
theorem kx_if1 {c : Prop} [Decidable c] (h : ¬ (if c then (1 : Int32) else 0) = 0) : c := by
  by_cases q : c
  · exact q
  · simp [q] at h
theorem kx_if0 {c : Prop} [Decidable c] (h : (if c then (1 : Int32) else 0) = 0) : ¬ c := by
  intro q
  simp [q] at h
def kx_Mmax (own : String) (idx : Nat) : Prop := Cond.methodLink own idx Lib.Math.max.name ∈ kx_tb ∧ Cond.static Lib.Math.max.name ∈ kx_tb ∧ Cond.initialized "java/lang/Math" ∈ kx_tb ∧ Cond.code Lib.Math.max.name Lib.Math.max.code 2 (some .int) ∈ kx_tb
theorem kx_max {own : String} {cc : ByteArray} {nL dp : Nat} {F : kx_F} (C : kx_Ru own cc nL dp F) {pc : Nat} {L : List (Option Value)} {S : List Value} {h : kx_H} {idx : Nat} {x y v : Int32} (mw : kx_Mmax own idx) (hdp : 1 ≤ dp) (hcat : (S.map fun v => v.category).sum ≤ 8) (hv : (if x.toInt < y.toInt then y else x) = v) (d : decode cc pc = .ok (.invokestatic idx, 3)) (k : F (pc + 3) L (.int v :: S) h) : F pc L (.int y :: .int x :: S) h := by
  obtain ⟨p, l, e, R, s, m, args, below, meth, c, cells, slots, Q, D, ad, cA, A, ⟨hx, hb, hml, hown, hts⟩, hN, hK, hJ, hA, hR, rfl⟩ := C
  intro H locs ls hP hS hl
  obtain ⟨b1, b2, b3, b4⟩ := mw
  have hc2 := kx_cats (ad := ad) hcat
  refine va_mmax hx hb (by rw [hml]; exact hl.1.symm) hown (hts _ b1) (hts _ b2) (hts _ b3) (hts _ b4) (by omega) (by omega) hR.2.2.1 hR.2.2.2 d ?_
  rw [show (if x < y then y else x) = v by rw [← hv]; simp only [Int32.lt_iff_toInt_lt]]
  exact k H locs ls hP hS hl
def kx_Mmin (own : String) (idx : Nat) : Prop := Cond.methodLink own idx Lib.Math.min.name ∈ kx_tb ∧ Cond.static Lib.Math.min.name ∈ kx_tb ∧ Cond.initialized "java/lang/Math" ∈ kx_tb ∧ Cond.code Lib.Math.min.name Lib.Math.min.code 2 (some .int) ∈ kx_tb
theorem kx_min {own : String} {cc : ByteArray} {nL dp : Nat} {F : kx_F} (C : kx_Ru own cc nL dp F) {pc : Nat} {L : List (Option Value)} {S : List Value} {h : kx_H} {idx : Nat} {x y v : Int32} (mw : kx_Mmin own idx) (hdp : 1 ≤ dp) (hcat : (S.map fun v => v.category).sum ≤ 8) (hv : (if y.toInt < x.toInt then y else x) = v) (d : decode cc pc = .ok (.invokestatic idx, 3)) (k : F (pc + 3) L (.int v :: S) h) : F pc L (.int y :: .int x :: S) h := by
  obtain ⟨p, l, e, R, s, m, args, below, meth, c, cells, slots, Q, D, ad, cA, A, ⟨hx, hb, hml, hown, hts⟩, hN, hK, hJ, hA, hR, rfl⟩ := C
  intro H locs ls hP hS hl
  obtain ⟨b1, b2, b3, b4⟩ := mw
  have hc2 := kx_cats (ad := ad) hcat
  refine va_mmin hx hb (by rw [hml]; exact hl.1.symm) hown (hts _ b1) (hts _ b2) (hts _ b3) (hts _ b4) (by omega) (by omega) hR.2.2.1 hR.2.2.2 d ?_
  rw [show (if y < x then y else x) = v by rw [← hv]; simp only [Int32.lt_iff_toInt_lt]]
  exact k H locs ls hP hS hl
theorem mm_X8_279 : kx_Mmin RX8 279 := ⟨kx_t1 412 (by decide +kernel) rfl, kx_t1 413 (by decide +kernel) rfl, kx_t1 12 (by decide +kernel) rfl, kx_t1 414 (by decide +kernel) rfl⟩
theorem mm_X8_284 : kx_Mmax RX8 284 := ⟨kx_t1 415 (by decide +kernel) rfl, kx_t1 416 (by decide +kernel) rfl, kx_t1 12 (by decide +kernel) rfl, kx_t1 417 (by decide +kernel) rfl⟩
theorem mm_X2_72 : kx_Mmin RX2 72 := ⟨kx_t1 460 (by decide +kernel) rfl, kx_t1 413 (by decide +kernel) rfl, kx_t1 12 (by decide +kernel) rfl, kx_t1 414 (by decide +kernel) rfl⟩
theorem mm_X6_58 : kx_Mmax RX6 58 := ⟨kx_t1 497 (by decide +kernel) rfl, kx_t1 416 (by decide +kernel) rfl, kx_t1 12 (by decide +kernel) rfl, kx_t1 417 (by decide +kernel) rfl⟩
theorem mm_X1_38 : kx_Mmin RX1 38 := ⟨kx_t1 529 (by decide +kernel) rfl, kx_t1 413 (by decide +kernel) rfl, kx_t1 12 (by decide +kernel) rfl, kx_t1 414 (by decide +kernel) rfl⟩
theorem mm_X0_85 : kx_Mmax RX0 85 := ⟨kx_t1 610 (by decide +kernel) rfl, kx_t1 416 (by decide +kernel) rfl, kx_t1 12 (by decide +kernel) rfl, kx_t1 417 (by decide +kernel) rfl⟩
theorem sp_max {a b : Nat} (ha : a < 2 ^ 31) (hb : b < 2 ^ 31) : (if (nI a).toInt < (nI b).toInt then nI b else nI a) = nI (max a b) := by
  rw [kx_T ha, kx_T hb]
  split
  · rw [Nat.max_eq_right (by omega)]
  · rw [Nat.max_eq_left (by omega)]
theorem sp_min {a b : Nat} (ha : a < 2 ^ 31) (hb : b < 2 ^ 31) : (if (nI b).toInt < (nI a).toInt then nI b else nI a) = nI (min a b) := by
  rw [kx_T ha, kx_T hb]
  split
  · rw [Nat.min_eq_right (by omega)]
  · rw [Nat.min_eq_left (by omega)]
