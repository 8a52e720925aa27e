/-! numbers below 0 too -/
def iI (z : Int) : Int32 := Int32.ofInt z
theorem iI_T {z : Int} (h1 : -1000000 ≤ z) (h2 : z ≤ 1000000) : (iI z).toInt = z := by
  unfold iI
  rw [Int32.toInt_ofInt]
  have e : Int32.size = 4294967296 := rfl
  exact Int.bmod_eq_of_le (by rw [e]; omega) (by rw [e]; omega)
theorem iI_nI (n : Nat) : nI n = iI n := by
  unfold iI nI
  simp [Int32.ofInt, Int32.ofNat, BitVec.ofInt_natCast]
theorem iI_add (x y : Int) : iI x + iI y = iI (x + y) := (Int32.ofInt_add x y).symm
theorem iI_sub (x y : Int) : iI x - iI y = iI (x - y) := (Int32.ofInt_sub x y).symm
theorem iI_eq {x y : Int} (h1 : -1000000 ≤ x) (h2 : x ≤ 1000000) (h3 : -1000000 ≤ y) (h4 : y ≤ 1000000) : iI x = iI y ↔ x = y := by
  rw [kx_eqI, iI_T h1 h2, iI_T h3 h4]
/-! a play: tensions f, of n sentences -/
def sp_go (f : Nat → Nat) (n p : Nat) : Nat := sp_fst (fun i => decide (f i < p)) n
def sp_P0 (f : Nat → Nat) (n j p : Nat) : Int := if sp_go f n p < j then (sp_go f n p : Int) - 3 else j
def sp_sm (f : Nat → Nat) : Nat → Int
  | 0 => 0
  | n + 1 => sp_sm f n + ((f n / 3 : Nat) - 1 : Int)
def sp_P1 (f : Nat → Nat) (n j p : Nat) : Int := sp_sm f (min j (sp_go f n p))
theorem sp_go_le (f : Nat → Nat) (n p : Nat) : sp_go f n p ≤ n := sp_fst_le _ n
theorem sp_sm_b {f : Nat → Nat} (hf : ∀ i, f i ≤ 9) : ∀ n : Nat, -(n : Int) ≤ sp_sm f n ∧ sp_sm f n ≤ 2 * (n : Int)
  | 0 => by simp [sp_sm]
  | n + 1 => by
    have h := sp_sm_b hf n
    have h2 := hf n
    have h3 : f n / 3 ≤ 3 := by omega
    unfold sp_sm
    omega
def sp_all (p : Nat → Bool) : Nat → Bool
  | 0 => true
  | n + 1 => sp_all p n && p n
theorem sp_all_iff {p : Nat → Bool} : ∀ {n : Nat}, sp_all p n = true ↔ ∀ i, i < n → p i = true
  | 0 => by simp [sp_all]
  | n + 1 => by
    simp only [sp_all, Bool.and_eq_true, sp_all_iff (p := p) (n := n)]
    constructor
    · intro h i hi
      rcases Nat.lt_or_ge i n with q | q
      · exact h.1 i q
      · rw [show i = n by omega]; exact h.2
    · intro h
      exact ⟨fun i hi => h i (by omega), h n (by omega)⟩
def sp_TR (f : Nat → Nat) (n j p : Nat) : Bool := sp_all (fun k => decide (sp_P0 f n (k + 1) p ≤ sp_P0 f n j p)) n
def sp_SR (f : Nat → Nat) (n j p : Nat) : Bool := sp_all (fun q => decide (sp_P1 f n j q ≤ sp_P1 f n j p)) 10
theorem sp_TR_iff {f : Nat → Nat} {n j p : Nat} : sp_TR f n j p = true ↔ ∀ k, k < n → sp_P0 f n (k + 1) p ≤ sp_P0 f n j p := by
  unfold sp_TR
  rw [sp_all_iff]
  simp
theorem sp_SR_iff {f : Nat → Nat} {n j p : Nat} : sp_SR f n j p = true ↔ ∀ q, q < 10 → sp_P1 f n j q ≤ sp_P1 f n j p := by
  unfold sp_SR
  rw [sp_all_iff]
  simp
def sp_R (f : Nat → Nat) (n j p : Nat) : Bool := sp_TR f n j p && sp_SR f n j p
/-- the x-th pair -/
def sp_Rx (f : Nat → Nat) (n x : Nat) : Bool := sp_R f n (x / 10 + 1) (x % 10)
def sp_Rf (f : Nat → Nat) (n m : Nat) : Int32 := if sp_ct (sp_Rx f n) m = 0 then -4 else nI (10 * (sp_fst (sp_Rx f n) m / 10 + 1) + sp_fst (sp_Rx f n) m % 10)
/-- what the game holds -/
def st_G (h : kx_H) (f : Nat → Nat) (n : Nat) : Prop := h 125 1 = nI n ∧ n ≤ 9 ∧ (∀ i, i < n → h 126 i = nI (f i)) ∧ ∀ i, f i ≤ 9
set_option maxHeartbeats 4000000 in
set_option maxRecDepth 100000 in
theorem m_X1_begin {h : kx_H} {a : Nat → Nat} {e t : Nat} (hRD : st_RD 2 4 12 h a) (hRB : st_RB a) (he : e < 4) (ht : t < 8) : kx_MV 4 yX1_begin cX1_begin 4 [.ref 125, .ref 1, .int (nI e), .int (nI t)] h (fun h1 => st_G h1 (fun i => if i < a (81 + t) then sp_te a e t i else 0) (a (81 + t)) ∧ ∀ d j, d ≠ 125 → d ≠ 126 → h1 d j = h d j) := by
  refine kx_mkV (own := RX1) (L0 := [some (.ref 125), some (.ref 1), some (.int (nI e)), some (.int (nI t))]) rfl (by decide +kernel) (Nat.le_of_ble_eq_true rfl) rfl (fun F C hR => ?_)
  obtain ⟨hlen, hten, hkd⟩ := id hRD
  have b1 := hRB.1 t ht
  have b3 := hRB.2.2 e he
  refine kx_ald0 (pc := 0) C dX1_begin_0 ?_
  refine kx_ald1 (pc := 1) C dX1_begin_1 ?_
  refine kx_getr (pc := 2) C fl_X1_15 fd_1_5 dX1_begin_2 ?_
  refine kx_ild3 (pc := 5) C dX1_begin_5 ?_
  refine kx_iald (pc := 6) C ia_2 (by omega) (by first | exact hlen _ (by omega) | exact hkd _ (by omega) | rfl) dX1_begin_6 ?_
  refine kx_puti (pc := 7) C fl_X1_20 fp_X1_1 fd_125_1 rfl rfl dX1_begin_7 ?_
  have r1 : st_RD 2 4 12 (kx_up h 125 1 (nI (a (81 + t)))) a := hRD.kept2 (fun j => by rw [kx_up, if_neg (by omega)]) (fun d j h1 h2 => by rw [kx_up, if_neg (by omega)]) (fun j => by rw [kx_up, if_neg (by omega)])
  refine kx_ald1 (pc := 10) C dX1_begin_10 ?_
  refine kx_getr (pc := 11) C fl_X1_24 fd_1_7 dX1_begin_11 ?_
  refine kx_ild2 (pc := 14) C dX1_begin_14 ?_
  refine kx_iald (pc := 15) C ia_12 (by omega) (r1.2.2 _ (by omega)) dX1_begin_15 ?_
  refine kx_ald1 (pc := 16) C dX1_begin_16 ?_
  refine kx_getr (pc := 17) C fl_X1_27 fd_1_6 dX1_begin_17 ?_
  refine kx_ild3 (pc := 20) C dX1_begin_20 ?_
  refine kx_aald1 (pc := 21) C ra_3 (by omega) dX1_begin_21 ?_
  refine kx_ald0 (pc := 22) C dX1_begin_22 ?_
  refine kx_getr (pc := 23) C fl_X1_9 fd_125_0 dX1_begin_23 ?_
  refine kx_ald0 (pc := 26) C dX1_begin_26 ?_
  refine kx_geti (pc := 27) C fl_X1_20 fd_125_1 (show _ = nI (a (81 + t)) by simp [kx_up]) dX1_begin_27 ?_
  refine kx_callNV4 (pc := 30) C cs_X1_30 (m_X8_retell (f := fun j => a (9 + 9 * t + j)) b3 (if_ten t (by omega)) ia_126 (by omega) (by omega) (by omega) (fun j hj => r1.2.1 t j ht (by omega)) (fun j hj => hRB.2.1 t j ht (by omega))) (by decide) dX1_begin_30 (Nat.le_of_ble_eq_true rfl) (fun h30 q30 => ?_)
  obtain ⟨k1, k2⟩ := q30
  refine hR dX1_begin_33 ⟨⟨by rw [k2 125 1 (by omega)]; simp [kx_up], b1, fun i hi => ?_, fun i => ?_⟩, fun d j h1 h2 => by rw [k2 d j (by omega), kx_up, if_neg (by omega)]⟩
  · rw [k1 i hi]
    simp only [hi, if_true]
    rfl
  · dsimp only
    split
    · next q => exact sp_te_le hRB ht q
    · omega
set_option maxHeartbeats 4000000 in
set_option maxRecDepth 100000 in
theorem m_X1_heardUntilGone {h : kx_H} {f : Nat → Nat} {n p : Nat} (hG : st_G h f n) (hp : p ≤ 9) : kx_MI 1 yX1_heardUntilGone cX1_heardUntilGone 3 .int [.ref 125, .int (nI p)] h (fun r h1 => h1 = h ∧ r = nI (sp_go f n p)) := by
  refine kx_mkI (own := RX1) (L0 := [some (.ref 125), some (.int (nI p)), none]) rfl (by decide +kernel) (Nat.le_of_ble_eq_true rfl) rfl (fun F C hR => ?_)
  obtain ⟨hn, hn9, hf, hf9⟩ := id hG
  have loop : ∀ (q i : Nat), n - i = q → i ≤ n → (∀ k, k < i → decide (f k < p) = false) → F 2 [some (.ref 125), some (.int (nI p)), some (.int (nI i))] [] h := by
    intro q
    induction q with
    | zero =>
      intro i hq hi hk
      refine kx_ild2 (pc := 2) C dX1_heardUntilGone_2 ?_
      refine kx_ald0 (pc := 3) C dX1_heardUntilGone_3 ?_
      refine kx_geti (pc := 4) C fl_X1_20 fd_125_1 (by first | assumption | rfl) dX1_heardUntilGone_4 ?_
      refine kx_icmp_geN (pc := 7) C 28 (by omega) (by omega) dX1_heardUntilGone_7 (by decide) (fun c7 => ?_) (fun c7 => ?_)
      · refine kx_ald0 (pc := 28) C dX1_heardUntilGone_28 ?_
        refine kx_geti (pc := 29) C fl_X1_20 fd_125_1 (by first | assumption | rfl) dX1_heardUntilGone_29 ?_
        exact hR dX1_heardUntilGone_32 rfl ⟨rfl, by rw [sp_go, sp_fst_none (fun k hk2 => hk k (by omega))]⟩
      · omega
    | succ q ih =>
      intro i hq hi hk
      have h9 := hf9 i
      refine kx_ild2 (pc := 2) C dX1_heardUntilGone_2 ?_
      refine kx_ald0 (pc := 3) C dX1_heardUntilGone_3 ?_
      refine kx_geti (pc := 4) C fl_X1_20 fd_125_1 (by first | assumption | exact hf _ (by omega) | rfl) dX1_heardUntilGone_4 ?_
      refine kx_icmp_geN (pc := 7) C 28 (by omega) (by omega) dX1_heardUntilGone_7 (by decide) (fun c7 => ?_) (fun c7 => ?_)
      · omega
      · refine kx_ald0 (pc := 10) C dX1_heardUntilGone_10 ?_
        refine kx_getr (pc := 11) C fl_X1_9 fd_125_0 dX1_heardUntilGone_11 ?_
        refine kx_ild2 (pc := 14) C dX1_heardUntilGone_14 ?_
        refine kx_iald (pc := 15) C ia_126 (by omega) (by first | assumption | exact hf _ (by omega) | rfl) dX1_heardUntilGone_15 ?_
        refine kx_ild1 (pc := 16) C dX1_heardUntilGone_16 ?_
        refine kx_icmp_geN (pc := 17) C 22 (by omega) (by omega) dX1_heardUntilGone_17 (by decide) (fun c17 => ?_) (fun c17 => ?_)
        · first | refine kx_inc2 (pc := 22) C (v := nI (_ + 1)) dX1_heardUntilGone_22 (by decide) rfl (nI_1 _) ?_ | refine kx_inc2 (pc := 22) C dX1_heardUntilGone_22 (by decide) rfl rfl ?_
          refine kx_goto (pc := 25) C 2 dX1_heardUntilGone_25 (by decide) ?_
          exact ih (i + 1) (by omega) (by omega) (fun k hk2 => by
            rcases Nat.lt_or_ge k i with y | y
            · exact hk k y
            · rw [show k = i by omega]; exact decide_eq_false (by omega))
        · refine kx_ild2 (pc := 20) C dX1_heardUntilGone_20 ?_
          exact hR dX1_heardUntilGone_21 rfl ⟨rfl, by rw [sp_go, sp_fst_at (k := i) (decide_eq_true c17) hk (by omega)]⟩
  refine kx_iconst (pc := 0) C (v := nI 0) dX1_heardUntilGone_0 (by decide) ?_
  refine kx_ist2 (pc := 1) C dX1_heardUntilGone_1 (by decide) rfl ?_
  exact loop n 0 (by omega) (by omega) (fun k hk => absurd hk (by omega))
set_option maxHeartbeats 4000000 in
set_option maxRecDepth 100000 in
theorem m_X1_tellerPoints {h : kx_H} {f : Nat → Nat} {n j p : Nat} (hG : st_G h f n) (hp : p ≤ 9) (hj : j ≤ 9) : kx_MI 2 yX1_tellerPoints cX1_tellerPoints 4 .int [.ref 125, .int (nI j), .int (nI p)] h (fun r h1 => h1 = h ∧ r = iI (sp_P0 f n j p)) := by
  refine kx_mkI (own := RX1) (L0 := [some (.ref 125), some (.int (nI j)), some (.int (nI p)), none]) rfl (by decide +kernel) (Nat.le_of_ble_eq_true rfl) rfl (fun F C hR => ?_)
  have hg := sp_go_le f n p
  have hn9 := hG.2.1
  refine kx_ald0 (pc := 0) C dX1_tellerPoints_0 ?_
  refine kx_ild2 (pc := 1) C dX1_tellerPoints_1 ?_
  refine kx_callVI1 (pc := 2) C cs_X1_34 ob_125 (m_X1_heardUntilGone hG (by omega)) (by decide) dX1_tellerPoints_2 (Nat.le_of_ble_eq_true rfl) (fun r2 h2 q2 => ?_)
  obtain ⟨rfl, rfl⟩ := q2
  refine kx_ist3 (pc := 5) C dX1_tellerPoints_5 (by decide) rfl ?_
  refine kx_ild3 (pc := 6) C dX1_tellerPoints_6 ?_
  refine kx_ild1 (pc := 7) C dX1_tellerPoints_7 ?_
  refine kx_icmp_geN (pc := 8) C 17 (by omega) (by omega) dX1_tellerPoints_8 (by decide) (fun c8 => ?_) (fun c8 => ?_)
  · refine kx_ild1 (pc := 17) C dX1_tellerPoints_17 ?_
    first
      | exact hR dX1_tellerPoints_18 rfl ⟨rfl, by rw [sp_P0, if_pos c8, iI_nI, iI_nI, iI_sub]; rfl⟩
      | exact hR dX1_tellerPoints_18 rfl ⟨rfl, by rw [sp_P0, if_neg (by omega), iI_nI]⟩
  · refine kx_ild3 (pc := 11) C dX1_tellerPoints_11 ?_
    refine kx_iconst (pc := 12) C (v := nI 3) dX1_tellerPoints_12 (by decide) ?_
    refine kx_isub (pc := 13) C dX1_tellerPoints_13 ?_
    refine kx_goto (pc := 14) C 18 dX1_tellerPoints_14 (by decide) ?_
    first
      | exact hR dX1_tellerPoints_18 rfl ⟨rfl, by rw [sp_P0, if_pos c8, iI_nI, iI_nI, iI_sub]; rfl⟩
      | exact hR dX1_tellerPoints_18 rfl ⟨rfl, by rw [sp_P0, if_neg (by omega), iI_nI]⟩
set_option maxHeartbeats 4000000 in
set_option maxRecDepth 100000 in
theorem m_X1_spinnerPoints {h : kx_H} {f : Nat → Nat} {n j p : Nat} (hG : st_G h f n) (hp : p ≤ 9) (hj : j ≤ 9) : kx_MI 2 yX1_spinnerPoints cX1_spinnerPoints 6 .int [.ref 125, .int (nI j), .int (nI p)] h (fun r h1 => h1 = h ∧ r = iI (sp_P1 f n j p)) := by
  refine kx_mkI (own := RX1) (L0 := [some (.ref 125), some (.int (nI j)), some (.int (nI p)), none, none, none]) rfl (by decide +kernel) (Nat.le_of_ble_eq_true rfl) rfl (fun F C hR => ?_)
  obtain ⟨hn, hn9, hf, hf9⟩ := id hG
  have hg := sp_go_le f n p
  have loop : ∀ (q i : Nat), min j (sp_go f n p) - i = q → i ≤ min j (sp_go f n p) → F 16 [some (.ref 125), some (.int (nI j)), some (.int (nI p)), some (.int (nI (min j (sp_go f n p)))), some (.int (iI (sp_sm f i))), some (.int (nI i))] [] h := by
    intro q
    induction q with
    | zero =>
      intro i hq hi
      refine kx_ild5 (pc := 16) C dX1_spinnerPoints_16 ?_
      refine kx_ild3 (pc := 18) C dX1_spinnerPoints_18 ?_
      refine kx_icmp_geN (pc := 19) C 45 (by omega) (by omega) dX1_spinnerPoints_19 (by decide) (fun c19 => ?_) (fun c19 => ?_)
      · refine kx_ild4 (pc := 45) C dX1_spinnerPoints_45 ?_
        exact hR dX1_spinnerPoints_47 rfl ⟨rfl, by rw [sp_P1, show min j (sp_go f n p) = i by omega]⟩
      · omega
    | succ q ih =>
      intro i hq hi
      have h9 := hf9 i
      refine kx_ild5 (pc := 16) C dX1_spinnerPoints_16 ?_
      refine kx_ild3 (pc := 18) C dX1_spinnerPoints_18 ?_
      refine kx_icmp_geN (pc := 19) C 45 (by omega) (by omega) dX1_spinnerPoints_19 (by decide) (fun c19 => ?_) (fun c19 => ?_)
      · omega
      · refine kx_ild4 (pc := 22) C dX1_spinnerPoints_22 ?_
        refine kx_ald0 (pc := 24) C dX1_spinnerPoints_24 ?_
        refine kx_getr (pc := 25) C fl_X1_9 fd_125_0 dX1_spinnerPoints_25 ?_
        refine kx_ild5 (pc := 28) C dX1_spinnerPoints_28 ?_
        refine kx_iald (pc := 30) C ia_126 (by omega) (by first | assumption | exact hf _ (by omega) | rfl) dX1_spinnerPoints_30 ?_
        refine kx_callNI1 (pc := 31) C cs_X1_44 (m_X8_sortOf (by omega)) (by decide) dX1_spinnerPoints_31 (Nat.le_of_ble_eq_true rfl) (fun r31 h31 q31 => ?_)
        obtain ⟨rfl, rfl⟩ := q31
        refine kx_iconst (pc := 34) C (v := nI 1) dX1_spinnerPoints_34 (by decide) ?_
        refine kx_isub (pc := 35) C dX1_spinnerPoints_35 ?_
        refine kx_iadd (pc := 36) C dX1_spinnerPoints_36 ?_
        rw [iI_nI (f i / 3), iI_nI 1, iI_sub, iI_add]
        refine kx_ist4 (pc := 37) C dX1_spinnerPoints_37 (by decide) rfl ?_
        first | refine kx_inc5 (pc := 39) C (v := nI (_ + 1)) dX1_spinnerPoints_39 (by decide) rfl (nI_1 _) ?_ | refine kx_inc5 (pc := 39) C dX1_spinnerPoints_39 (by decide) rfl rfl ?_
        refine kx_goto (pc := 42) C 16 dX1_spinnerPoints_42 (by decide) ?_
        exact ih (i + 1) (by omega) (by omega)
  refine kx_ild1 (pc := 0) C dX1_spinnerPoints_0 ?_
  refine kx_ald0 (pc := 1) C dX1_spinnerPoints_1 ?_
  refine kx_ild2 (pc := 2) C dX1_spinnerPoints_2 ?_
  refine kx_callVI1 (pc := 3) C cs_X1_34 ob_125 (m_X1_heardUntilGone hG (by omega)) (by decide) dX1_spinnerPoints_3 (Nat.le_of_ble_eq_true rfl) (fun r3 h3 q3 => ?_)
  obtain ⟨rfl, rfl⟩ := q3
  refine kx_min (pc := 6) C mm_X1_38 (by decide) (Nat.le_of_ble_eq_true rfl) (sp_min (by omega) (by omega)) dX1_spinnerPoints_6 ?_
  refine kx_ist3 (pc := 9) C dX1_spinnerPoints_9 (by decide) rfl ?_
  refine kx_iconst (pc := 10) C (v := nI 0) dX1_spinnerPoints_10 (by decide) ?_
  refine kx_ist4 (pc := 11) C dX1_spinnerPoints_11 (by decide) rfl ?_
  refine kx_iconst (pc := 13) C (v := nI 0) dX1_spinnerPoints_13 (by decide) ?_
  refine kx_ist5 (pc := 14) C dX1_spinnerPoints_14 (by decide) rfl ?_
  exact loop _ 0 rfl (by omega)
theorem sp_P0_b {f : Nat → Nat} {n j p : Nat} (hn : n ≤ 9) (hj : j ≤ 9) : -1000000 ≤ sp_P0 f n j p ∧ sp_P0 f n j p ≤ 1000000 := by
  have := sp_go_le f n p
  unfold sp_P0
  split <;> omega
theorem sp_P1_b {f : Nat → Nat} {n j p : Nat} (hf : ∀ i, f i ≤ 9) (hj : j ≤ 9) : -1000000 ≤ sp_P1 f n j p ∧ sp_P1 f n j p ≤ 1000000 := by
  have := sp_sm_b hf (min j (sp_go f n p))
  unfold sp_P1
  omega
set_option maxHeartbeats 4000000 in
set_option maxRecDepth 100000 in
theorem m_X1_tellerRests {h : kx_H} {f : Nat → Nat} {n j p : Nat} (hG : st_G h f n) (hp : p ≤ 9) (hj : 1 ≤ j) (hjn : j ≤ n) : kx_MI 3 yX1_tellerRests cX1_tellerRests 5 .boolean [.ref 125, .int (nI j), .int (nI p)] h (fun r h1 => h1 = h ∧ r = if sp_TR f n j p = true then 1 else 0) := by
  refine kx_mkI (own := RX1) (L0 := [some (.ref 125), some (.int (nI j)), some (.int (nI p)), none, none]) rfl (by decide +kernel) (Nat.le_of_ble_eq_true rfl) rfl (fun F C hR => ?_)
  have hn := hG.1
  have hn9 := hG.2.1
  have bj := sp_P0_b (f := f) (j := j) (p := p) hn9 (by omega)
  have loop : ∀ (q i : Nat), n + 1 - i = q → 1 ≤ i → i ≤ n + 1 → (∀ k, 1 ≤ k → k < i → sp_P0 f n k p ≤ sp_P0 f n j p) → F 10 [some (.ref 125), some (.int (nI j)), some (.int (nI p)), some (.int (iI (sp_P0 f n j p))), some (.int (nI i))] [] h := by
    intro q
    induction q with
    | zero =>
      intro i hq hi0 hi hk
      refine kx_ild4 (pc := 10) C dX1_tellerRests_10 ?_
      refine kx_ald0 (pc := 12) C dX1_tellerRests_12 ?_
      refine kx_geti (pc := 13) C fl_X1_20 fd_125_1 (by first | assumption | rfl) dX1_tellerRests_13 ?_
      refine kx_icmp_gtN (pc := 16) C 38 (by omega) (by omega) dX1_tellerRests_16 (by decide) (fun c16 => ?_) (fun c16 => ?_)
      · refine kx_iconst (pc := 38) C (v := nI 1) dX1_tellerRests_38 (by decide) ?_
        exact hR dX1_tellerRests_39 rfl ⟨rfl, by rw [if_pos (sp_TR_iff.mpr (fun k h1 => hk (k + 1) (by omega) (by omega)))]; rfl⟩
      · omega
    | succ q ih =>
      intro i hq hi0 hi hk
      have bi := sp_P0_b (f := f) (j := i) (p := p) hn9 (by omega)
      refine kx_ild4 (pc := 10) C dX1_tellerRests_10 ?_
      refine kx_ald0 (pc := 12) C dX1_tellerRests_12 ?_
      refine kx_geti (pc := 13) C fl_X1_20 fd_125_1 (by first | assumption | rfl) dX1_tellerRests_13 ?_
      refine kx_icmp_gtN (pc := 16) C 38 (by omega) (by omega) dX1_tellerRests_16 (by decide) (fun c16 => ?_) (fun c16 => ?_)
      · omega
      · refine kx_ald0 (pc := 19) C dX1_tellerRests_19 ?_
        refine kx_ild4 (pc := 20) C dX1_tellerRests_20 ?_
        refine kx_ild2 (pc := 22) C dX1_tellerRests_22 ?_
        refine kx_callVI2 (pc := 23) C cs_X1_60 ob_125 (m_X1_tellerPoints hG (by omega) (by omega)) (by decide) dX1_tellerRests_23 (Nat.le_of_ble_eq_true rfl) (fun r23 h23 q23 => ?_)
        obtain ⟨e23, rfl⟩ := q23
        subst e23
        refine kx_ild3 (pc := 26) C dX1_tellerRests_26 ?_
        refine kx_icmp_leI (pc := 27) C 32 dX1_tellerRests_27 (by decide) (fun c27 => ?_) (fun c27 => ?_)
        · rw [iI_T bi.1 bi.2, iI_T bj.1 bj.2] at c27
          first | refine kx_inc4 (pc := 32) C (v := nI (_ + 1)) dX1_tellerRests_32 (by decide) rfl (nI_1 _) ?_ | refine kx_inc4 (pc := 32) C dX1_tellerRests_32 (by decide) rfl rfl ?_
          refine kx_goto (pc := 35) C 10 dX1_tellerRests_35 (by decide) ?_
          exact ih (i + 1) (by omega) (by omega) (by omega) (fun k h1 h2 => by rcases Nat.lt_or_ge k i with y | y; exact hk k h1 y; rw [show k = i by omega]; exact c27)
        · rw [iI_T bi.1 bi.2, iI_T bj.1 bj.2] at c27
          refine kx_iconst (pc := 30) C (v := nI 0) dX1_tellerRests_30 (by decide) ?_
          exact hR dX1_tellerRests_31 rfl ⟨rfl, by rw [if_neg (fun z => absurd (sp_TR_iff.mp z (i - 1) (by omega)) (by rw [show i - 1 + 1 = i by omega]; omega))]; rfl⟩
  refine kx_ald0 (pc := 0) C dX1_tellerRests_0 ?_
  refine kx_ild1 (pc := 1) C dX1_tellerRests_1 ?_
  refine kx_ild2 (pc := 2) C dX1_tellerRests_2 ?_
  refine kx_callVI2 (pc := 3) C cs_X1_60 ob_125 (m_X1_tellerPoints hG (by omega) (by omega)) (by decide) dX1_tellerRests_3 (Nat.le_of_ble_eq_true rfl) (fun r3 h3 q3 => ?_)
  obtain ⟨e3, rfl⟩ := q3
  subst e3
  refine kx_ist3 (pc := 6) C dX1_tellerRests_6 (by decide) rfl ?_
  refine kx_iconst (pc := 7) C (v := nI 1) dX1_tellerRests_7 (by decide) ?_
  refine kx_ist4 (pc := 8) C dX1_tellerRests_8 (by decide) rfl ?_
  exact loop n 1 (by omega) (by omega) (by omega) (fun k h1 h2 => absurd h1 (by omega))
set_option maxHeartbeats 4000000 in
set_option maxRecDepth 100000 in
theorem m_X1_spinnerRests {h : kx_H} {f : Nat → Nat} {n j p : Nat} (hG : st_G h f n) (hp : p ≤ 9) (hj : 1 ≤ j) (hjn : j ≤ n) : kx_MI 3 yX1_spinnerRests cX1_spinnerRests 5 .boolean [.ref 125, .int (nI j), .int (nI p)] h (fun r h1 => h1 = h ∧ r = if sp_SR f n j p = true then 1 else 0) := by
  refine kx_mkI (own := RX1) (L0 := [some (.ref 125), some (.int (nI j)), some (.int (nI p)), none, none]) rfl (by decide +kernel) (Nat.le_of_ble_eq_true rfl) rfl (fun F C hR => ?_)
  have hn := hG.1
  have hn9 := hG.2.1
  have bj := sp_P1_b (n := n) (j := j) (p := p) hG.2.2.2 (by omega)
  have loop : ∀ (q i : Nat), 10 - i = q → i ≤ 10 → (∀ k, k < i → sp_P1 f n j k ≤ sp_P1 f n j p) → F 10 [some (.ref 125), some (.int (nI j)), some (.int (nI p)), some (.int (iI (sp_P1 f n j p))), some (.int (nI i))] [] h := by
    intro q
    induction q with
    | zero =>
      intro i hq hi hk
      refine kx_ild4 (pc := 10) C dX1_spinnerRests_10 ?_
      refine kx_bipush (pc := 12) C (v := nI 9) dX1_spinnerRests_12 (by decide) ?_
      refine kx_icmp_gtN (pc := 14) C 36 (by omega) (by omega) dX1_spinnerRests_14 (by decide) (fun c14 => ?_) (fun c14 => ?_)
      · refine kx_iconst (pc := 36) C (v := nI 1) dX1_spinnerRests_36 (by decide) ?_
        exact hR dX1_spinnerRests_37 rfl ⟨rfl, by rw [if_pos (sp_SR_iff.mpr (fun k h1 => hk k (by omega)))]; rfl⟩
      · omega
    | succ q ih =>
      intro i hq hi hk
      have bi := sp_P1_b (n := n) (j := j) (p := i) hG.2.2.2 (by omega)
      refine kx_ild4 (pc := 10) C dX1_spinnerRests_10 ?_
      refine kx_bipush (pc := 12) C (v := nI 9) dX1_spinnerRests_12 (by decide) ?_
      refine kx_icmp_gtN (pc := 14) C 36 (by omega) (by omega) dX1_spinnerRests_14 (by decide) (fun c14 => ?_) (fun c14 => ?_)
      · omega
      · refine kx_ald0 (pc := 17) C dX1_spinnerRests_17 ?_
        refine kx_ild1 (pc := 18) C dX1_spinnerRests_18 ?_
        refine kx_ild4 (pc := 19) C dX1_spinnerRests_19 ?_
        refine kx_callVI2 (pc := 21) C cs_X1_63 ob_125 (m_X1_spinnerPoints hG (by omega) (by omega)) (by decide) dX1_spinnerRests_21 (Nat.le_of_ble_eq_true rfl) (fun r21 h21 q21 => ?_)
        obtain ⟨e21, rfl⟩ := q21
        subst e21
        refine kx_ild3 (pc := 24) C dX1_spinnerRests_24 ?_
        refine kx_icmp_leI (pc := 25) C 30 dX1_spinnerRests_25 (by decide) (fun c25 => ?_) (fun c25 => ?_)
        · rw [iI_T bi.1 bi.2, iI_T bj.1 bj.2] at c25
          first | refine kx_inc4 (pc := 30) C (v := nI (_ + 1)) dX1_spinnerRests_30 (by decide) rfl (nI_1 _) ?_ | refine kx_inc4 (pc := 30) C dX1_spinnerRests_30 (by decide) rfl rfl ?_
          refine kx_goto (pc := 33) C 10 dX1_spinnerRests_33 (by decide) ?_
          exact ih (i + 1) (by omega) (by omega) (fun k h2 => by rcases Nat.lt_or_ge k i with y | y; exact hk k y; rw [show k = i by omega]; exact c25)
        · rw [iI_T bi.1 bi.2, iI_T bj.1 bj.2] at c25
          refine kx_iconst (pc := 28) C (v := nI 0) dX1_spinnerRests_28 (by decide) ?_
          exact hR dX1_spinnerRests_29 rfl ⟨rfl, by rw [if_neg (fun z => absurd (sp_SR_iff.mp z i (by omega)) (by omega))]; rfl⟩
  refine kx_ald0 (pc := 0) C dX1_spinnerRests_0 ?_
  refine kx_ild1 (pc := 1) C dX1_spinnerRests_1 ?_
  refine kx_ild2 (pc := 2) C dX1_spinnerRests_2 ?_
  refine kx_callVI2 (pc := 3) C cs_X1_63 ob_125 (m_X1_spinnerPoints hG (by omega) (by omega)) (by decide) dX1_spinnerRests_3 (Nat.le_of_ble_eq_true rfl) (fun r3 h3 q3 => ?_)
  obtain ⟨e3, rfl⟩ := q3
  subst e3
  refine kx_ist3 (pc := 6) C dX1_spinnerRests_6 (by decide) rfl ?_
  refine kx_iconst (pc := 7) C (v := nI 0) dX1_spinnerRests_7 (by decide) ?_
  refine kx_ist4 (pc := 8) C dX1_spinnerRests_8 (by decide) rfl ?_
  exact loop 10 0 (by omega) (by omega) (fun k h2 => absurd h2 (by omega))
theorem sp_Rx_at {f : Nat → Nat} {n j p : Nat} (hj : 1 ≤ j) (hp : p < 10) : sp_Rx f n (10 * (j - 1) + p) = sp_R f n j p := by
  unfold sp_Rx
  rw [show (10 * (j - 1) + p) / 10 + 1 = j by omega, show (10 * (j - 1) + p) % 10 = p by omega]
theorem sp_Rf_no {f : Nat → Nat} {n m : Nat} (h : sp_Rx f n m = false) : sp_Rf f n (m + 1) = sp_Rf f n m := by
  have h1 : sp_ct (sp_Rx f n) (m + 1) = sp_ct (sp_Rx f n) m := by simp [sp_ct, h]
  have hp := sp_ct_pos (p := sp_Rx f n) (n := m)
  unfold sp_Rf
  rw [h1]
  by_cases q : sp_ct (sp_Rx f n) m = 0
  · rw [if_pos q, if_pos q]
  · have q2 := hp.mp (by omega)
    have h2 : sp_fst (sp_Rx f n) (m + 1) = sp_fst (sp_Rx f n) m := by
      rw [show sp_fst (sp_Rx f n) (m + 1) = if sp_fst (sp_Rx f n) m < m then sp_fst (sp_Rx f n) m else if sp_Rx f n m = true then m else m + 1 from rfl, if_pos q2]
    rw [if_neg q, if_neg q, h2]
theorem sp_Rf_first {f : Nat → Nat} {n m : Nat} (h : sp_Rx f n m = true) (h0 : sp_ct (sp_Rx f n) m = 0) : sp_Rf f n (m + 1) = nI (10 * (m / 10 + 1) + m % 10) := by
  have hp := sp_ct_pos (p := sp_Rx f n) (n := m)
  have hl := sp_fst_le (sp_Rx f n) m
  have h2 : sp_fst (sp_Rx f n) (m + 1) = m := by
    rw [show sp_fst (sp_Rx f n) (m + 1) = if sp_fst (sp_Rx f n) m < m then sp_fst (sp_Rx f n) m else if sp_Rx f n m = true then m else m + 1 from rfl, if_neg (fun z => by have := hp.mpr z; omega), if_pos h]
  unfold sp_Rf
  rw [if_neg (by simp [sp_ct, h]), h2]
theorem sp_Rf_more {f : Nat → Nat} {n m : Nat} (h : sp_Rx f n m = true) (h0 : 0 < sp_ct (sp_Rx f n) m) : sp_Rf f n (m + 1) = sp_Rf f n m := by
  have hp := sp_ct_pos (p := sp_Rx f n) (n := m)
  have h2 : sp_fst (sp_Rx f n) (m + 1) = sp_fst (sp_Rx f n) m := by
    rw [show sp_fst (sp_Rx f n) (m + 1) = if sp_fst (sp_Rx f n) m < m then sp_fst (sp_Rx f n) m else if sp_Rx f n m = true then m else m + 1 from rfl, if_pos (hp.mp h0)]
  unfold sp_Rf
  rw [if_neg (by simp [sp_ct, h]), if_neg (by omega), h2]
theorem sp_ct_yes {p : Nat → Bool} {m : Nat} (h : p m = true) : sp_ct p (m + 1) = sp_ct p m + 1 := by simp [sp_ct, h]
theorem sp_ct_nope {p : Nat → Bool} {m : Nat} (h : p m = false) : sp_ct p (m + 1) = sp_ct p m := by simp [sp_ct, h]
theorem st_G.up {g : kx_H} {f : Nat → Nat} {n k : Nat} {v : Int32} (h : st_G g f n) (hk : k ≠ 1) : st_G (kx_up g 125 k v) f n :=
  ⟨by rw [kx_up, if_neg (by omega)]; exact h.1, h.2.1, fun i hi => by rw [kx_up, if_neg (by omega)]; exact h.2.2.1 i hi, h.2.2.2⟩
set_option maxHeartbeats 4000000 in
set_option maxRecDepth 100000 in
theorem m_X1_findRests {h : kx_H} {f : Nat → Nat} {n : Nat} (hG : st_G h f n) : kx_MV 4 yX1_findRests cX1_findRests 3 [.ref 125] h (fun h1 => st_G h1 f n ∧ h1 125 2 = nI (sp_ct (sp_Rx f n) (10 * n)) ∧ h1 125 3 = sp_Rf f n (10 * n) ∧ ∀ d k, d ≠ 125 → h1 d k = h d k) := by
  refine kx_mkV (own := RX1) (L0 := [some (.ref 125), none, none]) rfl (by decide +kernel) (Nat.le_of_ble_eq_true rfl) rfl (fun F C hR => ?_)
  have hn9 := hG.2.1
  have outer : ∀ (q j : Nat) (g : kx_H) (z : Option Value), kx_nl [some (.ref 125), some (.int (nI j)), z] 2 = true → n + 1 - j = q → 1 ≤ j → j ≤ n + 1 → st_G g f n → g 125 2 = nI (sp_ct (sp_Rx f n) (10 * (j - 1))) → g 125 3 = sp_Rf f n (10 * (j - 1)) → (∀ d k, d ≠ 125 → g d k = h d k) → F 13 [some (.ref 125), some (.int (nI j)), z] [] g := by
    intro q
    induction q with
    | zero =>
      intro j g z hz hq h1 hj g0 g1 g2 g3
      have hn := g0.1
      refine kx_ild1 (pc := 13) C dX1_findRests_13 ?_
      refine kx_ald0 (pc := 14) C dX1_findRests_14 ?_
      refine kx_geti (pc := 15) C fl_X1_20 fd_125_1 (by first | assumption | rfl) dX1_findRests_15 ?_
      refine kx_icmp_gtN (pc := 18) C 93 (by omega) (by omega) dX1_findRests_18 (by decide) (fun c18 => ?_) (fun c18 => ?_)
      · exact hR dX1_findRests_93 ⟨g0, by rw [g1, show 10 * (j - 1) = 10 * n by omega], by rw [g2, show 10 * (j - 1) = 10 * n by omega], g3⟩
      · omega
    | succ q ih =>
      intro j g z hz hq h1 hj g0 g1 g2 g3
      have inner : ∀ (q2 p : Nat) (g : kx_H), 10 - p = q2 → p ≤ 10 → st_G g f n → g 125 2 = nI (sp_ct (sp_Rx f n) (10 * (j - 1) + p)) → g 125 3 = sp_Rf f n (10 * (j - 1) + p) → (∀ d k, d ≠ 125 → g d k = h d k) → F 23 [some (.ref 125), some (.int (nI j)), some (.int (nI p))] [] g := by
        intro q2
        induction q2 with
        | zero =>
          intro p g hq2 hp g0 g1 g2 g3
          refine kx_ild2 (pc := 23) C dX1_findRests_23 ?_
          refine kx_bipush (pc := 24) C (v := nI 9) dX1_findRests_24 (by decide) ?_
          refine kx_icmp_gtN (pc := 26) C 87 (by omega) (by omega) dX1_findRests_26 (by decide) (fun c26 => ?_) (fun c26 => ?_)
          · first | refine kx_inc1 (pc := 87) C (v := nI (_ + 1)) dX1_findRests_87 (by decide) rfl (nI_1 _) ?_ | refine kx_inc1 (pc := 87) C dX1_findRests_87 (by decide) rfl rfl ?_
            refine kx_goto (pc := 90) C 13 dX1_findRests_90 (by decide) ?_
            rw [show 10 * (j - 1) + p = 10 * (j + 1 - 1) by omega] at g1 g2
            exact ih (j + 1) g _ rfl (by omega) (by omega) (by omega) g0 g1 g2 g3
          · omega
        | succ q2 ih2 =>
          intro p g hq2 hp g0 g1 g2 g3
          have hn := g0.1
          have hct := sp_ct_le (sp_Rx f n) (10 * (j - 1) + p)
          have hrx := sp_Rx_at (f := f) (n := n) (j := j) (p := p) h1 (by omega)
          have no : sp_R f n j p = false → F 81 [some (.ref 125), some (.int (nI j)), some (.int (nI p))] [] g := by
            intro hr
            rw [hr] at hrx
            first | refine kx_inc2 (pc := 81) C (v := nI (_ + 1)) dX1_findRests_81 (by decide) rfl (nI_1 _) ?_ | refine kx_inc2 (pc := 81) C dX1_findRests_81 (by decide) rfl rfl ?_
            refine kx_goto (pc := 84) C 23 dX1_findRests_84 (by decide) ?_
            exact ih2 (p + 1) g (by omega) (by omega) g0 (by rw [g1, show 10 * (j - 1) + (p + 1) = 10 * (j - 1) + p + 1 by omega, sp_ct_nope hrx]) (by rw [g2, show 10 * (j - 1) + (p + 1) = 10 * (j - 1) + p + 1 by omega, sp_Rf_no hrx]) g3
          refine kx_ild2 (pc := 23) C dX1_findRests_23 ?_
          refine kx_bipush (pc := 24) C (v := nI 9) dX1_findRests_24 (by decide) ?_
          refine kx_icmp_gtN (pc := 26) C 87 (by omega) (by omega) dX1_findRests_26 (by decide) (fun c26 => ?_) (fun c26 => ?_)
          · omega
          · refine kx_ald0 (pc := 29) C dX1_findRests_29 ?_
            refine kx_ild1 (pc := 30) C dX1_findRests_30 ?_
            refine kx_ild2 (pc := 31) C dX1_findRests_31 ?_
            refine kx_callVI2 (pc := 32) C cs_X1_53 ob_125 (m_X1_tellerRests g0 (by omega) (by omega) (by omega)) (by decide) dX1_findRests_32 (Nat.le_of_ble_eq_true rfl) (fun r32 h32 q32 => ?_)
            obtain ⟨e32, rfl⟩ := q32
            subst e32
            refine kx_if_eq (pc := 35) C 81 dX1_findRests_35 (by decide) (fun c35 => ?_) (fun c35 => ?_)
            · exact no (by rw [sp_R, Bool.eq_false_iff.mpr (kx_if0 c35)]; rfl)
            · have c35 := kx_if1 c35
              refine kx_ald0 (pc := 38) C dX1_findRests_38 ?_
              refine kx_ild1 (pc := 39) C dX1_findRests_39 ?_
              refine kx_ild2 (pc := 40) C dX1_findRests_40 ?_
              refine kx_callVI2 (pc := 41) C cs_X1_57 ob_125 (m_X1_spinnerRests g0 (by omega) (by omega) (by omega)) (by decide) dX1_findRests_41 (Nat.le_of_ble_eq_true rfl) (fun r41 h41 q41 => ?_)
              obtain ⟨e41, rfl⟩ := q41
              subst e41
              refine kx_if_eq (pc := 44) C 81 dX1_findRests_44 (by decide) (fun c44 => ?_) (fun c44 => ?_)
              · exact no (by rw [sp_R, c35, Bool.eq_false_iff.mpr (kx_if0 c44)]; rfl)
              · have c44 := kx_if1 c44
                have hyes : sp_R f n j p = true := (by rw [sp_R, c35, c44]; rfl)
                rw [hyes] at hrx
                refine kx_ald0 (pc := 47) C dX1_findRests_47 ?_
                refine kx_ald0 (pc := 48) C dX1_findRests_48 ?_
                refine kx_geti (pc := 49) C fl_X1_47 fd_125_2 g1 dX1_findRests_49 ?_
                refine kx_if_neN (pc := 52) C 64 (by omega) dX1_findRests_52 (by decide) (fun c52 => ?_) (fun c52 => ?_)
                · refine kx_ald0 (pc := 64) C dX1_findRests_64 ?_
                  refine kx_geti (pc := 65) C fl_X1_50 fd_125_3 g2 dX1_findRests_65 ?_
                  refine kx_puti (pc := 68) C fl_X1_50 fp_X1_3 fd_125_3 rfl rfl dX1_findRests_68 ?_
                  refine kx_ald0 (pc := 71) C dX1_findRests_71 ?_
                  refine kx_dup (pc := 72) C dX1_findRests_72 rfl ?_
                  refine kx_geti (pc := 73) C fl_X1_47 fd_125_2 (show _ = nI (sp_ct (sp_Rx f n) (10 * (j - 1) + p)) by rw [kx_up, if_neg (by omega)]; exact g1) dX1_findRests_73 ?_
                  refine kx_iconst (pc := 76) C (v := nI 1) dX1_findRests_76 (by decide) ?_
                  refine kx_iaddN (pc := 77) C dX1_findRests_77 ?_
                  refine kx_puti (pc := 78) C fl_X1_47 fp_X1_2 fd_125_2 rfl rfl dX1_findRests_78 ?_
                  first | refine kx_inc2 (pc := 81) C (v := nI (_ + 1)) dX1_findRests_81 (by decide) rfl (nI_1 _) ?_ | refine kx_inc2 (pc := 81) C dX1_findRests_81 (by decide) rfl rfl ?_
                  refine kx_goto (pc := 84) C 23 dX1_findRests_84 (by decide) ?_
                  refine ih2 (p + 1) _ (by omega) (by omega) ((g0.up (by omega)).up (by omega)) ?_ ?_ (fun d k hd => by rw [kx_up, if_neg (by omega), kx_up, if_neg (by omega)]; exact g3 d k hd)
                  · rw [kx_up, if_pos ⟨rfl, rfl⟩, show 10 * (j - 1) + (p + 1) = 10 * (j - 1) + p + 1 by omega, sp_ct_yes hrx]
                  · rw [kx_up, if_neg (by omega), kx_up, if_pos ⟨rfl, rfl⟩, show 10 * (j - 1) + (p + 1) = 10 * (j - 1) + p + 1 by omega]
                    first
                      | rw [sp_Rf_more hrx c52]
                      | (rw [sp_Rf_first hrx c52]; congr 1; omega)
                · refine kx_bipush (pc := 55) C (v := nI 10) dX1_findRests_55 (by decide) ?_
                  refine kx_ild1 (pc := 57) C dX1_findRests_57 ?_
                  refine kx_imulN (pc := 58) C dX1_findRests_58 ?_
                  refine kx_ild2 (pc := 59) C dX1_findRests_59 ?_
                  refine kx_iaddN (pc := 60) C dX1_findRests_60 ?_
                  refine kx_goto (pc := 61) C 68 dX1_findRests_61 (by decide) ?_
                  refine kx_puti (pc := 68) C fl_X1_50 fp_X1_3 fd_125_3 rfl rfl dX1_findRests_68 ?_
                  refine kx_ald0 (pc := 71) C dX1_findRests_71 ?_
                  refine kx_dup (pc := 72) C dX1_findRests_72 rfl ?_
                  refine kx_geti (pc := 73) C fl_X1_47 fd_125_2 (show _ = nI (sp_ct (sp_Rx f n) (10 * (j - 1) + p)) by rw [kx_up, if_neg (by omega)]; exact g1) dX1_findRests_73 ?_
                  refine kx_iconst (pc := 76) C (v := nI 1) dX1_findRests_76 (by decide) ?_
                  refine kx_iaddN (pc := 77) C dX1_findRests_77 ?_
                  refine kx_puti (pc := 78) C fl_X1_47 fp_X1_2 fd_125_2 rfl rfl dX1_findRests_78 ?_
                  first | refine kx_inc2 (pc := 81) C (v := nI (_ + 1)) dX1_findRests_81 (by decide) rfl (nI_1 _) ?_ | refine kx_inc2 (pc := 81) C dX1_findRests_81 (by decide) rfl rfl ?_
                  refine kx_goto (pc := 84) C 23 dX1_findRests_84 (by decide) ?_
                  refine ih2 (p + 1) _ (by omega) (by omega) ((g0.up (by omega)).up (by omega)) ?_ ?_ (fun d k hd => by rw [kx_up, if_neg (by omega), kx_up, if_neg (by omega)]; exact g3 d k hd)
                  · rw [kx_up, if_pos ⟨rfl, rfl⟩, show 10 * (j - 1) + (p + 1) = 10 * (j - 1) + p + 1 by omega, sp_ct_yes hrx]
                  · rw [kx_up, if_neg (by omega), kx_up, if_pos ⟨rfl, rfl⟩, show 10 * (j - 1) + (p + 1) = 10 * (j - 1) + p + 1 by omega]
                    first
                      | rw [sp_Rf_more hrx c52]
                      | (rw [sp_Rf_first hrx c52]; congr 1; omega)
      refine kx_ild1 (pc := 13) C dX1_findRests_13 ?_
      refine kx_ald0 (pc := 14) C dX1_findRests_14 ?_
      refine kx_geti (pc := 15) C fl_X1_20 fd_125_1 (by first | exact g0.1 | rfl) dX1_findRests_15 ?_
      refine kx_icmp_gtN (pc := 18) C 93 (by omega) (by omega) dX1_findRests_18 (by decide) (fun c18 => ?_) (fun c18 => ?_)
      · omega
      · refine kx_iconst (pc := 21) C (v := nI 0) dX1_findRests_21 (by decide) ?_
        refine kx_ist2 (pc := 22) C dX1_findRests_22 (by decide) rfl ?_
        exact inner 10 0 g (by omega) (by omega) g0 g1 g2 g3
  refine kx_ald0 (pc := 0) C dX1_findRests_0 ?_
  refine kx_iconst (pc := 1) C (v := nI 0) dX1_findRests_1 (by decide) ?_
  refine kx_puti (pc := 2) C fl_X1_47 fp_X1_2 fd_125_2 rfl rfl dX1_findRests_2 ?_
  refine kx_ald0 (pc := 5) C dX1_findRests_5 ?_
  refine kx_bipush (pc := 6) C (v := -4) dX1_findRests_6 (by decide) ?_
  refine kx_puti (pc := 8) C fl_X1_50 fp_X1_3 fd_125_3 rfl rfl dX1_findRests_8 ?_
  refine kx_iconst (pc := 11) C (v := nI 1) dX1_findRests_11 (by decide) ?_
  refine kx_ist1 (pc := 12) C dX1_findRests_12 (by decide) rfl ?_
  exact outer n 1 _ none rfl (by omega) (by omega) (by omega) ((hG.up (by omega)).up (by omega)) (by simp [kx_up, sp_ct]) (by simp [kx_up, sp_Rf, sp_ct]) (fun d k hd => by simp [kx_up, hd])
