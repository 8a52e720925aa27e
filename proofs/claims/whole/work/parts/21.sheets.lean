/-! sheets: sl j: 0 nothing, else the lane + 1; sn j how many items; it j k the items -/
def st_SH (h : kx_H) (sl sn : Nat → Nat) (it : kx_H) : Prop := ∀ j, j < 4 → ((sl j = 0 ∧ h (48 + 2 * j) 0 = -1) ∨ (0 < sl j ∧ sl j ≤ 3 ∧ h (48 + 2 * j) 0 = nI (sl j - 1))) ∧ (h (48 + 2 * j) 1 = nI (sn j) ∧ sn j ≤ 24) ∧ ∀ k, k < 24 → h (49 + 2 * j) k = it j k
theorem st_SH.kept {h g : kx_H} {sl sn : Nat → Nat} {it : kx_H} (hs : st_SH h sl sn it) (hg : ∀ d j, 48 ≤ d → d < 56 → g d j = h d j) : st_SH g sl sn it := by
  intro j hj
  obtain ⟨h1, h2, h3⟩ := hs j hj
  rw [hg (48 + 2 * j) 0 (by omega) (by omega), hg (48 + 2 * j) 1 (by omega) (by omega)]
  exact ⟨h1, h2, fun k hk => by rw [hg (49 + 2 * j) k (by omega) (by omega)]; exact h3 k hk⟩
/-- why items are refused (0: they aren't) -/
def sp_ref (sl sn : Nat → Nat) (j : Nat) (l i : Int32) (n : Int) : Int32 := if sl j = 0 then -11 else if ¬ nI (sl j - 1) = l then -12 else if 0 ≤ i.toInt ∧ 0 ≤ n ∧ i.toInt + n ≤ (sn j : Int) then 0 else -13
theorem st_SH.ref {h : kx_H} {sl sn : Nat → Nat} {it : kx_H} (hs : st_SH h sl sn it) {j : Nat} (hj : j < 4) (l i n : Int32) : (if h (48 + 2 * j) 0 = -1 then -11 else if ¬ h (48 + 2 * j) 0 = l then -12 else if 0 ≤ i.toInt ∧ 0 ≤ n.toInt ∧ i.toInt + n.toInt ≤ (sn j : Int) then (0 : Int32) else -13) = sp_ref sl sn j l i n.toInt := by
  unfold sp_ref
  rcases (hs j hj).1 with ⟨z, q⟩ | ⟨z, z2, q⟩
  · rw [if_pos q, if_pos z]
  · rw [q, if_neg (kx_m1 (by omega)), if_neg (show ¬ sl j = 0 by omega)]
theorem sp_ref_0 {sl sn : Nat → Nat} {j : Nat} {l i : Int32} {n : Int} (h : sp_ref sl sn j l i n = 0) : 0 < sl j ∧ nI (sl j - 1) = l ∧ 0 ≤ i.toInt ∧ 0 ≤ n ∧ i.toInt + n ≤ (sn j : Int) := by
  unfold sp_ref at h
  split at h
  · exact absurd h (by decide)
  · split at h
    · exact absurd h (by decide)
    · split at h
      · next h1 h2 h3 => exact ⟨by omega, Decidable.byContradiction h2, h3⟩
      · exact absurd h (by decide)
def sp_okI (it : kx_H) (j i n most : Nat) : Bool := sp_all (fun k => decide (0 ≤ (it j (i + k)).toInt ∧ (it j (i + k)).toInt ≤ (most : Int))) n
def sp_take (sl sn : Nat → Nat) (it : kx_H) (j : Nat) (l i : Int32) (n most : Nat) : Int32 := if sp_ref sl sn j l i n = 0 then (if sp_okI it j (kx_n i) n most = true then 0 else -2) else sp_ref sl sn j l i n
theorem sp_take_0 {sl sn : Nat → Nat} {it : kx_H} {j : Nat} {l i : Int32} {n most : Nat} (h : sp_take sl sn it j l i n most = 0) : sp_ref sl sn j l i n = 0 ∧ sp_okI it j (kx_n i) n most = true := by
  unfold sp_take at h
  split at h
  · next q =>
    split at h
    · next q2 => exact ⟨q, q2⟩
    · exact absurd h (by decide)
  · next q => exact absurd h q
set_option maxHeartbeats 4000000 in
set_option maxRecDepth 100000 in
theorem m_X8_takeItems {h : kx_H} {sl sn : Nat → Nat} {it : kx_H} {j n most : Nat} (l v : Int32) (hs : st_SH h sl sn it) (hj : j < 4) (hn : n ≤ 16) (hm : most ≤ 99) : kx_MI 3 yX8_takeItems cX8_takeItems 8 .int [.ref 0, .int (nI j), .int l, .int v, .int (nI n), .int (nI most)] h (fun r h1 => r = sp_take sl sn it j l v n most ∧ (r = 0 → ∀ k, k < n → h1 56 k = it j (kx_n v + k)) ∧ ∀ d k, d ≠ 56 → h1 d k = h d k) := by
  refine kx_mkI (own := RX8) (L0 := [some (.ref 0), some (.int (nI j)), some (.int l), some (.int v), some (.int (nI n)), some (.int (nI most)), none, none]) rfl (by decide +kernel) (Nat.le_of_ble_eq_true rfl) rfl (fun F C hR => ?_)
  obtain ⟨s1, ⟨s2, s3⟩, s4⟩ := hs j hj
  have part : ∀ i : Nat, v = nI i → i < 2 ^ 31 → i + n ≤ sn j → sp_ref sl sn j l v n = 0 → ∀ (q k : Nat) (g : kx_H), n - k = q → k ≤ n → (∀ x, x < k → decide (0 ≤ (it j (i + x)).toInt ∧ (it j (i + x)).toInt ≤ (most : Int)) = true) → (∀ x, x < k → g 56 x = it j (i + x)) → (∀ d x, d ≠ 56 → g d x = h d x) → F 26 [some (.ref 0), some (.int (nI j)), some (.int l), some (.int (nI i)), some (.int (nI n)), some (.int (nI most)), some (.int 0), some (.int (nI k))] [] g := by
    intro i e hi2 hin hrf q
    subst e
    induction q with
    | zero =>
      intro k g hq hk hb hw hg
      refine kx_ild7 (pc := 26) C dX8_takeItems_26 ?_
      refine kx_ild4 (pc := 28) C dX8_takeItems_28 ?_
      refine kx_icmp_geN (pc := 30) C 79 (by omega) (by omega) dX8_takeItems_30 (by decide) (fun c30 => ?_) (fun c30 => ?_)
      · refine kx_iconst (pc := 79) C (v := nI 0) dX8_takeItems_79 (by decide) ?_
        exact hR dX8_takeItems_80 rfl ⟨by rw [sp_take, if_pos hrf, kx_n, kx_n_nI hi2, if_pos (show sp_okI it j i n most = true from sp_all_iff.mpr (fun x hx => hb x (by omega)))]; rfl, fun _ x hx => by rw [kx_n, kx_n_nI hi2]; exact hw x (by omega), hg⟩
      · omega
    | succ q ih =>
      intro k g hq hk hb hw hg
      have hv : g (49 + 2 * j) (i + k) = it j (i + k) := by rw [hg _ _ (by omega)]; exact s4 (i + k) (by omega)
      refine kx_ild7 (pc := 26) C dX8_takeItems_26 ?_
      refine kx_ild4 (pc := 28) C dX8_takeItems_28 ?_
      refine kx_icmp_geN (pc := 30) C 79 (by omega) (by omega) dX8_takeItems_30 (by decide) (fun c30 => ?_) (fun c30 => ?_)
      · omega
      · refine kx_ald0 (pc := 33) C dX8_takeItems_33 ?_
        refine kx_getr (pc := 34) C fl_X8_32 fd_0_5 dX8_takeItems_34 ?_
        refine kx_ild7 (pc := 37) C dX8_takeItems_37 ?_
        refine kx_ald0 (pc := 39) C dX8_takeItems_39 ?_
        refine kx_getr (pc := 40) C fl_X8_28 fd_0_4 dX8_takeItems_40 ?_
        refine kx_ild1 (pc := 43) C dX8_takeItems_43 ?_
        refine kx_aald (pc := 44) C ra_47 (by omega) dX8_takeItems_44 ?_
        refine kx_getr (pc := 45) C fl_X8_270 (fs_2 _ (by omega)) dX8_takeItems_45 ?_
        refine kx_ild3 (pc := 48) C dX8_takeItems_48 ?_
        refine kx_ild7 (pc := 49) C dX8_takeItems_49 ?_
        refine kx_iaddN (pc := 51) C dX8_takeItems_51 ?_
        refine kx_iald (pc := 52) C (fs_i _ (by omega)) (by omega) hv dX8_takeItems_52 ?_
        refine kx_iast (pc := 53) C ia_56 (by omega) dX8_takeItems_53 ?_
        refine kx_ald0 (pc := 54) C dX8_takeItems_54 ?_
        refine kx_getr (pc := 55) C fl_X8_32 fd_0_5 dX8_takeItems_55 ?_
        refine kx_ild7 (pc := 58) C dX8_takeItems_58 ?_
        refine kx_iald (pc := 60) C ia_56 (by omega) (show _ = it j (i + k) by simp [kx_up]) dX8_takeItems_60 ?_
        refine kx_iconst (pc := 61) C (v := nI 0) dX8_takeItems_61 (by decide) ?_
        refine kx_ild5 (pc := 62) C dX8_takeItems_62 ?_
        refine kx_callSI3 (pc := 64) C cs_X8_75 (m_X8_isWithin _ _ _) (by decide) dX8_takeItems_64 (Nat.le_of_ble_eq_true rfl) (fun r64 h64 q64 => ?_)
        obtain ⟨z64, rfl⟩ := q64
        subst z64
        refine kx_if_ne (pc := 67) C 73 dX8_takeItems_67 (by decide) (fun c67 => ?_) (fun c67 => ?_)
        · have c67 := kx_if1 c67
          rw [show (nI 0).toInt = 0 from rfl, kx_T (by omega)] at c67
          first | refine kx_inc7 (pc := 73) C (v := nI (_ + 1)) dX8_takeItems_73 (by decide) rfl (nI_1 _) ?_ | refine kx_inc7 (pc := 73) C dX8_takeItems_73 (by decide) rfl rfl ?_
          refine kx_goto (pc := 76) C 26 dX8_takeItems_76 (by decide) ?_
          refine ih (k + 1) _ (by omega) (by omega) (fun x hx => ?_) (fun x hx => ?_) (fun d x hd => by rw [kx_up, if_neg (by omega)]; exact hg d x hd)
          · rcases Nat.lt_or_ge x k with y | y
            · exact hb x y
            · rw [show x = k by omega]; exact decide_eq_true c67
          · by_cases z : x = k
            · subst z; simp [kx_up]
            · rw [kx_up, if_neg (by omega)]; exact hw x (by omega)
        · have c67 := kx_if0 c67
          rw [show (nI 0).toInt = 0 from rfl, kx_T (by omega)] at c67
          refine kx_bipush (pc := 70) C (v := -2) dX8_takeItems_70 (by decide) ?_
          have no : ¬ sp_okI it j i n most = true := fun z => c67 (by have := sp_all_iff.mp z k (by omega); simpa using this)
          exact hR dX8_takeItems_72 rfl ⟨by rw [sp_take, if_pos hrf, kx_n, kx_n_nI hi2, if_neg no], fun z => absurd z (by decide), fun d x hd => by rw [kx_up, if_neg (by omega)]; exact hg d x hd⟩
  refine kx_ald0 (pc := 0) C dX8_takeItems_0 ?_
  refine kx_getr (pc := 1) C fl_X8_28 fd_0_4 dX8_takeItems_1 ?_
  refine kx_ild1 (pc := 4) C dX8_takeItems_4 ?_
  refine kx_aald (pc := 5) C ra_47 (by omega) dX8_takeItems_5 ?_
  refine kx_ild2 (pc := 6) C dX8_takeItems_6 ?_
  refine kx_ild3 (pc := 7) C dX8_takeItems_7 ?_
  refine kx_ild4 (pc := 8) C dX8_takeItems_8 ?_
  refine kx_callVI3 (pc := 10) C cs_X8_245 (fs_o _ (by omega)) (m_X5_refusal _ _ _ hj s2 s3) (by decide) dX8_takeItems_10 (Nat.le_of_ble_eq_true rfl) (fun r10 h10 q10 => ?_)
  obtain ⟨z10, e10⟩ := q10
  have z10 := z10.symm
  subst z10
  rw [hs.ref hj, kx_T (show n < 2 ^ 31 by omega)] at e10
  subst e10
  refine kx_ist6 (pc := 13) C dX8_takeItems_13 (by decide) rfl ?_
  refine kx_ild6 (pc := 15) C dX8_takeItems_15 ?_
  refine kx_if_eq (pc := 17) C 23 dX8_takeItems_17 (by decide) (fun c17 => ?_) (fun c17 => ?_)
  · have rf := sp_ref_0 c17
    obtain ⟨i, rfl, hi, hi2⟩ := kx_nat rf.2.2.1
    rw [c17]
    refine kx_iconst (pc := 23) C (v := nI 0) dX8_takeItems_23 (by decide) ?_
    refine kx_ist7 (pc := 24) C dX8_takeItems_24 (by decide) rfl ?_
    exact part i rfl hi2 (by have := rf.2.2.2.2; omega) c17 n 0 h (by omega) (by omega) (fun x hx => absurd hx (by omega)) (fun x hx => absurd hx (by omega)) (fun d x _ => rfl)
  · refine kx_ild6 (pc := 20) C dX8_takeItems_20 ?_
    exact hR dX8_takeItems_22 rfl ⟨by rw [sp_take, if_neg c17], fun z => absurd z c17, fun d k _ => rfl⟩
def upI (it : kx_H) (j : Nat) (f : Nat → Int32) : kx_H := fun x => if x = j then f else it x
def sp_sheet (v l n : Int32) : Int32 := if ((0 ≤ v.toInt ∧ v.toInt ≤ 3) ∧ 0 ≤ l.toInt ∧ l.toInt ≤ 2) ∧ n.toInt ≤ 24 then (if n.toInt < 0 then -14 else n) else -1
def sp_sheetC (v l n : Int32) : Prop := (((0 ≤ v.toInt ∧ v.toInt ≤ 3) ∧ 0 ≤ l.toInt ∧ l.toInt ≤ 2) ∧ n.toInt ≤ 24) ∧ 0 ≤ n.toInt
theorem st_SH.one {h g : kx_H} {sl sn : Nat → Nat} {it : kx_H} (hs : st_SH h sl sn it) {j x y : Nat} {f : Nat → Int32} (hj : j < 4) (h0 : (x = 0 ∧ g (48 + 2 * j) 0 = -1) ∨ (0 < x ∧ x ≤ 3 ∧ g (48 + 2 * j) 0 = nI (x - 1))) (h1 : g (48 + 2 * j) 1 = nI y) (hy : y ≤ 24) (h2 : ∀ k, k < 24 → g (49 + 2 * j) k = f k) (hg : ∀ d k, d ≠ 48 + 2 * j → d ≠ 49 + 2 * j → 48 ≤ d → d < 56 → g d k = h d k) : st_SH g (up sl j x) (up sn j y) (upI it j f) := by
  intro i hi
  by_cases z : i = j
  · subst z
    rw [up_s, up_s, upI, if_pos rfl]
    exact ⟨h0, ⟨h1, hy⟩, h2⟩
  · obtain ⟨q1, q2, q3⟩ := hs i hi
    rw [up_o z, up_o z, upI, if_neg z, hg (48 + 2 * i) 0 (by omega) (by omega) (by omega) (by omega), hg (48 + 2 * i) 1 (by omega) (by omega) (by omega) (by omega)]
    exact ⟨q1, q2, fun k hk => by rw [hg (49 + 2 * i) k (by omega) (by omega) (by omega) (by omega)]; exact q3 k hk⟩
theorem up_id {a : Nat → Nat} {k : Nat} : up a k (a k) = a := funext fun j => by
  by_cases z : j = k
  · rw [z, up_s]
  · rw [up_o z]
set_option maxHeartbeats 4000000 in
set_option maxRecDepth 100000 in
theorem m_X8_sheet {h : kx_H} {sl sn : Nat → Nat} {it : kx_H} (v : Int32) (l : Int32) (n : Int32)  (hs : st_SH h sl sn it) : kx_MI 4 yX8_sheet cX8_sheet 4 .int [.ref 0, .int v, .int l, .int n] h (fun r h1 => r = sp_sheet v l n ∧ (¬ sp_sheetC v l n → h1 = h) ∧ (sp_sheetC v l n → st_SH h1 (up sl (kx_n v) (kx_n l + 1)) (up sn (kx_n v) (kx_n n)) (upI it (kx_n v) (fun _ => 0))) ∧ ∀ d k, (d < 48 ∨ 56 ≤ d) → h1 d k = h d k) := by
  refine kx_mkI (own := RX8) (L0 := [some (.ref 0), some (.int v), some (.int l), some (.int n)]) rfl (by decide +kernel) (Nat.le_of_ble_eq_true rfl) rfl (fun F C hR => ?_)
  refine kx_ild1 (pc := 0) C dX8_sheet_0 ?_
  refine kx_ild2 (pc := 1) C dX8_sheet_1 ?_
  refine kx_callSI2 (pc := 2) C cs_X8_208 (m_X8_isSheetOfLane _ _) (by decide) dX8_sheet_2 (Nat.le_of_ble_eq_true rfl) (fun r2 h2 q2 => ?_)
  obtain ⟨z2, rfl⟩ := q2
  have z2 := z2.symm
  subst z2
  refine kx_if_eq (pc := 5) C 14 dX8_sheet_5 (by decide) (fun c5 => ?_) (fun c5 => ?_)
  · refine kx_iconst (pc := 14) C (v := -1) dX8_sheet_14 (by decide) ?_
    have nc : ¬ (((0 ≤ v.toInt ∧ v.toInt ≤ 3) ∧ 0 ≤ l.toInt ∧ l.toInt ≤ 2) ∧ n.toInt ≤ 24) := fun z => by
      first
        | (rw [show (nI 24).toInt = 24 from rfl] at c11; omega)
        | exact kx_if0 c5 z.1
    exact hR dX8_sheet_15 rfl ⟨by rw [sp_sheet, if_neg nc], fun _ => rfl, fun z => absurd z.1 nc, fun d k _ => rfl⟩
  · refine kx_ild3 (pc := 8) C dX8_sheet_8 ?_
    refine kx_bipush (pc := 9) C (v := nI 24) dX8_sheet_9 (by decide) ?_
    refine kx_icmp_leI (pc := 11) C 16 dX8_sheet_11 (by decide) (fun c11 => ?_) (fun c11 => ?_)
    · have c5 := kx_if1 c5
      rw [show (nI 24).toInt = 24 from rfl] at c11
      refine kx_ild3 (pc := 16) C dX8_sheet_16 ?_
      refine kx_if_geI (pc := 17) C 23 dX8_sheet_17 (by decide) (fun c17 => ?_) (fun c17 => ?_)
      · obtain ⟨j, rfl, hj, hj2⟩ := kx_nat c5.1.1
        obtain ⟨i, rfl, hi, hi2⟩ := kx_nat c5.2.1
        obtain ⟨m, rfl, hm, hm2⟩ := kx_nat c17
        refine kx_ald0 (pc := 23) C dX8_sheet_23 ?_
        refine kx_getr (pc := 24) C fl_X8_28 fd_0_4 dX8_sheet_24 ?_
        refine kx_ild1 (pc := 27) C dX8_sheet_27 ?_
        refine kx_aald (pc := 28) C ra_47 (by omega) dX8_sheet_28 ?_
        refine kx_ild2 (pc := 29) C dX8_sheet_29 ?_
        refine kx_ild3 (pc := 30) C dX8_sheet_30 ?_
        refine kx_callVV2 (pc := 31) C cs_X8_257 (fs_o _ (by omega)) (m_X5_begin _ _ (by omega)) (by decide) dX8_sheet_31 (Nat.le_of_ble_eq_true rfl) (fun h31 q31 => ?_)
        obtain ⟨k1, k2, k3, k4⟩ := q31
        refine kx_ild3 (pc := 34) C dX8_sheet_34 ?_
        refine hR dX8_sheet_35 rfl ⟨by rw [sp_sheet, if_pos ⟨c5, c11⟩, if_neg (by omega)], fun z => absurd ⟨⟨c5, c11⟩, c17⟩ z, fun _ => ?_, fun d k hd => k4 d k (by omega) (by omega)⟩
        rw [kx_n, kx_n, kx_n, kx_n_nI hj2, kx_n_nI hi2, kx_n_nI hm2]
        exact hs.one (by omega) (Or.inr ⟨by omega, by omega, by rw [k1]; rfl⟩) k2 (by omega) k3 (fun d k h1 h2 _ _ => k4 d k h1 h2)
      · refine kx_bipush (pc := 20) C (v := -14) dX8_sheet_20 (by decide) ?_
        exact hR dX8_sheet_22 rfl ⟨by rw [sp_sheet, if_pos ⟨c5, c11⟩, if_pos c17], fun _ => rfl, fun z => absurd z.2 (by omega), fun d k _ => rfl⟩
    · refine kx_iconst (pc := 14) C (v := -1) dX8_sheet_14 (by decide) ?_
      have nc : ¬ (((0 ≤ v.toInt ∧ v.toInt ≤ 3) ∧ 0 ≤ l.toInt ∧ l.toInt ≤ 2) ∧ n.toInt ≤ 24) := fun z => by
        first
          | (rw [show (nI 24).toInt = 24 from rfl] at c11; omega)
          | exact kx_if0 c5 z.1
      exact hR dX8_sheet_15 rfl ⟨by rw [sp_sheet, if_neg nc], fun _ => rfl, fun z => absurd z.1 nc, fun d k _ => rfl⟩
def sp_drop (sl sn : Nat → Nat) (v : Int32) : Int32 := if 0 ≤ v.toInt ∧ v.toInt ≤ 3 then (if sl (kx_n v) = 0 then -11 else nI (sn (kx_n v))) else -1
def sp_dropL (sl : Nat → Nat) (v : Int32) : Nat → Nat := if 0 ≤ v.toInt ∧ v.toInt ≤ 3 then up sl (kx_n v) 0 else sl
theorem st_SH.null {h : kx_H} {sl sn : Nat → Nat} {it : kx_H} (hs : st_SH h sl sn it) {j : Nat} (hj : j < 4) : h (48 + 2 * j) 0 = -1 ↔ sl j = 0 := by
  rcases (hs j hj).1 with ⟨z, q⟩ | ⟨z, z2, q⟩
  · exact ⟨fun _ => z, fun _ => q⟩
  · rw [q]
    exact ⟨fun y => absurd y (kx_m1 (by omega)), fun y => by omega⟩
theorem upI_id {it : kx_H} {k : Nat} : upI it k (it k) = it := funext fun j => by
  unfold upI
  split
  · next z => rw [z]
  · rfl
set_option maxHeartbeats 4000000 in
set_option maxRecDepth 100000 in
theorem m_X8_drop {h : kx_H} {sl sn : Nat → Nat} {it : kx_H} (v : Int32)  (hs : st_SH h sl sn it) : kx_MI 3 yX8_drop cX8_drop 2 .int [.ref 0, .int v] h (fun r h1 => r = sp_drop sl sn v ∧ st_SH h1 (sp_dropL sl v) sn it ∧ ∀ d k, (d < 48 ∨ 56 ≤ d) → h1 d k = h d k) := by
  refine kx_mkI (own := RX8) (L0 := [some (.ref 0), some (.int v)]) rfl (by decide +kernel) (Nat.le_of_ble_eq_true rfl) rfl (fun F C hR => ?_)
  refine kx_ild1 (pc := 0) C dX8_drop_0 ?_
  refine kx_callSI1 (pc := 1) C cs_X8_260 (m_X8_isSheet _) (by decide) dX8_drop_1 (Nat.le_of_ble_eq_true rfl) (fun r1 h1 q1 => ?_)
  obtain ⟨z1, rfl⟩ := q1
  have z1 := z1.symm
  subst z1
  refine kx_if_ne (pc := 4) C 9 dX8_drop_4 (by decide) (fun c4 => ?_) (fun c4 => ?_)
  · have c4 := kx_if1 c4
    obtain ⟨j, rfl, hj, hj2⟩ := kx_nat c4.1
    have hnl := hs.null (j := j) (by omega)
    obtain ⟨s1, ⟨s2, s3⟩, s4⟩ := hs j (by omega)
    refine kx_ald0 (pc := 9) C dX8_drop_9 ?_
    refine kx_getr (pc := 10) C fl_X8_28 fd_0_4 dX8_drop_10 ?_
    refine kx_ild1 (pc := 13) C dX8_drop_13 ?_
    refine kx_aald (pc := 14) C ra_47 (by omega) dX8_drop_14 ?_
    refine kx_geti (pc := 15) C fl_X8_263 (fs_0 _ (by omega)) rfl dX8_drop_15 ?_
    refine kx_iconst (pc := 18) C (v := -1) dX8_drop_18 (by decide) ?_
    refine kx_icmp_ne (pc := 19) C 25 dX8_drop_19 (by decide) (fun c19 => ?_) (fun c19 => ?_)
    · refine kx_ald0 (pc := 25) C dX8_drop_25 ?_
      refine kx_getr (pc := 26) C fl_X8_28 fd_0_4 dX8_drop_26 ?_
      refine kx_ild1 (pc := 29) C dX8_drop_29 ?_
      refine kx_aald (pc := 30) C ra_47 (by omega) dX8_drop_30 ?_
      refine kx_iconst (pc := 31) C (v := -1) dX8_drop_31 (by decide) ?_
      refine kx_puti (pc := 32) C fl_X8_263 fp_X5_0 (fs_0 _ (by omega)) rfl rfl dX8_drop_32 ?_
      refine kx_ald0 (pc := 35) C dX8_drop_35 ?_
      refine kx_getr (pc := 36) C fl_X8_28 fd_0_4 dX8_drop_36 ?_
      refine kx_ild1 (pc := 39) C dX8_drop_39 ?_
      refine kx_aald (pc := 40) C ra_47 (by omega) dX8_drop_40 ?_
      refine kx_geti (pc := 41) C fl_X8_266 (fs_1 _ (by omega)) (show _ = nI (sn j) by rw [kx_up, if_neg (by omega)]; exact s2) dX8_drop_41 ?_
      refine hR dX8_drop_44 rfl ⟨by rw [sp_drop, if_pos c4, kx_n, kx_n_nI hj2, if_neg (fun z => c19 (hnl.mpr z))], ?_, fun d k hd => by rw [kx_up, if_neg (by omega)]⟩
      rw [sp_dropL, if_pos c4, kx_n, kx_n_nI hj2]
      have := hs.one (g := kx_up h (48 + 2 * j) 0 (-1)) (x := 0) (y := sn j) (f := it j) (show j < 4 by omega) (Or.inl ⟨rfl, by simp [kx_up]⟩) (by rw [kx_up, if_neg (by omega)]; exact s2) s3 (fun k hk => by rw [kx_up, if_neg (by omega)]; exact s4 k hk) (fun d k h1 h2 _ _ => by rw [kx_up, if_neg (by omega)])
      rw [up_id, upI_id] at this
      exact this
    · refine kx_bipush (pc := 22) C (v := -11) dX8_drop_22 (by decide) ?_
      refine hR dX8_drop_24 rfl ⟨by rw [sp_drop, if_pos c4, kx_n, kx_n_nI hj2, if_pos (hnl.mp c19)], ?_, fun d k _ => rfl⟩
      rw [sp_dropL, if_pos c4, kx_n, kx_n_nI hj2]
      have e := up_id (a := sl) (k := j)
      rw [hnl.mp c19] at e
      rw [e]
      exact hs
  · refine kx_iconst (pc := 7) C (v := -1) dX8_drop_7 (by decide) ?_
    exact hR dX8_drop_8 rfl ⟨by rw [sp_drop, if_neg (kx_if0 c4)], by rw [sp_dropL, if_neg (kx_if0 c4)]; exact hs, fun d k _ => rfl⟩
def sp_item (sl sn : Nat → Nat) (v l i : Int32) : Int32 := if (0 ≤ v.toInt ∧ v.toInt ≤ 3) ∧ 0 ≤ l.toInt ∧ l.toInt ≤ 2 then (if sp_ref sl sn (kx_n v) l i 1 = 0 then 1 else sp_ref sl sn (kx_n v) l i 1) else -1
def sp_itemI (sl sn : Nat → Nat) (it : kx_H) (v l i : Int32) (x : Int64) : kx_H := if ((0 ≤ v.toInt ∧ v.toInt ≤ 3) ∧ 0 ≤ l.toInt ∧ l.toInt ≤ 2) ∧ sp_ref sl sn (kx_n v) l i 1 = 0 then upI it (kx_n v) (fun k => if k = kx_n i then sp_cut l x else it (kx_n v) k) else it
set_option maxHeartbeats 4000000 in
set_option maxRecDepth 100000 in
theorem m_X8_item {h : kx_H} {sl sn : Nat → Nat} {it : kx_H} (v : Int32) (l : Int32) (i : Int32) (x : Int64)  (hs : st_SH h sl sn it) : kx_MI 4 yX8_item cX8_item 7 .int [.ref 0, .int v, .int l, .int i, .long x] h (fun r h1 => r = sp_item sl sn v l i ∧ st_SH h1 sl sn (sp_itemI sl sn it v l i x) ∧ ∀ d k, (d < 48 ∨ 56 ≤ d) → h1 d k = h d k) := by
  refine kx_mkI (own := RX8) (L0 := [some (.ref 0), some (.int v), some (.int l), some (.int i), some (.long x), none, none]) rfl (by decide +kernel) (Nat.le_of_ble_eq_true rfl) rfl (fun F C hR => ?_)
  refine kx_ild1 (pc := 0) C dX8_item_0 ?_
  refine kx_ild2 (pc := 1) C dX8_item_1 ?_
  refine kx_callSI2 (pc := 2) C cs_X8_208 (m_X8_isSheetOfLane _ _) (by decide) dX8_item_2 (Nat.le_of_ble_eq_true rfl) (fun r2 h2 q2 => ?_)
  obtain ⟨z2, rfl⟩ := q2
  have z2 := z2.symm
  subst z2
  refine kx_if_ne (pc := 5) C 10 dX8_item_5 (by decide) (fun c5 => ?_) (fun c5 => ?_)
  · have c5 := kx_if1 c5
    obtain ⟨j, rfl, hj, hj2⟩ := kx_nat c5.1.1
    obtain ⟨s1, ⟨s2, s3⟩, s4⟩ := hs j (by omega)
    refine kx_ald0 (pc := 10) C dX8_item_10 ?_
    refine kx_getr (pc := 11) C fl_X8_28 fd_0_4 dX8_item_11 ?_
    refine kx_ild1 (pc := 14) C dX8_item_14 ?_
    refine kx_aald (pc := 15) C ra_47 (by omega) dX8_item_15 ?_
    refine kx_ild2 (pc := 16) C dX8_item_16 ?_
    refine kx_ild3 (pc := 17) C dX8_item_17 ?_
    refine kx_iconst (pc := 18) C (v := nI 1) dX8_item_18 (by decide) ?_
    refine kx_callVI3 (pc := 19) C cs_X8_245 (fs_o _ (by omega)) (m_X5_refusal _ _ _ (show j < 4 by omega) s2 s3) (by decide) dX8_item_19 (Nat.le_of_ble_eq_true rfl) (fun r19 h19 q19 => ?_)
    obtain ⟨z19, e19⟩ := q19
    have z19 := z19.symm
    subst z19
    rw [hs.ref (by omega), show (nI 1).toInt = 1 from rfl] at e19
    subst e19
    refine kx_ist6 (pc := 22) C dX8_item_22 (by decide) rfl ?_
    refine kx_ild6 (pc := 24) C dX8_item_24 ?_
    refine kx_if_eq (pc := 26) C 32 dX8_item_26 (by decide) (fun c26 => ?_) (fun c26 => ?_)
    · have rf := sp_ref_0 c26
      obtain ⟨m, rfl, hm, hm2⟩ := kx_nat rf.2.2.1
      refine kx_ald0 (pc := 32) C dX8_item_32 ?_
      refine kx_getr (pc := 33) C fl_X8_28 fd_0_4 dX8_item_33 ?_
      refine kx_ild1 (pc := 36) C dX8_item_36 ?_
      refine kx_aald (pc := 37) C ra_47 (by omega) dX8_item_37 ?_
      refine kx_ild3 (pc := 38) C dX8_item_38 ?_
      refine kx_lld4 (pc := 39) C dX8_item_39 ?_
      refine kx_callVV2 (pc := 41) C cs_X8_248 (fs_o _ (by omega)) (m_X5_put _ (show j < 4 by omega) (by have := rf.2.2.2.2; omega)) (by decide) dX8_item_41 (Nat.le_of_ble_eq_true rfl) (fun h41 q41 => ?_)
      subst q41
      refine kx_iconst (pc := 44) C (v := nI 1) dX8_item_44 (by decide) ?_
      have el : h (48 + 2 * j) 0 = l := by
        rcases s1 with ⟨z, q⟩ | ⟨z, z2, q⟩
        · have := rf.1; omega
        · rw [q]; exact rf.2.1
      refine hR dX8_item_45 rfl ⟨by rw [sp_item, if_pos c5, kx_n, kx_n_nI hj2, if_pos c26]; rfl, ?_, fun d k hd => by rw [kx_up, if_neg (by omega)]⟩
      rw [sp_itemI, kx_n, kx_n, kx_n_nI hj2, if_pos ⟨c5, c26⟩, kx_n_nI hm2, el]
      have := hs.one (g := kx_up h (49 + 2 * j) m (sp_cut l x)) (x := sl j) (y := sn j) (f := fun k => if k = m then sp_cut l x else it j k) (show j < 4 by omega) (by rw [kx_up, if_neg (by omega)]; exact s1) (by rw [kx_up, if_neg (by omega)]; exact s2) s3 (fun k hk => by
        by_cases z : k = m
        · rw [kx_up, if_pos ⟨rfl, z⟩, if_pos z]
        · rw [kx_up, if_neg (fun y => z y.2), if_neg z]; exact s4 k hk) (fun d k h1 h2 _ _ => by rw [kx_up, if_neg (by omega)])
      rw [up_id, up_id] at this
      exact this
    · refine kx_ild6 (pc := 29) C dX8_item_29 ?_
      exact hR dX8_item_31 rfl ⟨by rw [sp_item, if_pos c5, kx_n, kx_n_nI hj2, if_neg c26], by rw [sp_itemI, kx_n, kx_n_nI hj2, if_neg (fun z => c26 z.2)]; exact hs, fun d k _ => rfl⟩
  · refine kx_iconst (pc := 8) C (v := -1) dX8_item_8 (by decide) ?_
    exact hR dX8_item_9 rfl ⟨by rw [sp_item, if_neg (kx_if0 c5)], by rw [sp_itemI, if_neg (fun z => kx_if0 c5 z.1)]; exact hs, fun d k _ => rfl⟩
