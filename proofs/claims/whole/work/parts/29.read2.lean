/-- the sets behind 0, 1, .. tales of the first row -/
def sp_sq (a v : Nat → Nat) (n : Nat) : Nat → Nat
  | 0 => 0
  | k + 1 => sp_sq a v n k ||| 2 ^ sp_nx a v n (sp_sq a v n k)
def sp_rm (a v : Nat → Nat) (n : Nat) : Nat := sp_fst (fun k => decide (sp_L a (sp_sq a v n k) = n)) 9
theorem sp_ls_0 (a : Nat → Nat) : ∀ t, sp_ls a 0 t = 0
  | 0 => rfl
  | t + 1 => by unfold sp_ls; rw [sp_ls_0 a t]; simp
theorem sp_L_0 (a : Nat → Nat) : sp_L a 0 = 0 := sp_ls_0 a _
theorem sp_on1 {a v : Nat → Nat} {n u : Nat} (h0 : a 0 ≤ 8) (hu : u < 2 ^ a 0) (hW : 0 < sp_W a v n u) (hL : ¬ sp_L a u = n) : sp_nx a v n u < a 0 ∧ u / 2 ^ sp_nx a v n u % 2 = 0 ∧ sp_ft a v n (sp_nx a v n u) (sp_L a u) = true ∧ 0 < sp_W a v n (u ||| 2 ^ sp_nx a v n u) := by
  have h256 := sp_2T h0
  rw [sp_W_rec h0 (by omega), if_neg hL] at hW
  obtain ⟨i, hi, hp⟩ := sp_sg_pos hW
  have hlt : sp_nx a v n u < a 0 := by
    rcases Nat.lt_or_ge (sp_nx a v n u) (a 0) with q | q
    · exact q
    · have := sp_fst_no (p := fun t => decide (0 < sp_g a v n u t)) (n := a 0) (i := i) (by unfold sp_nx at q; omega)
      simp only [decide_eq_false_iff_not] at this
      exact absurd hp this
  have hy := sp_fst_yes (p := fun t => decide (0 < sp_g a v n u t)) (n := a 0) hlt
  simp only [decide_eq_true_eq] at hy
  have hy2 : 0 < sp_g a v n u (sp_nx a v n u) := hy
  unfold sp_g at hy2
  split at hy2
  · next q => exact ⟨hlt, q.1, q.2, hy2⟩
  · omega
theorem sp_sq_inv {a v : Nat → Nat} {n : Nat} (h0 : a 0 ≤ 8) (hW : 0 < sp_W a v n 0) : ∀ k : Nat, (∀ j, j < k → ¬ sp_L a (sp_sq a v n j) = n) → sp_sq a v n k < 2 ^ a 0 ∧ sp_p8 (sp_sq a v n k) = k ∧ sp_L a (sp_sq a v n k) ≤ n ∧ 0 < sp_W a v n (sp_sq a v n k)
  | 0, _ => ⟨Nat.pow_pos (by decide), (by show sp_p8 0 = 0; decide), by rw [show sp_sq a v n 0 = 0 from rfl, sp_L_0]; omega, hW⟩
  | k + 1, h => by
    obtain ⟨i1, i2, i3, i4⟩ := sp_sq_inv h0 hW k (fun j hj => h j (by omega))
    have h256 := sp_2T h0
    obtain ⟨o1, o2, o3, o4⟩ := sp_on1 h0 i1 i4 (h k (by omega))
    have hb := sp_bits8 (sp_sq a v n k) (by omega) _ (by omega) o2
    show (sp_sq a v n k ||| 2 ^ sp_nx a v n (sp_sq a v n k)) < _ ∧ sp_p8 (sp_sq a v n k ||| 2 ^ sp_nx a v n (sp_sq a v n k)) = _ ∧ sp_L a (sp_sq a v n k ||| 2 ^ sp_nx a v n (sp_sq a v n k)) ≤ n ∧ 0 < sp_W a v n (sp_sq a v n k ||| 2 ^ sp_nx a v n (sp_sq a v n k))
    refine ⟨sp_or_lt (a 0) h0 _ i1 _ o1, by rw [hb.1.1, i2], ?_, o4⟩
    rw [sp_L_or h0 (by omega) o1 o2]
    unfold sp_ft at o3
    rw [Bool.and_eq_true, decide_eq_true_eq] at o3
    exact o3.1
set_option maxHeartbeats 4000000 in
set_option maxRecDepth 100000 in
theorem m_X4_followFirst {h : kx_H} {a v : Nat → Nat} {n : Nat} (hRR : st_RR h a v n) (hRB : st_RB a) (h0 : a 0 ≤ 8) (hn : n ≤ 16) (hv3 : ∀ i, i < n → v i ≤ 9) (hw : ∀ x, x < 2 ^ a 0 → h 113 x = nI (sp_W a v n x)) (hW : 0 < sp_W a v n 0) (hz : h 112 3 = nI 0) : kx_MV 4 yX4_followFirst cX4_followFirst 7 [.ref 112, .ref 1, .ref 56, .int (nI n)] h (fun h1 => h1 112 3 = nI (sp_rm a v n) ∧ sp_rm a v n ≤ 8 ∧ (∀ j, j < sp_rm a v n → h1 114 j = nI (sp_nx a v n (sp_sq a v n j))) ∧ (∀ j, j ≠ 3 → h1 112 j = h 112 j) ∧ ∀ d j, d ≠ 112 → d ≠ 114 → h1 d j = h d j) := by
  refine kx_mkV (own := RX4) (L0 := [some (.ref 112), some (.ref 1), some (.ref 56), some (.int (nI n)), none, none, none]) rfl (by decide +kernel) (Nat.le_of_ble_eq_true rfl) rfl (fun F C hR => ?_)
  have h256 := sp_2T h0
  have loop : ∀ (q k : Nat) (g : kx_H) (z : Option Value), 8 - k = q → k ≤ 8 → (∀ j, j < k → ¬ sp_L a (sp_sq a v n j) = n) → g 112 3 = nI k → (∀ j, j < k → g 114 j = nI (sp_nx a v n (sp_sq a v n j))) → (∀ j, j ≠ 3 → g 112 j = h 112 j) → (∀ d j, d ≠ 112 → d ≠ 114 → g d j = h d j) → F 6 [some (.ref 112), some (.ref 1), some (.ref 56), some (.int (nI n)), some (.int (nI (sp_sq a v n k))), some (.int (nI (sp_L a (sp_sq a v n k)))), z] [] g := by
    intro q
    induction q with
    | zero =>
      intro k g z hq hk hno g1 g2 g3 g4
      have ek : k = 8 := by omega
      subst ek
      obtain ⟨i1, i2, i3, i4⟩ := sp_sq_inv h0 hW 8 hno
      have hLn : sp_L a (sp_sq a v n 8) = n := by
        rcases Nat.decEq (sp_L a (sp_sq a v n 8)) n with y | y
        · obtain ⟨o1, o2, -⟩ := sp_on1 h0 i1 i4 y
          have := sp_p8_all _ (by omega) i2 _ (show sp_nx a v n (sp_sq a v n 8) < 8 by omega)
          omega
        · exact y
      have hrm : sp_rm a v n = 8 := sp_fst_at (k := 8) (decide_eq_true hLn) (fun j hj => decide_eq_false (hno j hj)) (by omega)
      refine kx_ild5 (pc := 6) C dX4_followFirst_6 ?_
      refine kx_ild3 (pc := 8) C dX4_followFirst_8 ?_
      refine kx_icmp_geN (pc := 9) C 83 (by omega) (by omega) dX4_followFirst_9 (by decide) (fun c9 => ?_) (fun c9 => ?_)
      · exact hR dX4_followFirst_83 ⟨by rw [hrm]; exact g1, by omega, fun j hj => g2 j (by omega), g3, g4⟩
      · omega
    | succ q ih =>
      intro k g z hq hk hno g1 g2 g3 g4
      obtain ⟨i1, i2, i3, i4⟩ := sp_sq_inv h0 hW k hno
      have hL := sp_L_le hRB h0 (sp_sq a v n k)
      have hrr : st_RR g a v n := hRR.kept (fun d j hd => g4 d j (by omega) (by omega))
      have hw2 : ∀ x, x < 2 ^ a 0 → g 113 x = nI (sp_W a v n x) := fun x hx => by rw [g4 113 x (by omega) (by omega)]; exact hw x hx
      have hlen := hRR.2.1.1
      refine kx_ild5 (pc := 6) C dX4_followFirst_6 ?_
      refine kx_ild3 (pc := 8) C dX4_followFirst_8 ?_
      refine kx_icmp_geN (pc := 9) C 83 (by omega) (by omega) dX4_followFirst_9 (by decide) (fun c9 => ?_) (fun c9 => ?_)
      · have hLn : sp_L a (sp_sq a v n k) = n := by omega
        have hrm : sp_rm a v n = k := sp_fst_at (k := k) (decide_eq_true hLn) (fun j hj => decide_eq_false (hno j hj)) (by omega)
        exact hR dX4_followFirst_83 ⟨by rw [hrm]; exact g1, by omega, fun j hj => g2 j (by omega), g3, g4⟩
      · have hLn : ¬ sp_L a (sp_sq a v n k) = n := by omega
        obtain ⟨o1, o2, o3, o4⟩ := sp_on1 h0 i1 i4 hLn
        refine kx_ald0 (pc := 12) C dX4_followFirst_12 ?_
        refine kx_geti (pc := 13) C fl_X4_35 fd_112_3 (by first | assumption | rfl) dX4_followFirst_13 ?_
        refine kx_bipush (pc := 16) C (v := nI 8) dX4_followFirst_16 (by decide) ?_
        refine kx_icmp_geN (pc := 18) C 83 (by omega) (by omega) dX4_followFirst_18 (by decide) (fun c18 => ?_) (fun c18 => ?_)
        · omega
        · refine kx_ald0 (pc := 21) C dX4_followFirst_21 ?_
          refine kx_ald1 (pc := 22) C dX4_followFirst_22 ?_
          refine kx_ald2 (pc := 23) C dX4_followFirst_23 ?_
          refine kx_ild3 (pc := 24) C dX4_followFirst_24 ?_
          refine kx_ild4 (pc := 25) C dX4_followFirst_25 ?_
          refine kx_ild5 (pc := 27) C dX4_followFirst_27 ?_
          refine kx_callVI5 (pc := 29) C cs_X4_57 ob_112 (m_X4_firstOn hrr hRB h0 hn hv3 i1 hw2) (by decide) dX4_followFirst_29 (Nat.le_of_ble_eq_true rfl) (fun r29 h29 q29 => ?_)
          obtain ⟨z29, e29⟩ := q29
          have z29 := z29.symm
          subst z29
          rw [if_pos o1] at e29
          subst e29
          refine kx_ist6 (pc := 32) C dX4_followFirst_32 (by decide) rfl ?_
          refine kx_ild6 (pc := 34) C dX4_followFirst_34 ?_
          refine kx_iconst (pc := 36) C (v := -1) dX4_followFirst_36 (by decide) ?_
          refine kx_icmp_ne (pc := 37) C 41 dX4_followFirst_37 (by decide) (fun c37 => ?_) (fun c37 => ?_)
          · refine kx_ald0 (pc := 41) C dX4_followFirst_41 ?_
            refine kx_getr (pc := 42) C fl_X4_15 fd_112_1 dX4_followFirst_42 ?_
            refine kx_ald0 (pc := 45) C dX4_followFirst_45 ?_
            refine kx_dup (pc := 46) C dX4_followFirst_46 rfl ?_
            refine kx_geti (pc := 47) C fl_X4_35 fd_112_3 (by first | assumption | rfl) dX4_followFirst_47 ?_
            refine kx_dup_x1 (pc := 50) C dX4_followFirst_50 rfl rfl ?_
            refine kx_iconst (pc := 51) C (v := nI 1) dX4_followFirst_51 (by decide) ?_
            first | refine kx_iaddN (pc := 52) C dX4_followFirst_52 ?_ | refine kx_iadd (pc := 52) C dX4_followFirst_52 ?_
            refine kx_puti (pc := 53) C fl_X4_35 fp_X4_3 fd_112_3 rfl rfl dX4_followFirst_53 ?_
            refine kx_ild6 (pc := 56) C dX4_followFirst_56 ?_
            refine kx_iast (pc := 58) C ia_114 (by omega) dX4_followFirst_58 ?_
            refine kx_ild4 (pc := 59) C dX4_followFirst_59 ?_
            refine kx_iconst (pc := 61) C (v := nI 1) dX4_followFirst_61 (by decide) ?_
            refine kx_ild6 (pc := 62) C dX4_followFirst_62 ?_
            refine kx_ishl (pc := 64) C dX4_followFirst_64 ?_
            rw [kx_sl1 (by omega)]
            refine kx_ior (pc := 65) C dX4_followFirst_65 ?_
            rw [kx_orn]
            refine kx_ist4 (pc := 66) C dX4_followFirst_66 (by decide) rfl ?_
            refine kx_ild5 (pc := 68) C dX4_followFirst_68 ?_
            refine kx_ald1 (pc := 70) C dX4_followFirst_70 ?_
            refine kx_getr (pc := 71) C fl_X4_42 fd_1_5 dX4_followFirst_71 ?_
            refine kx_ild6 (pc := 74) C dX4_followFirst_74 ?_
            refine kx_iald (pc := 76) C ia_2 (by omega) (show _ = nI (a (81 + sp_nx a v n (sp_sq a v n k))) by rw [kx_up, if_neg (by omega), kx_up, if_neg (by omega), g4 _ _ (by omega) (by omega)]; exact hlen _ (by omega)) dX4_followFirst_76 ?_
            first | refine kx_iaddN (pc := 77) C dX4_followFirst_77 ?_ | refine kx_iadd (pc := 77) C dX4_followFirst_77 ?_
            rw [← sp_L_or h0 (by omega) o1 o2]
            refine kx_ist5 (pc := 78) C dX4_followFirst_78 (by decide) rfl ?_
            refine kx_goto (pc := 80) C 6 dX4_followFirst_80 (by decide) ?_
            refine ih (k + 1) _ _ (by omega) (by omega) (fun j hj => ?_) (by rw [kx_up, if_neg (by omega), kx_up, if_pos ⟨rfl, rfl⟩]) (fun j hj => ?_) (fun j hj => by rw [kx_up, if_neg (by omega), kx_up, if_neg (by omega)]; exact g3 j hj) (fun d j h1 h2 => by rw [kx_up, if_neg (by omega), kx_up, if_neg (by omega)]; exact g4 d j h1 h2)
            · rcases Nat.lt_or_ge j k with y | y
              · exact hno j y
              · rw [show j = k by omega]; exact hLn
            · by_cases y : j = k
              · rw [y, kx_up, if_pos ⟨rfl, rfl⟩]
              · rw [kx_up, if_neg (by omega), kx_up, if_neg (by omega)]; exact g2 j (by omega)
          · exact absurd c37 (kx_m1 (by omega))
  refine kx_iconst (pc := 0) C (v := nI 0) dX4_followFirst_0 (by decide) ?_
  refine kx_ist4 (pc := 1) C dX4_followFirst_1 (by decide) rfl ?_
  refine kx_iconst (pc := 3) C (v := nI 0) dX4_followFirst_3 (by decide) ?_
  refine kx_ist5 (pc := 4) C dX4_followFirst_4 (by decide) rfl ?_
  have e0 := sp_L_0 a
  have := loop 8 0 h none (by omega) (by omega) (fun j hj => absurd hj (by omega)) hz (fun j hj => absurd hj (by omega)) (fun j _ => rfl) (fun d j _ _ => rfl)
  rw [show sp_sq a v n 0 = 0 from rfl, e0] at this
  exact this
set_option maxHeartbeats 4000000 in
set_option maxRecDepth 100000 in
theorem m_X4_run {h : kx_H} {a v : Nat → Nat} {n : Nat} (hRR : st_RR h a v n) (hRB : st_RB a) (h0 : a 0 ≤ 8) (hn : n ≤ 16) (hv3 : ∀ i, i < n → v i ≤ 9) : kx_MV 5 yX4_run cX4_run 6 [.ref 112, .ref 1, .ref 56, .int (nI n)] h (fun h1 => h1 112 2 = nI (sp_W a v n 0) ∧ (sp_W a v n 0 = 0 → h1 112 3 = nI 0) ∧ (0 < sp_W a v n 0 → h1 112 3 = nI (sp_rm a v n) ∧ sp_rm a v n ≤ 8 ∧ ∀ j, j < sp_rm a v n → h1 114 j = nI (sp_nx a v n (sp_sq a v n j))) ∧ ∀ d j, (d < 112 ∨ 114 < d) → h1 d j = h d j) := by
  refine kx_mkV (own := RX4) (L0 := [some (.ref 112), some (.ref 1), some (.ref 56), some (.int (nI n)), none, none]) rfl (by decide +kernel) (Nat.le_of_ble_eq_true rfl) rfl (fun F C hR => ?_)
  have h256 := sp_2T h0
  have hT := hRR.1
  have hpos : 0 < 2 ^ a 0 := Nat.pow_pos (by decide)
  have hWl := sp_W_le (v := v) (n := n) h0 0
  have loop : ∀ (r : Nat) (g : kx_H) (z : Option Value), r ≤ 2 ^ a 0 → (∀ x, r ≤ x → x < 2 ^ a 0 → g 113 x = nI (sp_W a v n x)) → (∀ d j, d ≠ 113 → g d j = h d j) → F 10 [some (.ref 112), some (.ref 1), some (.ref 56), some (.int (nI n)), some (.int (nI r + Int32.ofInt (-1))), z] [] g := by
    intro r
    induction r with
    | zero =>
      intro g z hr hw hg
      have hw0 := hw 0 (by omega) (by omega)
      have hrr : st_RR (kx_up (kx_up g 112 2 (nI (sp_W a v n 0))) 112 3 (nI 0)) a v n := hRR.kept (fun d j hd => by rw [kx_up, if_neg (by omega), kx_up, if_neg (by omega)]; exact hg d j (by omega))
      refine kx_ild4 (pc := 10) C dX4_run_10 ?_
      refine kx_if_ltI (pc := 12) C 57 dX4_run_12 (by decide) (fun c12 => ?_) (fun c12 => ?_)
      · refine kx_ald0 (pc := 57) C dX4_run_57 ?_
        refine kx_ald0 (pc := 58) C dX4_run_58 ?_
        refine kx_getr (pc := 59) C fl_X4_9 fd_112_0 dX4_run_59 ?_
        refine kx_iconst (pc := 62) C (v := nI 0) dX4_run_62 (by decide) ?_
        refine kx_iald (pc := 63) C ia_113 (by omega) (by first | assumption | rfl) dX4_run_63 ?_
        refine kx_puti (pc := 64) C fl_X4_32 fp_X4_2 fd_112_2 rfl rfl dX4_run_64 ?_
        refine kx_ald0 (pc := 67) C dX4_run_67 ?_
        refine kx_iconst (pc := 68) C (v := nI 0) dX4_run_68 (by decide) ?_
        refine kx_puti (pc := 69) C fl_X4_35 fp_X4_3 fd_112_3 rfl rfl dX4_run_69 ?_
        refine kx_ald0 (pc := 72) C dX4_run_72 ?_
        refine kx_geti (pc := 73) C fl_X4_32 fd_112_2 (show _ = nI (sp_W a v n 0) by rw [kx_up, if_neg (by omega), kx_up, if_pos ⟨rfl, rfl⟩]) dX4_run_73 ?_
        refine kx_if_leN (pc := 76) C 86 (by omega) dX4_run_76 (by decide) (fun c76 => ?_) (fun c76 => ?_)
        · first
            | exact hR dX4_run_86 ⟨by rw [kx_up, if_neg (by omega), kx_up, if_pos ⟨rfl, rfl⟩], fun _ => by simp [kx_up], fun y => absurd c76 (by omega), fun d j hd => by rw [kx_up, if_neg (by omega), kx_up, if_neg (by omega)]; exact hg d j (by omega)⟩
            | exact hR dX4_run_86 ⟨by rw [k4 2 (by omega), kx_up, if_neg (by omega), kx_up, if_pos ⟨rfl, rfl⟩], fun y => absurd c76 (by omega), fun _ => ⟨k1, k2, k3⟩, fun d j hd => by rw [k5 d j (by omega) (by omega), kx_up, if_neg (by omega), kx_up, if_neg (by omega)]; exact hg d j (by omega)⟩
        · refine kx_ald0 (pc := 79) C dX4_run_79 ?_
          refine kx_ald1 (pc := 80) C dX4_run_80 ?_
          refine kx_ald2 (pc := 81) C dX4_run_81 ?_
          refine kx_ild3 (pc := 82) C dX4_run_82 ?_
          refine kx_callVV3 (pc := 83) C cs_X4_38 ob_112 (m_X4_followFirst hrr hRB h0 hn hv3 (fun x hx => by rw [kx_up, if_neg (by omega), kx_up, if_neg (by omega)]; exact hw x (by omega) hx) c76 (by simp [kx_up])) (by decide) dX4_run_83 (Nat.le_of_ble_eq_true rfl) (fun h83 q83 => ?_)
          obtain ⟨k1, k2, k3, k4, k5⟩ := q83
          first
            | exact hR dX4_run_86 ⟨by rw [kx_up, if_neg (by omega), kx_up, if_pos ⟨rfl, rfl⟩], fun _ => by simp [kx_up], fun y => absurd c76 (by omega), fun d j hd => by rw [kx_up, if_neg (by omega), kx_up, if_neg (by omega)]; exact hg d j (by omega)⟩
            | exact hR dX4_run_86 ⟨by rw [k4 2 (by omega), kx_up, if_neg (by omega), kx_up, if_pos ⟨rfl, rfl⟩], fun y => absurd c76 (by omega), fun _ => ⟨k1, k2, k3⟩, fun d j hd => by rw [k5 d j (by omega) (by omega), kx_up, if_neg (by omega), kx_up, if_neg (by omega)]; exact hg d j (by omega)⟩
      · exact absurd c12 (by decide)
    | succ r ih =>
      intro g z hr hw hg
      have hrr : st_RR g a v n := hRR.kept (fun d j hd => hg d j (by omega))
      have hL := sp_L_le hRB h0 r
      have hrec := sp_W_rec (v := v) (n := n) h0 (show r < 256 by omega)
      have key : ∀ x : Nat, x = sp_W a v n r → F 50 [some (.ref 112), some (.ref 1), some (.ref 56), some (.int (nI n)), some (.int (nI r)), some (.int (nI (sp_L a r)))] [.int (nI x), .int (nI r), .ref 113] g := by
        intro x ex
        refine kx_iast (pc := 50) C ia_113 (by omega) dX4_run_50 ?_
        refine kx_inc4 (pc := 51) C dX4_run_51 (by decide) rfl rfl ?_
        refine kx_goto (pc := 54) C 10 dX4_run_54 (by decide) ?_
        refine ih _ _ (by omega) (fun y h1 h2 => ?_) (fun d j hd => by rw [kx_up, if_neg (by omega)]; exact hg d j hd)
        by_cases w : y = r
        · rw [w, kx_up, if_pos ⟨rfl, rfl⟩, ex]
        · rw [kx_up, if_neg (by omega)]; exact hw y (by omega) h2
      rw [sp_m1]
      refine kx_ild4 (pc := 10) C dX4_run_10 ?_
      refine kx_if_ltI (pc := 12) C 57 dX4_run_12 (by decide) (fun c12 => ?_) (fun c12 => ?_)
      · rw [kx_T (by omega)] at c12
        omega
      · refine kx_ald1 (pc := 15) C dX4_run_15 ?_
        refine kx_ild4 (pc := 16) C dX4_run_16 ?_
        refine kx_callSI2 (pc := 18) C cs_X4_24 (m_X4_sentencesOf hrr.1 hrr.2.1.1 h0 (by omega)) (by decide) dX4_run_18 (Nat.le_of_ble_eq_true rfl) (fun r18 h18 q18 => ?_)
        obtain ⟨z18, rfl⟩ := q18
        have z18 := z18.symm
        subst z18
        refine kx_ist5 (pc := 21) C dX4_run_21 (by decide) rfl ?_
        refine kx_ald0 (pc := 23) C dX4_run_23 ?_
        refine kx_getr (pc := 24) C fl_X4_9 fd_112_0 dX4_run_24 ?_
        refine kx_ild4 (pc := 27) C dX4_run_27 ?_
        refine kx_ild5 (pc := 29) C dX4_run_29 ?_
        refine kx_ild3 (pc := 31) C dX4_run_31 ?_
        refine kx_icmp_neN (pc := 32) C 39 (by omega) (by omega) dX4_run_32 (by decide) (fun c32 => ?_) (fun c32 => ?_)
        · refine kx_ald0 (pc := 39) C dX4_run_39 ?_
          refine kx_ald1 (pc := 40) C dX4_run_40 ?_
          refine kx_ald2 (pc := 41) C dX4_run_41 ?_
          refine kx_ild3 (pc := 42) C dX4_run_42 ?_
          refine kx_ild4 (pc := 43) C dX4_run_43 ?_
          refine kx_ild5 (pc := 45) C dX4_run_45 ?_
          refine kx_callVI5 (pc := 47) C cs_X4_28 ob_112 (m_X4_waysOn hrr hRB h0 hn hv3 (by omega) (fun x h1 h2 => hw x (by omega) h2)) (by decide) dX4_run_47 (Nat.le_of_ble_eq_true rfl) (fun r47 h47 q47 => ?_)
          obtain ⟨z47, rfl⟩ := q47
          have z47 := z47.symm
          subst z47
          first | exact key _ (by rw [hrec, if_pos c32]) | exact key _ (by rw [hrec, if_neg c32]; rfl)
        · refine kx_iconst (pc := 35) C (v := nI 1) dX4_run_35 (by decide) ?_
          refine kx_goto (pc := 36) C 50 dX4_run_36 (by decide) ?_
          first | exact key _ (by rw [hrec, if_pos c32]) | exact key _ (by rw [hrec, if_neg c32]; rfl)
  refine kx_iconst (pc := 0) C (v := nI 1) dX4_run_0 (by decide) ?_
  refine kx_ald1 (pc := 1) C dX4_run_1 ?_
  refine kx_geti (pc := 2) C fl_X4_18 fd_1_0 hT dX4_run_2 ?_
  refine kx_ishl (pc := 5) C dX4_run_5 ?_
  rw [kx_sl1 (by omega)]
  refine kx_iconst (pc := 6) C (v := nI 1) dX4_run_6 (by decide) ?_
  refine kx_isubN (pc := 7) C (by omega) dX4_run_7 ?_
  refine kx_ist4 (pc := 8) C dX4_run_8 (by decide) rfl ?_
  have e1 : nI (2 ^ a 0 - 1) = nI (2 ^ a 0) + Int32.ofInt (-1) := by
    have := sp_m1 (2 ^ a 0 - 1)
    rw [show 2 ^ a 0 - 1 + 1 = 2 ^ a 0 by omega] at this
    exact this.symm
  rw [e1]
  exact loop _ h none (by omega) (fun x h1 h2 => absurd h1 (by omega)) (fun d j _ => rfl)
def sp_read (a sl sn : Nat → Nat) (it : kx_H) (v l i n k : Int32) : Int32 := if ((0 ≤ v.toInt ∧ v.toInt ≤ 3) ∧ 0 ≤ l.toInt ∧ l.toInt ≤ 2) ∧ (1 ≤ n.toInt ∧ n.toInt ≤ 16) ∧ -1 ≤ k.toInt ∧ k.toInt ≤ 7 then (if sp_take sl sn it (kx_n v) l i (kx_n n) 3 = 0 then (if k = -1 then nI (sp_W a (sp_val it (kx_n v) (kx_n i)) (kx_n n) 0) else if 0 < sp_W a (sp_val it (kx_n v) (kx_n i)) (kx_n n) 0 ∧ kx_n k < sp_rm a (sp_val it (kx_n v) (kx_n i)) (kx_n n) then nI (sp_nx a (sp_val it (kx_n v) (kx_n i)) (kx_n n) (sp_sq a (sp_val it (kx_n v) (kx_n i)) (kx_n n) (kx_n k))) else -4) else sp_take sl sn it (kx_n v) l i (kx_n n) 3) else -1
set_option maxHeartbeats 4000000 in
set_option maxRecDepth 100000 in
theorem m_X8_read {h : kx_H} {a sl sn : Nat → Nat} {it : kx_H} (v l i n k : Int32) (hC : st_CH h a) (hB : st_B a) (hs : st_SH h sl sn it) : kx_MI 6 yX8_read cX8_read 7 .int [.ref 0, .int v, .int l, .int i, .int n, .int k] h (fun r h1 => r = sp_read a sl sn it v l i n k ∧ ∀ d q, d ≠ 56 → (d < 112 ∨ 114 < d) → h1 d q = h d q) := by
  refine kx_mkI (own := RX8) (L0 := [some (.ref 0), some (.int v), some (.int l), some (.int i), some (.int n), some (.int k), none]) rfl (by decide +kernel) (Nat.le_of_ble_eq_true rfl) rfl (fun F C hR => ?_)
  obtain ⟨⟨hT, hE, hS, hev, hme⟩, ⟨hlen, hten, hkd⟩, hYD, hHD, hBR⟩ := id hC
  obtain ⟨⟨b0, b1, b2, b3, b8, b8'⟩, hRB, bl, byy, bh, bz, bb⟩ := id hB
  have hl9 := hRB.1
  refine kx_ild1 (pc := 0) C dX8_read_0 ?_
  refine kx_ild2 (pc := 1) C dX8_read_1 ?_
  refine kx_callSI2 (pc := 2) C cs_X8_208 (m_X8_isSheetOfLane _ _) (by decide) dX8_read_2 (Nat.le_of_ble_eq_true rfl) (fun r2 h2 q2 => ?_)
  obtain ⟨z2, rfl⟩ := q2
  have z2 := z2.symm
  subst z2
  refine kx_if_eq (pc := 5) C 30 dX8_read_5 (by decide) (fun c5 => ?_) (fun c5 => ?_)
  · refine kx_iconst (pc := 30) C (v := -1) dX8_read_30 (by decide) ?_
    have nc : ¬ (((0 ≤ v.toInt ∧ v.toInt ≤ 3) ∧ 0 ≤ l.toInt ∧ l.toInt ≤ 2) ∧ (1 ≤ n.toInt ∧ n.toInt ≤ 16) ∧ -1 ≤ k.toInt ∧ k.toInt ≤ 7) := fun z => by
      first
        | (have c27 := kx_if0 c27
           rw [show (nI 7).toInt = 7 from rfl, show (-1 : Int32).toInt = -1 from rfl] at c27
           exact c27 z.2.2)
        | exact kx_if0 c16 z.2.1
        | exact kx_if0 c5 z.1
    exact hR dX8_read_31 rfl ⟨by rw [sp_read, if_neg nc], fun d k _ _ => rfl⟩
  · refine kx_ild4 (pc := 8) C dX8_read_8 ?_
    refine kx_iconst (pc := 10) C (v := nI 1) dX8_read_10 (by decide) ?_
    refine kx_bipush (pc := 11) C (v := nI 16) dX8_read_11 (by decide) ?_
    refine kx_callSI3 (pc := 13) C cs_X8_75 (m_X8_isWithin _ _ _) (by decide) dX8_read_13 (Nat.le_of_ble_eq_true rfl) (fun r13 h13 q13 => ?_)
    obtain ⟨z13, rfl⟩ := q13
    have z13 := z13.symm
    subst z13
    refine kx_if_eq (pc := 16) C 30 dX8_read_16 (by decide) (fun c16 => ?_) (fun c16 => ?_)
    · refine kx_iconst (pc := 30) C (v := -1) dX8_read_30 (by decide) ?_
      have nc : ¬ (((0 ≤ v.toInt ∧ v.toInt ≤ 3) ∧ 0 ≤ l.toInt ∧ l.toInt ≤ 2) ∧ (1 ≤ n.toInt ∧ n.toInt ≤ 16) ∧ -1 ≤ k.toInt ∧ k.toInt ≤ 7) := fun z => by
        first
          | (have c27 := kx_if0 c27
             rw [show (nI 7).toInt = 7 from rfl, show (-1 : Int32).toInt = -1 from rfl] at c27
             exact c27 z.2.2)
          | exact kx_if0 c16 z.2.1
          | exact kx_if0 c5 z.1
      exact hR dX8_read_31 rfl ⟨by rw [sp_read, if_neg nc], fun d k _ _ => rfl⟩
    · refine kx_ild5 (pc := 19) C dX8_read_19 ?_
      refine kx_iconst (pc := 21) C (v := -1) dX8_read_21 (by decide) ?_
      refine kx_bipush (pc := 22) C (v := nI 7) dX8_read_22 (by decide) ?_
      refine kx_callSI3 (pc := 24) C cs_X8_75 (m_X8_isWithin _ _ _) (by decide) dX8_read_24 (Nat.le_of_ble_eq_true rfl) (fun r24 h24 q24 => ?_)
      obtain ⟨z24, rfl⟩ := q24
      have z24 := z24.symm
      subst z24
      refine kx_if_ne (pc := 27) C 32 dX8_read_27 (by decide) (fun c27 => ?_) (fun c27 => ?_)
      · have c5 := kx_if1 c5
        have c16 := kx_if1 c16
        have c27 := kx_if1 c27
        rw [show (nI 1).toInt = 1 from rfl, show (nI 16).toInt = 16 from rfl] at c16
        rw [show (nI 7).toInt = 7 from rfl, show (-1 : Int32).toInt = -1 from rfl] at c27
        have cc : ((0 ≤ v.toInt ∧ v.toInt ≤ 3) ∧ 0 ≤ l.toInt ∧ l.toInt ≤ 2) ∧ (1 ≤ n.toInt ∧ n.toInt ≤ 16) ∧ -1 ≤ k.toInt ∧ k.toInt ≤ 7 := ⟨c5, c16, c27⟩
        obtain ⟨z, rfl, hz, hz2⟩ := kx_nat c5.1.1
        obtain ⟨m, rfl, hm, hm2⟩ := kx_nat (x := n) (by omega)
        refine kx_ald0 (pc := 32) C dX8_read_32 ?_
        refine kx_ild1 (pc := 33) C dX8_read_33 ?_
        refine kx_ild2 (pc := 34) C dX8_read_34 ?_
        refine kx_ild3 (pc := 35) C dX8_read_35 ?_
        refine kx_ild4 (pc := 36) C dX8_read_36 ?_
        refine kx_iconst (pc := 38) C (v := nI 3) dX8_read_38 (by decide) ?_
        refine kx_callVI5 (pc := 39) C cs_X8_211 ob_0 (m_X8_takeItems _ _ hs (show z < 4 by omega) (by omega) (by omega)) (by decide) dX8_read_39 (Nat.le_of_ble_eq_true rfl) (fun r39 h39 q39 => ?_)
        obtain ⟨rfl, k1, k2⟩ := q39
        refine kx_ist6 (pc := 42) C dX8_read_42 (by decide) rfl ?_
        refine kx_ild6 (pc := 44) C dX8_read_44 ?_
        refine kx_if_eq (pc := 46) C 52 dX8_read_46 (by decide) (fun c46 => ?_) (fun c46 => ?_)
        · have k1b := k1 c46
          have ok := (sp_take_0 c46).2
          have hv : ∀ q, q < m → h39 56 q = nI (sp_val it z (kx_n i) q) := fun q hq => by rw [k1b q hq]; exact (sp_okI_v ok hq).1
          have hv3 : ∀ q, q < m → sp_val it z (kx_n i) q ≤ 9 := fun q hq => Nat.le_trans (sp_okI_v ok hq).2 (by omega)
          have hrr : st_RR h39 a (sp_val it z (kx_n i)) m := ⟨by rw [k2 1 0 (by omega)]; exact hT, st_RD.kept2 ⟨hlen, hten, hkd⟩ (fun q => k2 2 q (by omega)) (fun d q h1 h2 => k2 d q (by omega)) (fun q => k2 12 q (by omega)), hv⟩
          refine kx_ald0 (pc := 52) C dX8_read_52 ?_
          refine kx_getr (pc := 53) C fl_X8_56 fd_0_9 dX8_read_53 ?_
          refine kx_ald0 (pc := 56) C dX8_read_56 ?_
          refine kx_getr (pc := 57) C fl_X8_10 fd_0_0 dX8_read_57 ?_
          refine kx_ald0 (pc := 60) C dX8_read_60 ?_
          refine kx_getr (pc := 61) C fl_X8_32 fd_0_5 dX8_read_61 ?_
          refine kx_ild4 (pc := 64) C dX8_read_64 ?_
          refine kx_callVV3 (pc := 66) C cs_X8_226 ob_112 (m_X4_run hrr hRB b0 (by omega) hv3) (by decide) dX8_read_66 (Nat.le_of_ble_eq_true rfl) (fun h66 q66 => ?_)
          obtain ⟨r1, r2, r3, r4⟩ := q66
          refine kx_ild5 (pc := 69) C dX8_read_69 ?_
          refine kx_iconst (pc := 71) C (v := -1) dX8_read_71 (by decide) ?_
          refine kx_icmp_ne (pc := 72) C 83 dX8_read_72 (by decide) (fun c72 => ?_) (fun c72 => ?_)
          · have ej : 0 ≤ k.toInt := by
              rcases (show k.toInt = -1 ∨ 0 ≤ k.toInt by omega) with q | q
              · exact absurd (kx_eqI.mpr (by rw [q]; rfl)) c72
              · exact q
            obtain ⟨w, rfl, hw, hw2⟩ := kx_nat ej
            have hfs : ∃ f : Nat, h66 112 3 = nI f ∧ f ≤ 8 ∧ ((0 < sp_W a (sp_val it z (kx_n i)) m 0 ∧ f = sp_rm a (sp_val it z (kx_n i)) m) ∨ (sp_W a (sp_val it z (kx_n i)) m 0 = 0 ∧ f = 0)) := by
              rcases Nat.eq_zero_or_pos (sp_W a (sp_val it z (kx_n i)) m 0) with y | y
              · exact ⟨0, r2 y, by omega, Or.inr ⟨y, rfl⟩⟩
              · exact ⟨_, (r3 y).1, (r3 y).2.1, Or.inl ⟨y, rfl⟩⟩
            obtain ⟨f, hf1, hf2, hf3⟩ := hfs
            refine kx_ild5 (pc := 83) C dX8_read_83 ?_
            refine kx_ald0 (pc := 85) C dX8_read_85 ?_
            refine kx_getr (pc := 86) C fl_X8_56 fd_0_9 dX8_read_86 ?_
            refine kx_geti (pc := 89) C fl_X8_232 fd_112_3 hf1 dX8_read_89 ?_
            refine kx_icmp_geN (pc := 92) C 108 (by omega) (by omega) dX8_read_92 (by decide) (fun c92 => ?_) (fun c92 => ?_)
            · have e : ¬ (0 < sp_W a (sp_val it z (kx_n i)) m 0 ∧ w < sp_rm a (sp_val it z (kx_n i)) m) := by omega
              refine kx_bipush (pc := 108) C (v := -4) dX8_read_108 (by decide) ?_
              first
                | exact hR dX8_read_110 rfl ⟨by rw [sp_read, if_pos cc]; simp only [kx_n, kx_n_nI hz2, kx_n_nI hm2, kx_n_nI hw2]; rw [if_pos c46, if_neg c72, if_pos e], fun d k h1 h2 => by rw [r4 d k h2, k2 d k h1]⟩
                | exact hR dX8_read_110 rfl ⟨by rw [sp_read, if_pos cc]; simp only [kx_n, kx_n_nI hz2, kx_n_nI hm2, kx_n_nI hw2]; rw [if_pos c46, if_neg c72, if_neg e], fun d k h1 h2 => by rw [r4 d k h2, k2 d k h1]⟩
            · have e : 0 < sp_W a (sp_val it z (kx_n i)) m 0 ∧ w < sp_rm a (sp_val it z (kx_n i)) m := by omega
              refine kx_ald0 (pc := 95) C dX8_read_95 ?_
              refine kx_getr (pc := 96) C fl_X8_56 fd_0_9 dX8_read_96 ?_
              refine kx_getr (pc := 99) C fl_X8_235 fd_112_1 dX8_read_99 ?_
              refine kx_ild5 (pc := 102) C dX8_read_102 ?_
              refine kx_iald (pc := 104) C ia_114 (by omega) (show _ = nI (sp_nx a (sp_val it z (kx_n i)) m (sp_sq a (sp_val it z (kx_n i)) m w)) from (r3 (by omega)).2.2 w (by omega)) dX8_read_104 ?_
              refine kx_goto (pc := 105) C 110 dX8_read_105 (by decide) ?_
              first
                | exact hR dX8_read_110 rfl ⟨by rw [sp_read, if_pos cc]; simp only [kx_n, kx_n_nI hz2, kx_n_nI hm2, kx_n_nI hw2]; rw [if_pos c46, if_neg c72, if_pos e], fun d k h1 h2 => by rw [r4 d k h2, k2 d k h1]⟩
                | exact hR dX8_read_110 rfl ⟨by rw [sp_read, if_pos cc]; simp only [kx_n, kx_n_nI hz2, kx_n_nI hm2, kx_n_nI hw2]; rw [if_pos c46, if_neg c72, if_neg e], fun d k h1 h2 => by rw [r4 d k h2, k2 d k h1]⟩
          · refine kx_ald0 (pc := 75) C dX8_read_75 ?_
            refine kx_getr (pc := 76) C fl_X8_56 fd_0_9 dX8_read_76 ?_
            refine kx_geti (pc := 79) C fl_X8_229 fd_112_2 r1 dX8_read_79 ?_
            exact hR dX8_read_82 rfl ⟨by rw [sp_read, if_pos cc]; simp only [kx_n, kx_n_nI hz2, kx_n_nI hm2]; rw [if_pos c46, if_pos c72], fun d k h1 h2 => by rw [r4 d k h2, k2 d k h1]⟩
        · refine kx_ild6 (pc := 49) C dX8_read_49 ?_
          exact hR dX8_read_51 rfl ⟨by rw [sp_read, if_pos cc, kx_n, kx_n, kx_n_nI hz2, kx_n_nI hm2, if_neg c46], fun d k h1 h2 => k2 d k h1⟩
      · refine kx_iconst (pc := 30) C (v := -1) dX8_read_30 (by decide) ?_
        have nc : ¬ (((0 ≤ v.toInt ∧ v.toInt ≤ 3) ∧ 0 ≤ l.toInt ∧ l.toInt ≤ 2) ∧ (1 ≤ n.toInt ∧ n.toInt ≤ 16) ∧ -1 ≤ k.toInt ∧ k.toInt ≤ 7) := fun z => by
          first
            | (have c27 := kx_if0 c27
               rw [show (nI 7).toInt = 7 from rfl, show (-1 : Int32).toInt = -1 from rfl] at c27
               exact c27 z.2.2)
            | exact kx_if0 c16 z.2.1
            | exact kx_if0 c5 z.1
        exact hR dX8_read_31 rfl ⟨by rw [sp_read, if_neg nc], fun d k _ _ => rfl⟩
