/-- first of g e, .. , g (e + j - 1) -/
def ct_fs (g : Nat → Option (List Nat)) : Nat → Nat → Option (List Nat)
  | _, 0 => none
  | e, j + 1 => (g e).or (ct_fs g (e + 1) j)
theorem ct_fs_fe {g : Nat → Option (List Nat)} : ∀ {j e : Nat}, ct_fe g (e + j) = (ct_fe g e).or (ct_fs g e j)
  | 0, e => by simp [ct_fs]
  | j + 1, e => by
    rw [show e + (j + 1) = (e + 1) + j by omega, ct_fs_fe (j := j) (e := e + 1)]
    show ((ct_fe g e).or (g e)).or _ = _
    rw [Option.or_assoc]
    rfl
theorem ct_fe_fs {g : Nat → Option (List Nat)} {E : Nat} : ct_fe g E = ct_fs g 0 E := by
  have := ct_fs_fe (g := g) (j := E) (e := 0)
  rw [Nat.zero_add] at this
  rw [this]
  rfl
def ct_G (E : Nat) (y : Nat → Nat → Nat → Nat) (r m t : Nat) (need : Nat → Int) (e : Nat) : Option (List Nat) := (ct_fn E y r (m - 1) (t + 1) (fun k => need k - (y t e k : Int))).map (fun l => (10 * t + e) :: l)
theorem ct_fn_s {E : Nat} {y : Nat → Nat → Nat → Nat} {r m t : Nat} {need : Nat → Int} (hm : 0 < m) : ct_fn E y (r + 1) m t need = (ct_fs (ct_G E y r m t need) 0 E).or (ct_fn E y r m (t + 1) need) := by
  rw [← ct_fe_fs]
  show (if m = 0 then _ else _) = _
  rw [if_neg (by omega)]
  rfl
theorem ct_fn_E0 {y : Nat → Nat → Nat → Nat} : ∀ {r m t : Nat} {need : Nat → Int}, 0 < m → ct_fn 0 y r m t need = none
  | 0, m, t, need, h => if_neg (by omega)
  | r + 1, m, t, need, h => by
    rw [ct_fn_s h, ct_fn_E0 h]
    rfl
theorem ct_fn_r0 {E : Nat} {y : Nat → Nat → Nat → Nat} {m t : Nat} {need : Nat → Int} (h : 0 < m) : ct_fn E y 0 m t need = none := if_neg (by omega)
set_option maxHeartbeats 4000000 in
set_option maxRecDepth 100000 in
theorem m_X9_after0 {h : kx_H} {E : Nat} (hE : E = 0) (e1 : h 128 1 = nI E) : kx_MI 1 yX9_after cX9_after 4 .int [.ref 127, .int (-1)] h (fun r h1 => h1 = h ∧ r = -4) := by
  refine kx_mkI (own := RX9) (L0 := [some (.ref 127), some (.int (-1)), none, none]) rfl (by decide +kernel) (Nat.le_of_ble_eq_true rfl) rfl (fun F C hR => ?_)
  refine kx_ild1 (pc := 0) C dX9_after_0 ?_
  refine kx_if_geI (pc := 1) C 8 dX9_after_1 (by decide) (fun c1 => ?_) (fun c1 => ?_)
  · exact absurd c1 (by decide)
  · refine kx_iconst (pc := 4) C (v := nI 0) dX9_after_4 (by decide) ?_
    refine kx_goto (pc := 5) C 14 dX9_after_5 (by decide) ?_
    refine kx_ist2 (pc := 14) C dX9_after_14 (by decide) rfl ?_
    refine kx_ild1 (pc := 15) C dX9_after_15 ?_
    refine kx_if_geI (pc := 16) C 23 dX9_after_16 (by decide) (fun c16 => ?_) (fun c16 => ?_)
    · exact absurd c16 (by decide)
    · refine kx_iconst (pc := 19) C (v := nI 0) dX9_after_19 (by decide) ?_
      refine kx_goto (pc := 20) C 27 dX9_after_20 (by decide) ?_
      refine kx_ist3 (pc := 27) C dX9_after_27 (by decide) rfl ?_
      refine kx_ild2 (pc := 28) C dX9_after_28 ?_
      refine kx_ald0 (pc := 29) C dX9_after_29 ?_
      refine kx_getr (pc := 30) C fl_X9_7 fd_127_0 dX9_after_30 ?_
      refine kx_iconst (pc := 33) C (v := nI 1) dX9_after_33 (by decide) ?_
      refine kx_iald (pc := 34) C ia_128 (by omega) e1 dX9_after_34 ?_
      refine kx_icmp_geN (pc := 35) C 62 (by omega) (by omega) dX9_after_35 (by decide) (fun c35 => ?_) (fun c35 => ?_)
      · refine kx_ild3 (pc := 62) C dX9_after_62 ?_
        refine kx_iconst (pc := 63) C (v := nI 1) dX9_after_63 (by decide) ?_
        first | refine kx_iaddN (pc := 64) C dX9_after_64 ?_ | refine kx_iadd (pc := 64) C dX9_after_64 ?_
        refine kx_ald0 (pc := 65) C dX9_after_65 ?_
        refine kx_getr (pc := 66) C fl_X9_7 fd_127_0 dX9_after_66 ?_
        refine kx_iconst (pc := 69) C (v := nI 0) dX9_after_69 (by decide) ?_
        refine kx_iald (pc := 70) C ia_128 (by omega) rfl dX9_after_70 ?_
        refine kx_icmp_geI (pc := 71) C 92 dX9_after_71 (by decide) (fun c71 => ?_) (fun c71 => ?_)
        · refine kx_bipush (pc := 92) C (v := -4) dX9_after_92 (by decide) ?_
          exact hR dX9_after_94 rfl (⟨rfl, rfl⟩)
        · refine kx_ald0 (pc := 74) C dX9_after_74 ?_
          refine kx_getr (pc := 75) C fl_X9_7 fd_127_0 dX9_after_75 ?_
          refine kx_iconst (pc := 78) C (v := nI 1) dX9_after_78 (by decide) ?_
          refine kx_iald (pc := 79) C ia_128 (by omega) e1 dX9_after_79 ?_
          first | refine kx_if_leN (pc := 80) C 92 (by omega) dX9_after_80 (by decide) (fun c80 => ?_) (fun c80 => ?_) | refine kx_if_leI (pc := 80) C 92 dX9_after_80 (by decide) (fun c80 => ?_) (fun c80 => ?_)
          · refine kx_bipush (pc := 92) C (v := -4) dX9_after_92 (by decide) ?_
            exact hR dX9_after_94 rfl (⟨rfl, rfl⟩)
          · rw [hE] at c80
            exact absurd c80 (by decide)
      · omega
set_option maxHeartbeats 4000000 in
set_option maxRecDepth 100000 in
theorem m_X9_finds {h : kx_H} {T E m f0 : Nat} {y : Nat → Nat → Nat → Nat} {w : Nat → Nat} (hT : T ≤ 8) (hE : E ≤ 4) (hm : m ≤ 8) (hf : f0 + 4 ≤ 96) (hy9 : ∀ t e k, y t e k ≤ 9) (e0 : h 128 0 = nI T) (e1 : h 128 1 = nI E) (hsp : ∀ x z k, x < T → z < E → k < 4 → h 137 (16 * x + 4 * z + k) = nI (y x z k)) (hw : ∀ k, k < 4 → h 133 (f0 + k) = nI (w k)) (hw99 : ∀ k, k < 4 → w k ≤ 99) : kx_MI 2 yX9_finds cX9_finds 4 .boolean [.ref 127, .int (nI m), .int (nI f0)] h (fun r h1 => (ct_fn E y T m 0 (fun k => (w k : Int)) = none → r = 0) ∧ (∀ l, ct_fn E y T m 0 (fun k => (w k : Int)) = some l → r = 1 ∧ ∀ i, i < m → h1 134 i = nI (l.getD i 0)) ∧ ∀ d j, d ≠ 134 → d ≠ 138 → h1 d j = h d j) := by
  refine kx_mkI (own := RX9) (L0 := [some (.ref 127), some (.int (nI m)), some (.int (nI f0)), none]) rfl (by decide +kernel) (Nat.le_of_ble_eq_true rfl) rfl (fun F C hR => ?_)
  have main : 0 < E → ∀ r t : Nat, t + r = T →  ∀ (c : Int32) (k : Nat) (p : Nat → Nat) (need : Nat → Int) (g : kx_H), k < m → ct_C E c t 0 → g 134 k = c → (∀ i, i < k → g 134 i = nI (p i)) → (∀ i, i < k → p i / 10 < T ∧ p i % 10 < E) → (∀ k', k' < 4 → need k' = (w k' : Int) - (sp_sg (fun i => y (p i / 10) (p i % 10) k') k : Int)) → (∀ d j, d ≠ 134 → d ≠ 138 → g d j = h d j) → (∀ l g', ct_fn E y r (m - k) t need = some l → (∀ i, i < k → g' 134 i = nI (p i)) → (∀ i, i < m - k → g' 134 (k + i) = nI (l.getD i 0)) → (∀ d j, d ≠ 134 → d ≠ 138 → g' d j = h d j) → F 73 [some (.ref 127), some (.int (nI m)), some (.int (nI f0)), some (.int (nI (m - 1)))] [] g') → (ct_fn E y r (m - k) t need = none → ∀ g', (∀ i, i < k → g' 134 i = nI (p i)) → (∀ d j, d ≠ 134 → d ≠ 138 → g' d j = h d j) → F 20 [some (.ref 127), some (.int (nI m)), some (.int (nI f0)), some (.int (nI k + Int32.ofInt (-1)))] [] g') → F 20 [some (.ref 127), some (.int (nI m)), some (.int (nI f0)), some (.int (nI k))] [] g := by
    intro hE0 r
    induction r with
    | zero =>
      intro t ht c k p need g hkm hc hck hrow hpr hneed hg hsome hnone
      have q0 : g 128 0 = nI T := by rw [hg _ _ (by omega) (by omega)]; exact e0
      have q1 : g 128 1 = nI E := by rw [hg _ _ (by omega) (by omega)]; exact e1
      refine kx_ild3 (pc := 20) C dX9_finds_20 ?_
      refine kx_if_ltI (pc := 21) C 104 dX9_finds_21 (by decide) (fun c21 => ?_) (fun c21 => ?_)
      · rw [kx_T (by omega)] at c21
        omega
      · refine kx_ald0 (pc := 24) C dX9_finds_24 ?_
        refine kx_getr (pc := 25) C fl_X9_28 fd_127_8 dX9_finds_25 ?_
        refine kx_ild3 (pc := 28) C dX9_finds_28 ?_
        refine kx_ald0 (pc := 29) C dX9_finds_29 ?_
        refine kx_ald0 (pc := 30) C dX9_finds_30 ?_
        refine kx_getr (pc := 31) C fl_X9_28 fd_127_8 dX9_finds_31 ?_
        refine kx_ild3 (pc := 34) C dX9_finds_34 ?_
        refine kx_iald (pc := 35) C ia_134 (by omega) hck dX9_finds_35 ?_
        refine kx_callVI1 (pc := 36) C cs_X9_140 ob_127 (m_X9_after hT hE hE0 q0 q1 hc) (by decide) dX9_finds_36 (Nat.le_of_ble_eq_true rfl) (fun r36 h36 q36 => ?_)
        obtain ⟨z36, rfl⟩ := q36
        have z36 := z36.symm
        subst z36
        rw [if_neg (show ¬ t < T by omega)]
        refine kx_iast (pc := 39) C ia_134 (by omega) dX9_finds_39 ?_
        refine kx_ald0 (pc := 40) C dX9_finds_40 ?_
        refine kx_getr (pc := 41) C fl_X9_28 fd_127_8 dX9_finds_41 ?_
        refine kx_ild3 (pc := 44) C dX9_finds_44 ?_
        refine kx_iald (pc := 45) C ia_134 (by omega) (show _ = (-4 : Int32) by rw [kx_up, if_pos ⟨rfl, rfl⟩]) dX9_finds_45 ?_
        refine kx_bipush (pc := 46) C (v := -4) dX9_finds_46 (by decide) ?_
        refine kx_icmp_ne (pc := 48) C 57 dX9_finds_48 (by decide) (fun c48 => ?_) (fun c48 => ?_)
        · exact absurd rfl c48
        · refine kx_inc3 (pc := 51) C dX9_finds_51 (by decide) rfl rfl ?_
          refine kx_goto (pc := 54) C 20 dX9_finds_54 (by decide) ?_
          exact hnone (ct_fn_r0 (by omega)) _ (fun i hi => by rw [kx_up, if_neg (by omega)]; exact hrow i hi) (fun d j h1 h2 => by rw [kx_up, if_neg (by omega)]; exact hg d j h1 h2)
    | succ r ih =>
      have inner : ∀ t : Nat, t + (r + 1) = T → ∀ j e : Nat, E - e = j + 1 →  ∀ (c : Int32) (k : Nat) (p : Nat → Nat) (need : Nat → Int) (g : kx_H), k < m → ct_C E c t e → g 134 k = c → (∀ i, i < k → g 134 i = nI (p i)) → (∀ i, i < k → p i / 10 < T ∧ p i % 10 < E) → (∀ k', k' < 4 → need k' = (w k' : Int) - (sp_sg (fun i => y (p i / 10) (p i % 10) k') k : Int)) → (∀ d j, d ≠ 134 → d ≠ 138 → g d j = h d j) → (∀ l g', (ct_fs (ct_G E y r (m - k) t need) e (E - e)).or (ct_fn E y r (m - k) (t + 1) need) = some l → (∀ i, i < k → g' 134 i = nI (p i)) → (∀ i, i < m - k → g' 134 (k + i) = nI (l.getD i 0)) → (∀ d j, d ≠ 134 → d ≠ 138 → g' d j = h d j) → F 73 [some (.ref 127), some (.int (nI m)), some (.int (nI f0)), some (.int (nI (m - 1)))] [] g') → ((ct_fs (ct_G E y r (m - k) t need) e (E - e)).or (ct_fn E y r (m - k) (t + 1) need) = none → ∀ g', (∀ i, i < k → g' 134 i = nI (p i)) → (∀ d j, d ≠ 134 → d ≠ 138 → g' d j = h d j) → F 20 [some (.ref 127), some (.int (nI m)), some (.int (nI f0)), some (.int (nI k + Int32.ofInt (-1)))] [] g') → F 20 [some (.ref 127), some (.int (nI m)), some (.int (nI f0)), some (.int (nI k))] [] g := by
        intro t ht j
        have ih := ih (t + 1) (by omega)
        induction j with
        | zero =>
          intro e hj c k p need g hkm hc hck hrow hpr hneed hg hsome hnone
          have het : e < E := by omega
          have q0 : g 128 0 = nI T := by rw [hg _ _ (by omega) (by omega)]; exact e0
          have q1 : g 128 1 = nI E := by rw [hg _ _ (by omega) (by omega)]; exact e1
          have hd10 : (10 * t + e) / 10 = t := by omega
          have hm10 : (10 * t + e) % 10 = e := by omega
          have efs : ct_fs (ct_G E y r (m - k) t need) e (E - e) = (ct_G E y r (m - k) t need e).or (ct_fs (ct_G E y r (m - k) t need) (e + 1) (E - (e + 1))) := by
            rw [show E - e = (E - (e + 1)) + 1 by omega]; rfl
          rw [efs, Option.or_assoc] at hsome hnone
          have p2 : ∀ q : Nat → Nat, q = (fun i => if i = k then 10 * t + e else p i) → (∀ i, i < k + 1 → q i / 10 < T ∧ q i % 10 < E) ∧ (∀ i, i < k → q i = p i) ∧ q k = 10 * t + e := fun q hq => by
            subst hq
            refine ⟨fun i hi => ?_, fun i hi => if_neg (by omega), if_pos rfl⟩
            by_cases z : i = k
            · simp only [z, if_pos]; omega
            · simp only [if_neg z]; exact hpr i (by omega)
          obtain ⟨q, hq⟩ : ∃ q : Nat → Nat, q = (fun i => if i = k then 10 * t + e else p i) := ⟨_, rfl⟩
          obtain ⟨hq1, hq2, hq3⟩ := p2 q hq
          have hsg : ∀ k', sp_sg (fun i => y (q i / 10) (q i % 10) k') (k + 1) = sp_sg (fun i => y (p i / 10) (p i % 10) k') k + y t e k' := fun k' => by
            show sp_sg _ k + y (q k / 10) (q k % 10) k' = _
            rw [hq3, hd10, hm10, sp_sg_cong (fun i hi => by rw [hq2 i hi])]
          have next : ct_G E y r (m - k) t need e = none → ∀ g' : kx_H, g' 134 k = nI (10 * t + e) → (∀ i, i < k → g' 134 i = nI (p i)) → (∀ d j, d ≠ 134 → d ≠ 138 → g' d j = h d j) → F 20 [some (.ref 127), some (.int (nI m)), some (.int (nI f0)), some (.int (nI k))] [] g' := by
            intro hGn g' hk' hr' hg'
            rw [hGn, Option.none_or] at hsome hnone
            rw [show E - (e + 1) = 0 by omega, show ct_fs (ct_G E y r (m - k) t need) (e + 1) 0 = none from rfl, Option.none_or] at hsome hnone
            exact ih (nI (10 * t + e)) k p need g' hkm (Or.inr ⟨t, e, rfl, by omega, by omega, Or.inr ⟨by omega, rfl, rfl⟩⟩) hk' hr' hpr hneed hg' hsome hnone
          refine kx_ild3 (pc := 20) C dX9_finds_20 ?_
          refine kx_if_ltI (pc := 21) C 104 dX9_finds_21 (by decide) (fun c21 => ?_) (fun c21 => ?_)
          · rw [kx_T (by omega)] at c21
            omega
          · refine kx_ald0 (pc := 24) C dX9_finds_24 ?_
            refine kx_getr (pc := 25) C fl_X9_28 fd_127_8 dX9_finds_25 ?_
            refine kx_ild3 (pc := 28) C dX9_finds_28 ?_
            refine kx_ald0 (pc := 29) C dX9_finds_29 ?_
            refine kx_ald0 (pc := 30) C dX9_finds_30 ?_
            refine kx_getr (pc := 31) C fl_X9_28 fd_127_8 dX9_finds_31 ?_
            refine kx_ild3 (pc := 34) C dX9_finds_34 ?_
            refine kx_iald (pc := 35) C ia_134 (by omega) hck dX9_finds_35 ?_
            refine kx_callVI1 (pc := 36) C cs_X9_140 ob_127 (m_X9_after hT hE hE0 q0 q1 hc) (by decide) dX9_finds_36 (Nat.le_of_ble_eq_true rfl) (fun r36 h36 q36 => ?_)
            obtain ⟨z36, rfl⟩ := q36
            have z36 := z36.symm
            subst z36
            rw [if_pos (show t < T by omega)]
            refine kx_iast (pc := 39) C ia_134 (by omega) dX9_finds_39 ?_
            refine kx_ald0 (pc := 40) C dX9_finds_40 ?_
            refine kx_getr (pc := 41) C fl_X9_28 fd_127_8 dX9_finds_41 ?_
            refine kx_ild3 (pc := 44) C dX9_finds_44 ?_
            refine kx_iald (pc := 45) C ia_134 (by omega) (show _ = nI (10 * t + e) by rw [kx_up, if_pos ⟨rfl, rfl⟩]) dX9_finds_45 ?_
            refine kx_bipush (pc := 46) C (v := -4) dX9_finds_46 (by decide) ?_
            refine kx_icmp_ne (pc := 48) C 57 dX9_finds_48 (by decide) (fun c48 => ?_) (fun c48 => ?_)
            · refine kx_ild3 (pc := 57) C dX9_finds_57 ?_
              refine kx_ild1 (pc := 58) C dX9_finds_58 ?_
              refine kx_iconst (pc := 59) C (v := nI 1) dX9_finds_59 (by decide) ?_
              refine kx_isubN (pc := 60) C (by omega) dX9_finds_60 ?_
              refine kx_icmp_neN (pc := 61) C 75 (by omega) (by omega) dX9_finds_61 (by decide) (fun c61 => ?_) (fun c61 => ?_)
              · have hk2 : k + 1 < m := by omega
                first | refine kx_inc3 (pc := 75) C (v := nI (_ + 1)) dX9_finds_75 (by decide) rfl (nI_1 _) ?_ | refine kx_inc3 (pc := 75) C dX9_finds_75 (by decide) rfl rfl ?_
                refine kx_ald0 (pc := 78) C dX9_finds_78 ?_
                refine kx_getr (pc := 79) C fl_X9_28 fd_127_8 dX9_finds_79 ?_
                refine kx_ild3 (pc := 82) C dX9_finds_82 ?_
                refine kx_bipush (pc := 83) C (v := nI 10) dX9_finds_83 (by decide) ?_
                refine kx_ald0 (pc := 85) C dX9_finds_85 ?_
                refine kx_getr (pc := 86) C fl_X9_28 fd_127_8 dX9_finds_86 ?_
                refine kx_ild3 (pc := 89) C dX9_finds_89 ?_
                refine kx_iconst (pc := 90) C (v := nI 1) dX9_finds_90 (by decide) ?_
                refine kx_isubN (pc := 91) C (by omega) dX9_finds_91 ?_
                refine kx_iald (pc := 92) C ia_134 (by omega) (show _ = nI (10 * t + e) by rw [Nat.add_sub_cancel, kx_up, if_pos ⟨rfl, rfl⟩]) dX9_finds_92 ?_
                refine kx_bipush (pc := 93) C (v := nI 10) dX9_finds_93 (by decide) ?_
                refine kx_idivN (pc := 95) C (by omega) (by omega) (by omega) dX9_finds_95 ?_
                rw [hd10]
                first | refine kx_imulN (pc := 96) C dX9_finds_96 ?_ | refine kx_imul (pc := 96) C dX9_finds_96 ?_
                refine kx_bipush (pc := 97) C (v := nI 9) dX9_finds_97 (by decide) ?_
                first | refine kx_iaddN (pc := 99) C dX9_finds_99 ?_ | refine kx_iadd (pc := 99) C dX9_finds_99 ?_
                refine kx_iast (pc := 100) C ia_134 (by omega) dX9_finds_100 ?_
                refine kx_goto (pc := 101) C 20 dX9_finds_101 (by decide) ?_
                refine ih (nI (10 * t + 9)) (k + 1) q (fun k' => need k' - (y t e k' : Int)) _ (by omega) (Or.inr ⟨t, 9, rfl, by omega, by omega, Or.inr ⟨by omega, rfl, rfl⟩⟩) (by rw [kx_up, if_pos ⟨rfl, rfl⟩]) (fun i hi => ?_) hq1 (fun k' hk' => ?_) (fun d j h1 h2 => by rw [kx_up, if_neg (by omega), kx_up, if_neg (by omega)]; exact hg d j h1 h2) (fun l g' hl g1 g2 g3 => ?_) (fun hn g' g1 g3 => ?_)
                · rw [kx_up, if_neg (by omega)]
                  by_cases z : i = k
                  · rw [z, hq3, kx_up, if_pos ⟨rfl, rfl⟩]
                  · rw [kx_up, if_neg (by omega), hq2 i (by omega)]; exact hrow i (by omega)
                · rw [hsg, hneed k' hk', Int.natCast_add]; omega
                · have eG : ct_G E y r (m - k) t need e = some ((10 * t + e) :: l) := by
                    unfold ct_G
                    rw [show m - k - 1 = m - (k + 1) by omega, hl]; rfl
                  rw [eG, Option.some_or] at hsome
                  refine hsome _ g' rfl (fun i hi => by rw [g1 i (by omega), hq2 i hi]) (fun i hi => ?_) g3
                  cases i with
                  | zero => rw [Nat.add_zero, g1 k (by omega), hq3]; rfl
                  | succ i => rw [show k + (i + 1) = k + 1 + i by omega, g2 i (by omega)]; rfl
                · have eG : ct_G E y r (m - k) t need e = none := by
                    unfold ct_G
                    rw [show m - k - 1 = m - (k + 1) by omega, hn]; rfl
                  have h4 := next eG g' (by rw [g1 k (by omega), hq3]) (fun i hi => by rw [g1 i (by omega), hq2 i hi]) g3
                  rw [sp_m1]
                  exact h4
              · have hk1 : k + 1 = m := by omega
                refine kx_ald0 (pc := 64) C dX9_finds_64 ?_
                refine kx_ild1 (pc := 65) C dX9_finds_65 ?_
                refine kx_ild2 (pc := 66) C dX9_finds_66 ?_
                refine kx_callVI2 (pc := 67) C cs_X9_137 ob_127 (m_X9_isCoat (T := T) (E := E) (y := y) (p := q) (w := w) (nd := fun k' => need k' - (y t e k' : Int)) hT hE hm hf hy9 (fun x z k hx hz hk => by rw [kx_up, if_neg (by omega), hg _ _ (by omega) (by omega)]; exact hsp x z k hx hz hk) (fun i hi => by
                      by_cases z : i = k
                      · rw [z, hq3, kx_up, if_pos ⟨rfl, rfl⟩]
                      · rw [kx_up, if_neg (by omega), hq2 i (by omega)]; exact hrow i (by omega)) (fun i hi => hq1 i (by omega)) (fun k hk => by rw [kx_up, if_neg (by omega), hg _ _ (by omega) (by omega)]; exact hw k hk) hw99 (fun k' hk' => by rw [← hk1, hsg, hneed k' hk', Int.natCast_add]; omega)) (by decide) dX9_finds_67 (Nat.le_of_ble_eq_true rfl) (fun r67 h67 q67 => ?_)
                obtain ⟨rfl, k2⟩ := q67
                have eG : ct_G E y r (m - k) t need e = if ct_cov (fun k' => need k' - (y t e k' : Int)) = true then some [10 * t + e] else none := by
                  unfold ct_G
                  rw [show m - k - 1 = 0 by omega, ct_fn_m0]
                  split <;> rfl
                refine kx_if_eq (pc := 70) C 20 dX9_finds_70 (by decide) (fun c70 => ?_) (fun c70 => ?_)
                · rw [if_neg (kx_if0 c70)] at eG
                  exact next eG h67 (by rw [k2 _ _ (by omega), kx_up, if_pos ⟨rfl, rfl⟩]) (fun i hi => by rw [k2 _ _ (by omega), kx_up, if_neg (by omega)]; exact hrow i hi) (fun d j h1 h2 => by rw [k2 _ _ h2, kx_up, if_neg (by omega)]; exact hg d j h1 h2)
                · have cv := kx_if1 c70
                  rw [if_pos cv] at eG
                  rw [eG, Option.some_or] at hsome
                  rw [show nI k = nI (m - 1) by rw [← hk1, Nat.add_sub_cancel]]
                  refine hsome _ h67 rfl (fun i hi => by rw [k2 _ _ (by omega), kx_up, if_neg (by omega)]; exact hrow i hi) (fun i hi => ?_) (fun d j h1 h2 => by rw [k2 _ _ h2, kx_up, if_neg (by omega)]; exact hg d j h1 h2)
                  rw [show i = 0 by omega, Nat.add_zero, k2 _ _ (by omega), kx_up, if_pos ⟨rfl, rfl⟩]; rfl
            · exact absurd c48 (kx_m4 (by omega))
        | succ j ih2 =>
          intro e hj c k p need g hkm hc hck hrow hpr hneed hg hsome hnone
          have het : e < E := by omega
          have q0 : g 128 0 = nI T := by rw [hg _ _ (by omega) (by omega)]; exact e0
          have q1 : g 128 1 = nI E := by rw [hg _ _ (by omega) (by omega)]; exact e1
          have hd10 : (10 * t + e) / 10 = t := by omega
          have hm10 : (10 * t + e) % 10 = e := by omega
          have efs : ct_fs (ct_G E y r (m - k) t need) e (E - e) = (ct_G E y r (m - k) t need e).or (ct_fs (ct_G E y r (m - k) t need) (e + 1) (E - (e + 1))) := by
            rw [show E - e = (E - (e + 1)) + 1 by omega]; rfl
          rw [efs, Option.or_assoc] at hsome hnone
          have p2 : ∀ q : Nat → Nat, q = (fun i => if i = k then 10 * t + e else p i) → (∀ i, i < k + 1 → q i / 10 < T ∧ q i % 10 < E) ∧ (∀ i, i < k → q i = p i) ∧ q k = 10 * t + e := fun q hq => by
            subst hq
            refine ⟨fun i hi => ?_, fun i hi => if_neg (by omega), if_pos rfl⟩
            by_cases z : i = k
            · simp only [z, if_pos]; omega
            · simp only [if_neg z]; exact hpr i (by omega)
          obtain ⟨q, hq⟩ : ∃ q : Nat → Nat, q = (fun i => if i = k then 10 * t + e else p i) := ⟨_, rfl⟩
          obtain ⟨hq1, hq2, hq3⟩ := p2 q hq
          have hsg : ∀ k', sp_sg (fun i => y (q i / 10) (q i % 10) k') (k + 1) = sp_sg (fun i => y (p i / 10) (p i % 10) k') k + y t e k' := fun k' => by
            show sp_sg _ k + y (q k / 10) (q k % 10) k' = _
            rw [hq3, hd10, hm10, sp_sg_cong (fun i hi => by rw [hq2 i hi])]
          have next : ct_G E y r (m - k) t need e = none → ∀ g' : kx_H, g' 134 k = nI (10 * t + e) → (∀ i, i < k → g' 134 i = nI (p i)) → (∀ d j, d ≠ 134 → d ≠ 138 → g' d j = h d j) → F 20 [some (.ref 127), some (.int (nI m)), some (.int (nI f0)), some (.int (nI k))] [] g' := by
            intro hGn g' hk' hr' hg'
            rw [hGn, Option.none_or] at hsome hnone
            exact ih2 (e + 1) (by omega) (nI (10 * t + e)) k p need g' hkm (Or.inr ⟨t, e, rfl, by omega, by omega, Or.inl ⟨by omega, rfl, rfl⟩⟩) hk' hr' hpr hneed hg' hsome hnone
          refine kx_ild3 (pc := 20) C dX9_finds_20 ?_
          refine kx_if_ltI (pc := 21) C 104 dX9_finds_21 (by decide) (fun c21 => ?_) (fun c21 => ?_)
          · rw [kx_T (by omega)] at c21
            omega
          · refine kx_ald0 (pc := 24) C dX9_finds_24 ?_
            refine kx_getr (pc := 25) C fl_X9_28 fd_127_8 dX9_finds_25 ?_
            refine kx_ild3 (pc := 28) C dX9_finds_28 ?_
            refine kx_ald0 (pc := 29) C dX9_finds_29 ?_
            refine kx_ald0 (pc := 30) C dX9_finds_30 ?_
            refine kx_getr (pc := 31) C fl_X9_28 fd_127_8 dX9_finds_31 ?_
            refine kx_ild3 (pc := 34) C dX9_finds_34 ?_
            refine kx_iald (pc := 35) C ia_134 (by omega) hck dX9_finds_35 ?_
            refine kx_callVI1 (pc := 36) C cs_X9_140 ob_127 (m_X9_after hT hE hE0 q0 q1 hc) (by decide) dX9_finds_36 (Nat.le_of_ble_eq_true rfl) (fun r36 h36 q36 => ?_)
            obtain ⟨z36, rfl⟩ := q36
            have z36 := z36.symm
            subst z36
            rw [if_pos (show t < T by omega)]
            refine kx_iast (pc := 39) C ia_134 (by omega) dX9_finds_39 ?_
            refine kx_ald0 (pc := 40) C dX9_finds_40 ?_
            refine kx_getr (pc := 41) C fl_X9_28 fd_127_8 dX9_finds_41 ?_
            refine kx_ild3 (pc := 44) C dX9_finds_44 ?_
            refine kx_iald (pc := 45) C ia_134 (by omega) (show _ = nI (10 * t + e) by rw [kx_up, if_pos ⟨rfl, rfl⟩]) dX9_finds_45 ?_
            refine kx_bipush (pc := 46) C (v := -4) dX9_finds_46 (by decide) ?_
            refine kx_icmp_ne (pc := 48) C 57 dX9_finds_48 (by decide) (fun c48 => ?_) (fun c48 => ?_)
            · refine kx_ild3 (pc := 57) C dX9_finds_57 ?_
              refine kx_ild1 (pc := 58) C dX9_finds_58 ?_
              refine kx_iconst (pc := 59) C (v := nI 1) dX9_finds_59 (by decide) ?_
              refine kx_isubN (pc := 60) C (by omega) dX9_finds_60 ?_
              refine kx_icmp_neN (pc := 61) C 75 (by omega) (by omega) dX9_finds_61 (by decide) (fun c61 => ?_) (fun c61 => ?_)
              · have hk2 : k + 1 < m := by omega
                first | refine kx_inc3 (pc := 75) C (v := nI (_ + 1)) dX9_finds_75 (by decide) rfl (nI_1 _) ?_ | refine kx_inc3 (pc := 75) C dX9_finds_75 (by decide) rfl rfl ?_
                refine kx_ald0 (pc := 78) C dX9_finds_78 ?_
                refine kx_getr (pc := 79) C fl_X9_28 fd_127_8 dX9_finds_79 ?_
                refine kx_ild3 (pc := 82) C dX9_finds_82 ?_
                refine kx_bipush (pc := 83) C (v := nI 10) dX9_finds_83 (by decide) ?_
                refine kx_ald0 (pc := 85) C dX9_finds_85 ?_
                refine kx_getr (pc := 86) C fl_X9_28 fd_127_8 dX9_finds_86 ?_
                refine kx_ild3 (pc := 89) C dX9_finds_89 ?_
                refine kx_iconst (pc := 90) C (v := nI 1) dX9_finds_90 (by decide) ?_
                refine kx_isubN (pc := 91) C (by omega) dX9_finds_91 ?_
                refine kx_iald (pc := 92) C ia_134 (by omega) (show _ = nI (10 * t + e) by rw [Nat.add_sub_cancel, kx_up, if_pos ⟨rfl, rfl⟩]) dX9_finds_92 ?_
                refine kx_bipush (pc := 93) C (v := nI 10) dX9_finds_93 (by decide) ?_
                refine kx_idivN (pc := 95) C (by omega) (by omega) (by omega) dX9_finds_95 ?_
                rw [hd10]
                first | refine kx_imulN (pc := 96) C dX9_finds_96 ?_ | refine kx_imul (pc := 96) C dX9_finds_96 ?_
                refine kx_bipush (pc := 97) C (v := nI 9) dX9_finds_97 (by decide) ?_
                first | refine kx_iaddN (pc := 99) C dX9_finds_99 ?_ | refine kx_iadd (pc := 99) C dX9_finds_99 ?_
                refine kx_iast (pc := 100) C ia_134 (by omega) dX9_finds_100 ?_
                refine kx_goto (pc := 101) C 20 dX9_finds_101 (by decide) ?_
                refine ih (nI (10 * t + 9)) (k + 1) q (fun k' => need k' - (y t e k' : Int)) _ (by omega) (Or.inr ⟨t, 9, rfl, by omega, by omega, Or.inr ⟨by omega, rfl, rfl⟩⟩) (by rw [kx_up, if_pos ⟨rfl, rfl⟩]) (fun i hi => ?_) hq1 (fun k' hk' => ?_) (fun d j h1 h2 => by rw [kx_up, if_neg (by omega), kx_up, if_neg (by omega)]; exact hg d j h1 h2) (fun l g' hl g1 g2 g3 => ?_) (fun hn g' g1 g3 => ?_)
                · rw [kx_up, if_neg (by omega)]
                  by_cases z : i = k
                  · rw [z, hq3, kx_up, if_pos ⟨rfl, rfl⟩]
                  · rw [kx_up, if_neg (by omega), hq2 i (by omega)]; exact hrow i (by omega)
                · rw [hsg, hneed k' hk', Int.natCast_add]; omega
                · have eG : ct_G E y r (m - k) t need e = some ((10 * t + e) :: l) := by
                    unfold ct_G
                    rw [show m - k - 1 = m - (k + 1) by omega, hl]; rfl
                  rw [eG, Option.some_or] at hsome
                  refine hsome _ g' rfl (fun i hi => by rw [g1 i (by omega), hq2 i hi]) (fun i hi => ?_) g3
                  cases i with
                  | zero => rw [Nat.add_zero, g1 k (by omega), hq3]; rfl
                  | succ i => rw [show k + (i + 1) = k + 1 + i by omega, g2 i (by omega)]; rfl
                · have eG : ct_G E y r (m - k) t need e = none := by
                    unfold ct_G
                    rw [show m - k - 1 = m - (k + 1) by omega, hn]; rfl
                  have h4 := next eG g' (by rw [g1 k (by omega), hq3]) (fun i hi => by rw [g1 i (by omega), hq2 i hi]) g3
                  rw [sp_m1]
                  exact h4
              · have hk1 : k + 1 = m := by omega
                refine kx_ald0 (pc := 64) C dX9_finds_64 ?_
                refine kx_ild1 (pc := 65) C dX9_finds_65 ?_
                refine kx_ild2 (pc := 66) C dX9_finds_66 ?_
                refine kx_callVI2 (pc := 67) C cs_X9_137 ob_127 (m_X9_isCoat (T := T) (E := E) (y := y) (p := q) (w := w) (nd := fun k' => need k' - (y t e k' : Int)) hT hE hm hf hy9 (fun x z k hx hz hk => by rw [kx_up, if_neg (by omega), hg _ _ (by omega) (by omega)]; exact hsp x z k hx hz hk) (fun i hi => by
                      by_cases z : i = k
                      · rw [z, hq3, kx_up, if_pos ⟨rfl, rfl⟩]
                      · rw [kx_up, if_neg (by omega), hq2 i (by omega)]; exact hrow i (by omega)) (fun i hi => hq1 i (by omega)) (fun k hk => by rw [kx_up, if_neg (by omega), hg _ _ (by omega) (by omega)]; exact hw k hk) hw99 (fun k' hk' => by rw [← hk1, hsg, hneed k' hk', Int.natCast_add]; omega)) (by decide) dX9_finds_67 (Nat.le_of_ble_eq_true rfl) (fun r67 h67 q67 => ?_)
                obtain ⟨rfl, k2⟩ := q67
                have eG : ct_G E y r (m - k) t need e = if ct_cov (fun k' => need k' - (y t e k' : Int)) = true then some [10 * t + e] else none := by
                  unfold ct_G
                  rw [show m - k - 1 = 0 by omega, ct_fn_m0]
                  split <;> rfl
                refine kx_if_eq (pc := 70) C 20 dX9_finds_70 (by decide) (fun c70 => ?_) (fun c70 => ?_)
                · rw [if_neg (kx_if0 c70)] at eG
                  exact next eG h67 (by rw [k2 _ _ (by omega), kx_up, if_pos ⟨rfl, rfl⟩]) (fun i hi => by rw [k2 _ _ (by omega), kx_up, if_neg (by omega)]; exact hrow i hi) (fun d j h1 h2 => by rw [k2 _ _ h2, kx_up, if_neg (by omega)]; exact hg d j h1 h2)
                · have cv := kx_if1 c70
                  rw [if_pos cv] at eG
                  rw [eG, Option.some_or] at hsome
                  rw [show nI k = nI (m - 1) by rw [← hk1, Nat.add_sub_cancel]]
                  refine hsome _ h67 rfl (fun i hi => by rw [k2 _ _ (by omega), kx_up, if_neg (by omega)]; exact hrow i hi) (fun i hi => ?_) (fun d j h1 h2 => by rw [k2 _ _ h2, kx_up, if_neg (by omega)]; exact hg d j h1 h2)
                  rw [show i = 0 by omega, Nat.add_zero, k2 _ _ (by omega), kx_up, if_pos ⟨rfl, rfl⟩]; rfl
            · exact absurd c48 (kx_m4 (by omega))
      intro t ht c k p need g hkm hc hck hrow hpr hneed hg hsome hnone
      rw [ct_fn_s (by omega)] at hsome hnone
      have := inner t ht (E - 1) 0 (by omega) c k p need g hkm hc hck hrow hpr hneed hg
      rw [Nat.sub_zero] at this
      exact this hsome hnone
  refine kx_iconst (pc := 0) C (v := nI 0) dX9_finds_0 (by decide) ?_
  refine kx_ist3 (pc := 1) C dX9_finds_1 (by decide) rfl ?_
  refine kx_ald0 (pc := 2) C dX9_finds_2 ?_
  refine kx_getr (pc := 3) C fl_X9_28 fd_127_8 dX9_finds_3 ?_
  refine kx_iconst (pc := 6) C (v := nI 0) dX9_finds_6 (by decide) ?_
  refine kx_iconst (pc := 7) C (v := -1) dX9_finds_7 (by decide) ?_
  refine kx_iast (pc := 8) C ia_134 (by omega) dX9_finds_8 ?_
  refine kx_ild1 (pc := 9) C dX9_finds_9 ?_
  refine kx_if_neN (pc := 10) C 20 (by omega) dX9_finds_10 (by decide) (fun c10 => ?_) (fun c10 => ?_)
  · have fin0 : ct_fn E y T m 0 (fun k => (w k : Int)) = none → ∀ (k : Int32) (g' : kx_H), k.toInt < 0 → (∀ d j, d ≠ 134 → d ≠ 138 → g' d j = h d j) → F 20 [some (.ref 127), some (.int (nI m)), some (.int (nI f0)), some (.int k)] [] g' := by
      intro hn k g' hk hg
      refine kx_ild3 (pc := 20) C dX9_finds_20 ?_
      refine kx_if_ltI (pc := 21) C 104 dX9_finds_21 (by decide) (fun c21 => ?_) (fun c21 => ?_)
      · refine kx_iconst (pc := 104) C (v := nI 0) dX9_finds_104 (by decide) ?_
        exact hR dX9_finds_105 rfl ⟨fun _ => rfl, fun l z => (by rw [hn] at z; exact absurd z (by simp)), hg⟩
      · omega
    rcases Nat.eq_zero_or_pos E with z | z
    · have hn : ct_fn E y T m 0 (fun k => (w k : Int)) = none := by rw [z]; exact ct_fn_E0 (by omega)
      have q1 : kx_up h 134 0 (-1) 128 1 = nI E := by rw [kx_up, if_neg (by omega)]; exact e1
      have q0 : kx_up h 134 0 (-1) 128 0 = nI T := by rw [kx_up, if_neg (by omega)]; exact e0
      refine kx_ild3 (pc := 20) C dX9_finds_20 ?_
      refine kx_if_ltI (pc := 21) C 104 dX9_finds_21 (by decide) (fun c21 => ?_) (fun c21 => ?_)
      · exact absurd c21 (by decide)
      · refine kx_ald0 (pc := 24) C dX9_finds_24 ?_
        refine kx_getr (pc := 25) C fl_X9_28 fd_127_8 dX9_finds_25 ?_
        refine kx_ild3 (pc := 28) C dX9_finds_28 ?_
        refine kx_ald0 (pc := 29) C dX9_finds_29 ?_
        refine kx_ald0 (pc := 30) C dX9_finds_30 ?_
        refine kx_getr (pc := 31) C fl_X9_28 fd_127_8 dX9_finds_31 ?_
        refine kx_ild3 (pc := 34) C dX9_finds_34 ?_
        refine kx_iald (pc := 35) C ia_134 (by omega) (show _ = (-1 : Int32) by rw [kx_up, if_pos ⟨rfl, rfl⟩]) dX9_finds_35 ?_
        refine kx_callVI1 (pc := 36) C cs_X9_140 ob_127 (m_X9_after0 z q1) (by decide) dX9_finds_36 (Nat.le_of_ble_eq_true rfl) (fun r36 h36 q36 => ?_)
        obtain ⟨z36, rfl⟩ := q36
        have z36 := z36.symm
        subst z36
        refine kx_iast (pc := 39) C ia_134 (by omega) dX9_finds_39 ?_
        refine kx_ald0 (pc := 40) C dX9_finds_40 ?_
        refine kx_getr (pc := 41) C fl_X9_28 fd_127_8 dX9_finds_41 ?_
        refine kx_ild3 (pc := 44) C dX9_finds_44 ?_
        refine kx_iald (pc := 45) C ia_134 (by omega) (show _ = (-4 : Int32) by rw [kx_up, if_pos ⟨rfl, rfl⟩]) dX9_finds_45 ?_
        refine kx_bipush (pc := 46) C (v := -4) dX9_finds_46 (by decide) ?_
        refine kx_icmp_ne (pc := 48) C 57 dX9_finds_48 (by decide) (fun c48 => ?_) (fun c48 => ?_)
        · exact absurd rfl c48
        · refine kx_inc3 (pc := 51) C dX9_finds_51 (by decide) rfl rfl ?_
          refine kx_goto (pc := 54) C 20 dX9_finds_54 (by decide) ?_
          exact fin0 hn _ _ (by decide) (fun d j h1 h2 => by rw [kx_up, if_neg (by omega), kx_up, if_neg (by omega)])
    · refine main z T 0 (by omega) (-1) 0 (fun _ => 0) (fun k => (w k : Int)) _ c10 (Or.inl ⟨rfl, rfl, rfl⟩) (by rw [kx_up, if_pos ⟨rfl, rfl⟩]) (fun i hi => absurd hi (by omega)) (fun i hi => absurd hi (by omega)) (fun k hk => by show _ = _ - ((0 : Nat) : Int); omega) (fun d j h1 h2 => by rw [kx_up, if_neg (by omega)]) (fun l g' hl _ g2 g3 => ?_) (fun hn g' _ g3 => ?_)
      · have hl2 := hl
        rw [Nat.sub_zero] at hl2 g2
        refine kx_iconst (pc := 73) C (v := nI 1) dX9_finds_73 (by decide) ?_
        exact hR dX9_finds_74 rfl ⟨fun y => (by rw [hl2] at y; exact absurd y (by simp)), fun l' y => ⟨rfl, fun i hi => by
          rw [hl2] at y
          have := g2 i hi
          rw [Nat.zero_add] at this
          rw [this, Option.some.inj y]⟩, g3⟩
      · rw [Nat.sub_zero] at hn
        exact fin0 hn _ g' (by decide) g3
  · refine kx_ald0 (pc := 13) C dX9_finds_13 ?_
    refine kx_iconst (pc := 14) C (v := nI 0) dX9_finds_14 (by decide) ?_
    refine kx_ild2 (pc := 15) C dX9_finds_15 ?_
    refine kx_callVI2 (pc := 16) C cs_X9_137 ob_127 (m_X9_isCoat (T := T) (E := E) (y := y) (p := fun _ => 0) (w := w) (nd := fun k => (w k : Int)) hT hE (Nat.zero_le 8) hf hy9 (fun x z k hx hz hk => by rw [kx_up, if_neg (by omega)]; exact hsp x z k hx hz hk) (fun i hi => absurd hi (by omega)) (fun i hi => absurd hi (by omega)) (fun k hk => by rw [kx_up, if_neg (by omega)]; exact hw k hk) hw99 (fun k hk => by show _ = _ - ((0 : Nat) : Int); omega)) (by decide) dX9_finds_16 (Nat.le_of_ble_eq_true rfl) (fun r16 h16 q16 => ?_)
    obtain ⟨rfl, k2⟩ := q16
    subst c10
    refine hR dX9_finds_19 (kx_b01 _) ⟨fun z => ?_, fun l z => ⟨?_, fun i hi => absurd hi (by omega)⟩, fun d j h1 h2 => by rw [k2 _ _ h2, kx_up, if_neg (by omega)]⟩
    · rw [ct_fn_m0] at z
      split at z
      · exact absurd z (by simp)
      · next q => rw [if_neg q]
    · rw [ct_fn_m0] at z
      split at z
      · next q => rw [if_pos q]
      · exact absurd z (by simp)
