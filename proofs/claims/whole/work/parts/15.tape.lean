/-! counting and finding -/
def sp_ct (p : Nat → Bool) : Nat → Nat
  | 0 => 0
  | n + 1 => sp_ct p n + if p n = true then 1 else 0
def sp_fst (p : Nat → Bool) : Nat → Nat
  | 0 => 0
  | n + 1 => if sp_fst p n < n then sp_fst p n else if p n = true then n else n + 1
theorem sp_fst_le (p : Nat → Bool) : ∀ n, sp_fst p n ≤ n
  | 0 => Nat.le_refl 0
  | n + 1 => by have := sp_fst_le p n; unfold sp_fst; split; omega; split <;> omega
theorem sp_fst_none {p : Nat → Bool} : ∀ {n : Nat}, (∀ i, i < n → p i = false) → sp_fst p n = n
  | 0, _ => rfl
  | n + 1, h => by
    have h1 := sp_fst_none (p := p) (n := n) (fun i hi => h i (by omega))
    unfold sp_fst
    rw [if_neg (by omega), if_neg (by rw [h n (by omega)]; decide)]
theorem sp_fst_at {p : Nat → Bool} {k : Nat} (hp : p k = true) (h : ∀ i, i < k → p i = false) : ∀ {n : Nat}, k < n → sp_fst p n = k
  | 0, hk => absurd hk (by omega)
  | n + 1, hk => by
    unfold sp_fst
    rcases Nat.lt_or_ge k n with q | q
    · rw [sp_fst_at hp h q, if_pos q]
    · have e : k = n := by omega
      subst e
      rw [sp_fst_none h, if_neg (by omega), if_pos hp]
theorem sp_fst_no {p : Nat → Bool} : ∀ {n i : Nat}, i < sp_fst p n → p i = false
  | 0, i, h => absurd h (by simp [sp_fst])
  | n + 1, i, h => by
    have hl := sp_fst_le p n
    unfold sp_fst at h
    split at h
    · exact sp_fst_no h
    · split at h
      · exact sp_fst_no (n := n) (by omega)
      · next h1 h2 =>
        rcases Nat.lt_or_ge i n with q | q
        · exact sp_fst_no (n := n) (by omega)
        · rw [show i = n by omega]
          cases hq : p n
          · rfl
          · exact absurd hq h2
theorem sp_fst_yes {p : Nat → Bool} : ∀ {n : Nat}, sp_fst p n < n → p (sp_fst p n) = true
  | 0, h => absurd h (by omega)
  | n + 1, h => by
    have hl := sp_fst_le p n
    unfold sp_fst at h ⊢
    split
    · next h1 => exact sp_fst_yes h1
    · next h1 =>
      rw [if_neg h1] at h
      split
      · next h2 => exact h2
      · next h2 => rw [if_neg h2] at h; omega
theorem sp_ct_pos {p : Nat → Bool} : ∀ {n : Nat}, 0 < sp_ct p n ↔ sp_fst p n < n
  | 0 => by simp [sp_ct, sp_fst]
  | n + 1 => by
    have h1 := sp_ct_pos (p := p) (n := n)
    have hl := sp_fst_le p n
    unfold sp_ct sp_fst
    by_cases q : sp_fst p n < n
    · rw [if_pos q]
      have := h1.mpr q
      constructor <;> intro _ <;> omega
    · rw [if_neg q]
      have : sp_ct p n = 0 := by
        rcases Nat.eq_zero_or_pos (sp_ct p n) with z | z
        · exact z
        · exact absurd (h1.mp z) q
      cases hq : p n <;> simp [this]
theorem sp_ct_le (p : Nat → Bool) : ∀ n, sp_ct p n ≤ n
  | 0 => Nat.le_refl 0
  | n + 1 => by have := sp_ct_le p n; unfold sp_ct; split <;> omega
theorem sp_fst_cong {p q : Nat → Bool} : ∀ {n : Nat}, (∀ i, i < n → p i = q i) → sp_fst p n = sp_fst q n
  | 0, _ => rfl
  | n + 1, h => by unfold sp_fst; rw [sp_fst_cong (p := p) (q := q) (n := n) (fun i hi => h i (by omega)), h n (by omega)]
theorem sp_ct_cong {p q : Nat → Bool} : ∀ {n : Nat}, (∀ i, i < n → p i = q i) → sp_ct p n = sp_ct q n
  | 0, _ => rfl
  | n + 1, h => by unfold sp_ct; rw [sp_ct_cong (p := p) (q := q) (n := n) (fun i hi => h i (by omega)), h n (by omega)]
/-! the tape's text -/
def sp_nd (tp : Nat → Nat) : Nat → Nat
  | 0 => 0
  | k + 1 => sp_nd tp k + if tp k = 32 then 0 else 1
def sp_bad (tp : Nat → Nat) (k : Nat) : Bool := decide (¬ tp k = 32 ∧ ¬ (48 ≤ tp k ∧ tp k ≤ 57 ∧ sp_nd tp k < 9))
def sp_wr (tp : Nat → Nat) : Nat → Nat → Nat
  | 0, _ => 0
  | k + 1, j => if ¬ tp k = 32 ∧ j = sp_nd tp k then tp k - 48 else sp_wr tp k j
def sp_pr (tp : Nat → Nat) (n : Nat) : Int32 := if sp_fst (sp_bad tp) n < n then -20 - nI (sp_fst (sp_bad tp) n) else if sp_nd tp n = 0 then -20 - nI n else nI (sp_nd tp n)
theorem sp_nd_le {tp : Nat → Nat} : ∀ {k : Nat}, (∀ i, i < k → sp_bad tp i = false) → sp_nd tp k ≤ 9
  | 0, _ => by simp [sp_nd]
  | k + 1, h => by
    have h1 := sp_nd_le (tp := tp) (k := k) (fun i hi => h i (by omega))
    have h2 := h k (by omega)
    unfold sp_nd
    split
    · omega
    · next q =>
      simp only [sp_bad, decide_eq_false_iff_not] at h2
      have : 48 ≤ tp k ∧ tp k ≤ 57 ∧ sp_nd tp k < 9 := Decidable.byContradiction fun z => h2 ⟨q, z⟩
      omega
set_option maxHeartbeats 4000000 in
set_option maxRecDepth 100000 in
theorem m_X7_parseInto {h : kx_H} {n : Nat} {tp : Nat → Nat} (hn : h 45 1 = nI n) (hn24 : n ≤ 24) (htp : ∀ k, k < 24 → h 46 k = nI (tp k)) (ht8 : ∀ k, k < 24 → tp k < 128) : kx_MI 2 yX7_parseInto cX7_parseInto 4 .int [.ref 45, .ref 56] h (fun r h1 => r = sp_pr tp n ∧ (sp_fst (sp_bad tp) n = n → ∀ j, j < sp_nd tp n → h1 56 j = nI (sp_wr tp n j)) ∧ ∀ d j, d ≠ 56 → h1 d j = h d j) := by
  refine kx_mkI (own := RX7) (L0 := [some (.ref 45), some (.ref 56), none, none]) rfl (by decide +kernel) (Nat.le_of_ble_eq_true rfl) rfl (fun F C hR => ?_)
  have loop : ∀ (q k : Nat) (g : kx_H), n - k = q → k ≤ n → (∀ i, i < k → sp_bad tp i = false) → (∀ j, j < sp_nd tp k → g 56 j = nI (sp_wr tp k j)) → (∀ d j, d ≠ 56 → g d j = h d j) → F 4 [some (.ref 45), some (.ref 56), some (.int (nI (sp_nd tp k))), some (.int (nI k))] [] g := by
    intro q
    induction q with
    | zero =>
      intro k g hq hk hb hw hg
      have hn2 : g 45 1 = nI n := by rw [hg 45 1 (by omega)]; exact hn
      have h9 := sp_nd_le hb
      have ek : k = n := by omega
      have ef := sp_fst_none hb
      refine kx_ild3 (pc := 4) C dX7_parseInto_4 ?_
      refine kx_ald0 (pc := 5) C dX7_parseInto_5 ?_
      refine kx_geti (pc := 6) C fl_X7_15 fd_45_1 (by first | assumption | rfl) dX7_parseInto_6 ?_
      refine kx_icmp_geN (pc := 9) C 74 (by omega) (by omega) dX7_parseInto_9 (by decide) (fun c9 => ?_) (fun c9 => ?_)
      · refine kx_ild2 (pc := 74) C dX7_parseInto_74 ?_
        refine kx_if_leN (pc := 75) C 82 (by omega) dX7_parseInto_75 (by decide) (fun c75 => ?_) (fun c75 => ?_)
        · refine kx_bipush (pc := 82) C (v := -20) dX7_parseInto_82 (by decide) ?_
          refine kx_ald0 (pc := 84) C dX7_parseInto_84 ?_
          refine kx_geti (pc := 85) C fl_X7_15 fd_45_1 (by first | assumption | rfl) dX7_parseInto_85 ?_
          refine kx_isub (pc := 88) C dX7_parseInto_88 ?_
          subst ek
          first
            | exact hR dX7_parseInto_89 rfl ⟨by rw [sp_pr, if_neg (by omega), if_pos c75], fun _ => hw, hg⟩
            | exact hR dX7_parseInto_89 rfl ⟨by rw [sp_pr, if_neg (by omega), if_neg (by omega)], fun _ => hw, hg⟩
        · refine kx_ild2 (pc := 78) C dX7_parseInto_78 ?_
          refine kx_goto (pc := 79) C 89 dX7_parseInto_79 (by decide) ?_
          subst ek
          first
            | exact hR dX7_parseInto_89 rfl ⟨by rw [sp_pr, if_neg (by omega), if_pos c75], fun _ => hw, hg⟩
            | exact hR dX7_parseInto_89 rfl ⟨by rw [sp_pr, if_neg (by omega), if_neg (by omega)], fun _ => hw, hg⟩
      · omega
    | succ q ih =>
      intro k g hq hk hb hw hg
      have hn2 : g 45 1 = nI n := by rw [hg 45 1 (by omega)]; exact hn
      have ht2 : g 46 k = nI (tp k) := by rw [hg 46 k (by omega)]; exact htp k (by omega)
      have h9 := sp_nd_le hb
      have h128 := ht8 k (by omega)
      have fault : sp_bad tp k = true → sp_fst (sp_bad tp) n = k := fun z => sp_fst_at z hb (by omega)
      refine kx_ild3 (pc := 4) C dX7_parseInto_4 ?_
      refine kx_ald0 (pc := 5) C dX7_parseInto_5 ?_
      refine kx_geti (pc := 6) C fl_X7_15 fd_45_1 (by first | assumption | rfl) dX7_parseInto_6 ?_
      refine kx_icmp_geN (pc := 9) C 74 (by omega) (by omega) dX7_parseInto_9 (by decide) (fun c9 => ?_) (fun c9 => ?_)
      · omega
      · refine kx_ald0 (pc := 12) C dX7_parseInto_12 ?_
        refine kx_getr (pc := 13) C fl_X7_9 fd_45_0 dX7_parseInto_13 ?_
        refine kx_ild3 (pc := 16) C dX7_parseInto_16 ?_
        refine kx_iald (pc := 17) C ia_46 (by omega) (by first | assumption | rfl) dX7_parseInto_17 ?_
        refine kx_bipush (pc := 18) C (v := nI 32) dX7_parseInto_18 (by decide) ?_
        refine kx_icmp_neN (pc := 20) C 26 (by omega) (by omega) dX7_parseInto_20 (by decide) (fun c20 => ?_) (fun c20 => ?_)
        · refine kx_ald0 (pc := 26) C dX7_parseInto_26 ?_
          refine kx_getr (pc := 27) C fl_X7_9 fd_45_0 dX7_parseInto_27 ?_
          refine kx_ild3 (pc := 30) C dX7_parseInto_30 ?_
          refine kx_iald (pc := 31) C ia_46 (by omega) (by first | assumption | rfl) dX7_parseInto_31 ?_
          refine kx_bipush (pc := 32) C (v := nI 48) dX7_parseInto_32 (by decide) ?_
          refine kx_bipush (pc := 34) C (v := nI 57) dX7_parseInto_34 (by decide) ?_
          refine kx_callNI3 (pc := 36) C cs_X7_19 (m_X8_isWithin _ _ _) (by decide) dX7_parseInto_36 (Nat.le_of_ble_eq_true rfl) (fun r36 h36 q36 => ?_)
          obtain ⟨rfl, rfl⟩ := q36
          refine kx_if_eq (pc := 39) C 48 dX7_parseInto_39 (by decide) (fun c39 => ?_) (fun c39 => ?_)
          · have c39 := kx_if0 c39
            rw [show (nI 48).toInt = 48 from rfl, show (nI 57).toInt = 57 from rfl, kx_T (by omega)] at c39
            refine kx_bipush (pc := 48) C (v := -20) dX7_parseInto_48 (by decide) ?_
            refine kx_ild3 (pc := 50) C dX7_parseInto_50 ?_
            refine kx_isub (pc := 51) C dX7_parseInto_51 ?_
            have z := fault (by simp only [sp_bad, decide_eq_true_eq]; omega)
            exact hR dX7_parseInto_52 rfl ⟨by rw [sp_pr, z, if_pos (by omega)], fun y => absurd y (by omega), hg⟩
          · have c39 := kx_if1 c39
            rw [show (nI 48).toInt = 48 from rfl, show (nI 57).toInt = 57 from rfl, kx_T (by omega)] at c39
            refine kx_ild2 (pc := 42) C dX7_parseInto_42 ?_
            refine kx_bipush (pc := 43) C (v := nI 9) dX7_parseInto_43 (by decide) ?_
            refine kx_icmp_ltN (pc := 45) C 53 (by omega) (by omega) dX7_parseInto_45 (by decide) (fun c45 => ?_) (fun c45 => ?_)
            · refine kx_ald1 (pc := 53) C dX7_parseInto_53 ?_
              refine kx_ild2 (pc := 54) C dX7_parseInto_54 ?_
              first | refine kx_inc2 (pc := 55) C (v := nI (_ + 1)) dX7_parseInto_55 (by decide) rfl (nI_1 _) ?_ | refine kx_inc2 (pc := 55) C dX7_parseInto_55 (by decide) rfl rfl ?_
              refine kx_ald0 (pc := 58) C dX7_parseInto_58 ?_
              refine kx_getr (pc := 59) C fl_X7_9 fd_45_0 dX7_parseInto_59 ?_
              refine kx_ild3 (pc := 62) C dX7_parseInto_62 ?_
              refine kx_iald (pc := 63) C ia_46 (by omega) (by first | assumption | rfl) dX7_parseInto_63 ?_
              refine kx_bipush (pc := 64) C (v := nI 48) dX7_parseInto_64 (by decide) ?_
              refine kx_isubN (pc := 66) C (by omega) dX7_parseInto_66 ?_
              refine kx_iast (pc := 67) C ia_56 (by omega) dX7_parseInto_67 ?_
              first | refine kx_inc3 (pc := 68) C (v := nI (_ + 1)) dX7_parseInto_68 (by decide) rfl (nI_1 _) ?_ | refine kx_inc3 (pc := 68) C dX7_parseInto_68 (by decide) rfl rfl ?_
              refine kx_goto (pc := 71) C 4 dX7_parseInto_71 (by decide) ?_
              first
                | (have e : sp_nd tp (k + 1) = sp_nd tp k := by simp [sp_nd, c20]
                   have e2 : ∀ j, sp_wr tp (k + 1) j = sp_wr tp k j := fun j => by simp [sp_wr, c20]
                   have h3 := ih (k + 1) g (by omega) (by omega) (fun i hi => by
                     rcases Nat.lt_or_ge i k with y | y
                     · exact hb i y
                     · rw [show i = k by omega]; simp [sp_bad, c20]) (fun j hj => by rw [e2 j]; exact hw j (by omega)) hg
                   rw [e] at h3
                   exact h3)
                | (have e : sp_nd tp (k + 1) = sp_nd tp k + 1 := by simp [sp_nd, c20]
                   rw [← e]
                   refine ih (k + 1) _ (by omega) (by omega) (fun i hi => by
                     rcases Nat.lt_or_ge i k with y | y
                     · exact hb i y
                     · rw [show i = k by omega]; simp only [sp_bad, decide_eq_false_iff_not]; omega) (fun j hj => ?_) (fun d j hd => by rw [kx_up, if_neg (by omega)]; exact hg d j hd)
                   by_cases z : j = sp_nd tp k
                   · subst z
                     rw [kx_up, if_pos ⟨rfl, rfl⟩]
                     simp [sp_wr, c20]
                   · rw [kx_up, if_neg (by omega), hw j (by omega)]
                     simp [sp_wr, z])
            · refine kx_bipush (pc := 48) C (v := -20) dX7_parseInto_48 (by decide) ?_
              refine kx_ild3 (pc := 50) C dX7_parseInto_50 ?_
              refine kx_isub (pc := 51) C dX7_parseInto_51 ?_
              have z := fault (by simp only [sp_bad, decide_eq_true_eq]; omega)
              exact hR dX7_parseInto_52 rfl ⟨by rw [sp_pr, z, if_pos (by omega)], fun y => absurd y (by omega), hg⟩
        · refine kx_goto (pc := 23) C 68 dX7_parseInto_23 (by decide) ?_
          first | refine kx_inc3 (pc := 68) C (v := nI (_ + 1)) dX7_parseInto_68 (by decide) rfl (nI_1 _) ?_ | refine kx_inc3 (pc := 68) C dX7_parseInto_68 (by decide) rfl rfl ?_
          refine kx_goto (pc := 71) C 4 dX7_parseInto_71 (by decide) ?_
          first
            | (have e : sp_nd tp (k + 1) = sp_nd tp k := by simp [sp_nd, c20]
               have e2 : ∀ j, sp_wr tp (k + 1) j = sp_wr tp k j := fun j => by simp [sp_wr, c20]
               have h3 := ih (k + 1) g (by omega) (by omega) (fun i hi => by
                 rcases Nat.lt_or_ge i k with y | y
                 · exact hb i y
                 · rw [show i = k by omega]; simp [sp_bad, c20]) (fun j hj => by rw [e2 j]; exact hw j (by omega)) hg
               rw [e] at h3
               exact h3)
            | (have e : sp_nd tp (k + 1) = sp_nd tp k + 1 := by simp [sp_nd, c20]
               rw [← e]
               refine ih (k + 1) _ (by omega) (by omega) (fun i hi => by
                 rcases Nat.lt_or_ge i k with y | y
                 · exact hb i y
                 · rw [show i = k by omega]; simp only [sp_bad, decide_eq_false_iff_not]; omega) (fun j hj => ?_) (fun d j hd => by rw [kx_up, if_neg (by omega)]; exact hg d j hd)
               by_cases z : j = sp_nd tp k
               · subst z
                 rw [kx_up, if_pos ⟨rfl, rfl⟩]
                 simp [sp_wr, c20]
               · rw [kx_up, if_neg (by omega), hw j (by omega)]
                 simp [sp_wr, z])
  refine kx_iconst (pc := 0) C (v := nI 0) dX7_parseInto_0 (by decide) ?_
  refine kx_ist2 (pc := 1) C dX7_parseInto_1 (by decide) rfl ?_
  refine kx_iconst (pc := 2) C (v := nI 0) dX7_parseInto_2 (by decide) ?_
  refine kx_ist3 (pc := 3) C dX7_parseInto_3 (by decide) rfl ?_
  exact loop n 0 h (by omega) (by omega) (fun i hi => absurd hi (by omega)) (fun j hj => absurd hj (by simp [sp_nd])) (fun d j _ => rfl)
