/-! untangled: the x-th pair is x / 8, x % 8 -/
def sp_same (a : Nat → Nat) (v : Nat → Nat) (n x y : Nat) : Bool := decide (a (81 + x) + a (81 + y) = n) && sp_all (fun p => decide (sp_tg a x y p = v p)) n
def sp_Ux (a : Nat → Nat) (v : Nat → Nat) (n x : Nat) : Bool := decide (x / 8 < a 0 ∧ x % 8 < a 0 ∧ ¬ x / 8 = x % 8) && sp_same a v n (x / 8) (x % 8)
def sp_Uf (a : Nat → Nat) (v : Nat → Nat) (n m : Nat) : Int32 := if sp_ct (sp_Ux a v n) m = 0 then -4 else nI (10 * (sp_fst (sp_Ux a v n) m / 8) + sp_fst (sp_Ux a v n) m % 8)
theorem sp_fst_s (p : Nat → Bool) (n : Nat) : sp_fst p (n + 1) = if sp_fst p n < n then sp_fst p n else if p n = true then n else n + 1 := rfl
/-- the first one's name: w of it, or -4 -/
def sp_fv (p : Nat → Bool) (w : Nat → Nat) (m : Nat) : Int32 := if sp_ct p m = 0 then -4 else nI (w (sp_fst p m))
theorem sp_fv_0 (p : Nat → Bool) (w : Nat → Nat) : sp_fv p w 0 = -4 := rfl
theorem sp_fv_no {p : Nat → Bool} {w : Nat → Nat} {m : Nat} (h : p m = false) : sp_fv p w (m + 1) = sp_fv p w m := by
  have hp := sp_ct_pos (p := p) (n := m)
  unfold sp_fv
  rw [sp_ct_nope h]
  by_cases q : sp_ct p m = 0
  · rw [if_pos q, if_pos q]
  · rw [if_neg q, if_neg q, sp_fst_s, if_pos (hp.mp (by omega))]
theorem sp_fv_first {p : Nat → Bool} {w : Nat → Nat} {m : Nat} (h : p m = true) (h0 : sp_ct p m = 0) : sp_fv p w (m + 1) = nI (w m) := by
  have hp := sp_ct_pos (p := p) (n := m)
  unfold sp_fv
  rw [sp_ct_yes h, if_neg (by omega), sp_fst_s, if_neg (fun z => by have := hp.mpr z; omega), if_pos h]
theorem sp_fv_more {p : Nat → Bool} {w : Nat → Nat} {m : Nat} (h : p m = true) (h0 : 0 < sp_ct p m) : sp_fv p w (m + 1) = sp_fv p w m := by
  have hp := sp_ct_pos (p := p) (n := m)
  unfold sp_fv
  rw [sp_ct_yes h, if_neg (by omega), if_neg (by omega), sp_fst_s, if_pos (hp.mp h0)]
theorem sp_run {p : Nat → Bool} {w : Nat → Nat} {m : Nat} : ∀ {k : Nat}, (∀ i, m ≤ i → i < m + k → p i = false) → sp_ct p (m + k) = sp_ct p m ∧ sp_fv p w (m + k) = sp_fv p w m
  | 0, _ => ⟨rfl, rfl⟩
  | k + 1, h => by
    have h1 := sp_run (p := p) (w := w) (m := m) (k := k) (fun i hi hk => h i hi (by omega))
    have h2 := h (m + k) (by omega) (by omega)
    rw [show m + (k + 1) = m + k + 1 by omega, sp_ct_nope h2, sp_fv_no h2]
    exact h1
def sp_w8 (x : Nat) : Nat := 10 * (x / 8) + x % 8
set_option maxHeartbeats 4000000 in
set_option maxRecDepth 100000 in
theorem m_X8_areTangledTo {h : kx_H} {a v : Nat → Nat} {x y n : Nat} (hRD : st_RD 2 4 12 h a) (hRB : st_RB a) (hx : x < 8) (hy : y < 8) (hn : n ≤ 16) (hv : ∀ k, k < n → h 56 k = nI (v k)) (hv9 : ∀ k, k < n → v k ≤ 9) : kx_MI 2 yX8_areTangledTo cX8_areTangledTo 4 .boolean [.ref 0, .int (nI x), .int (nI y), .int (nI n)] h (fun r h1 => r = (if sp_same a v n x y = true then 1 else 0) ∧ ∀ d k, d ≠ 57 → h1 d k = h d k) := by
  refine kx_mkI (own := RX8) (L0 := [some (.ref 0), some (.int (nI x)), some (.int (nI y)), some (.int (nI n))]) rfl (by decide +kernel) (Nat.le_of_ble_eq_true rfl) rfl (fun F C hR => ?_)
  obtain ⟨hlen, hten, hkd⟩ := id hRD
  have lx := hRB.1 x hx
  have ly := hRB.1 y hy
  refine kx_ald0 (pc := 0) C dX8_areTangledTo_0 ?_
  refine kx_getr (pc := 1) C fl_X8_10 fd_0_0 dX8_areTangledTo_1 ?_
  refine kx_getr (pc := 4) C fl_X8_129 fd_1_5 dX8_areTangledTo_4 ?_
  refine kx_ild1 (pc := 7) C dX8_areTangledTo_7 ?_
  refine kx_iald (pc := 8) C ia_2 (by omega) (by first | exact hlen _ (by omega) | rfl) dX8_areTangledTo_8 ?_
  refine kx_ald0 (pc := 9) C dX8_areTangledTo_9 ?_
  refine kx_getr (pc := 10) C fl_X8_10 fd_0_0 dX8_areTangledTo_10 ?_
  refine kx_getr (pc := 13) C fl_X8_129 fd_1_5 dX8_areTangledTo_13 ?_
  refine kx_ild2 (pc := 16) C dX8_areTangledTo_16 ?_
  refine kx_iald (pc := 17) C ia_2 (by omega) (by first | exact hlen _ (by omega) | rfl) dX8_areTangledTo_17 ?_
  refine kx_iaddN (pc := 18) C dX8_areTangledTo_18 ?_
  refine kx_ild3 (pc := 19) C dX8_areTangledTo_19 ?_
  refine kx_icmp_eqN (pc := 20) C 25 (by omega) (by omega) dX8_areTangledTo_20 (by decide) (fun c20 => ?_) (fun c20 => ?_)
  · refine kx_ald0 (pc := 25) C dX8_areTangledTo_25 ?_
    refine kx_getr (pc := 26) C fl_X8_10 fd_0_0 dX8_areTangledTo_26 ?_
    refine kx_ald0 (pc := 29) C dX8_areTangledTo_29 ?_
    refine kx_getr (pc := 30) C fl_X8_36 fd_0_6 dX8_areTangledTo_30 ?_
    refine kx_ild1 (pc := 33) C dX8_areTangledTo_33 ?_
    refine kx_ild2 (pc := 34) C dX8_areTangledTo_34 ?_
    refine kx_callVI3 (pc := 35) C cs_X8_241 ob_1 (m_X2_tangleInto hRD hRB hx hy) (by decide) dX8_areTangledTo_35 (Nat.le_of_ble_eq_true rfl) (fun r35 h35 q35 => ?_)
    obtain ⟨rfl, k1, k2⟩ := q35
    refine kx_pop (pc := 38) C dX8_areTangledTo_38 rfl ?_
    refine kx_ald0 (pc := 39) C dX8_areTangledTo_39 ?_
    refine kx_getr (pc := 40) C fl_X8_36 fd_0_6 dX8_areTangledTo_40 ?_
    refine kx_ald0 (pc := 43) C dX8_areTangledTo_43 ?_
    refine kx_getr (pc := 44) C fl_X8_32 fd_0_5 dX8_areTangledTo_44 ?_
    refine kx_ild3 (pc := 47) C dX8_areTangledTo_47 ?_
    refine kx_callSI3 (pc := 48) C cs_X8_290 (m_X8_areSame ia_57 ia_56 (by omega) (by omega)) (by decide) dX8_areTangledTo_48 (Nat.le_of_ble_eq_true rfl) (fun r48 h48 q48 => ?_)
    obtain ⟨z48, e48⟩ := q48
    have z48 := z48.symm
    subst z48
    have key : sp_same a v n x y = true ↔ ∀ i, i < n → h35 57 i = h35 56 i := by
      simp only [sp_same, Bool.and_eq_true, decide_eq_true_eq, sp_all_iff]
      constructor
      · intro z i hi
        rw [k1 i (by omega), k2 56 i (by omega), hv i hi]
        exact congrArg nI (z.2 i hi)
      · intro z
        refine ⟨c20, fun i hi => ?_⟩
        have h1 := z i hi
        rw [k1 i (by omega), k2 56 i (by omega), hv i hi] at h1
        have h2 := sp_tg_le hRB (x := x) (y := y) (p := i) hx hy (by omega)
        have h3 := hv9 i hi
        exact (nI_eq (by omega) (by omega)).mp h1
    exact hR dX8_areTangledTo_51 (by rw [e48]; exact kx_b01 _) ⟨by rw [e48]; exact kx_ifc key.symm, k2⟩
  · refine kx_iconst (pc := 23) C (v := nI 0) dX8_areTangledTo_23 (by decide) ?_
    exact hR dX8_areTangledTo_24 rfl ⟨by rw [if_neg (by simp [sp_same, c20])]; rfl, fun d k _ => rfl⟩
def sp_val (it : kx_H) (j i : Nat) (k : Nat) : Nat := kx_n (it j (i + k))
theorem sp_okI_v {it : kx_H} {j i n most : Nat} (h : sp_okI it j i n most = true) {k : Nat} (hk : k < n) : it j (i + k) = nI (sp_val it j i k) ∧ sp_val it j i k ≤ most := by
  have h1 := sp_all_iff.mp h k hk
  simp only [decide_eq_true_eq] at h1
  obtain ⟨m, e, h2, h3⟩ := kx_nat h1.1
  unfold sp_val
  rw [kx_n, h2, Int.toNat_natCast]
  exact ⟨e, by omega⟩
def sp_untC (v l n w : Int32) : Prop := ((0 ≤ v.toInt ∧ v.toInt ≤ 3) ∧ 0 ≤ l.toInt ∧ l.toInt ≤ 2) ∧ (1 ≤ n.toInt ∧ n.toInt ≤ 16) ∧ 0 ≤ w.toInt ∧ w.toInt ≤ 1
def sp_unt (a sl sn : Nat → Nat) (it : kx_H) (v l i n w : Int32) : Int32 := if ((0 ≤ v.toInt ∧ v.toInt ≤ 3) ∧ 0 ≤ l.toInt ∧ l.toInt ≤ 2) ∧ (1 ≤ n.toInt ∧ n.toInt ≤ 16) ∧ 0 ≤ w.toInt ∧ w.toInt ≤ 1 then (if sp_take sl sn it (kx_n v) l i (kx_n n) 9 = 0 then (if w = 0 then nI (sp_ct (sp_Ux a (sp_val it (kx_n v) (kx_n i)) (kx_n n)) 64) else sp_fv (sp_Ux a (sp_val it (kx_n v) (kx_n i)) (kx_n n)) sp_w8 64) else sp_take sl sn it (kx_n v) l i (kx_n n) 9) else -1
set_option maxHeartbeats 4000000 in
set_option maxRecDepth 100000 in
theorem m_X8_untangle {h : kx_H} {a sl sn : Nat → Nat} {it : kx_H} (tv l i tn w : Int32) (hC : st_CH h a) (hB : st_B a) (hs : st_SH h sl sn it) : kx_MI 4 yX8_untangle cX8_untangle 11 .int [.ref 0, .int tv, .int l, .int i, .int tn, .int w] h (fun r h1 => r = sp_unt a sl sn it tv l i tn w ∧ ∀ d k, d ≠ 56 → d ≠ 57 → h1 d k = h d k) := by
  refine kx_mkI (own := RX8) (L0 := [some (.ref 0), some (.int tv), some (.int l), some (.int i), some (.int tn), some (.int w), none, none, none, none, none]) rfl (by decide +kernel) (Nat.le_of_ble_eq_true rfl) rfl (fun F C hR => ?_)
  obtain ⟨⟨hT, hE, hS, hev, hme⟩, ⟨hlen, hten, hkd⟩, hYD, hHD, hBR⟩ := id hC
  obtain ⟨⟨b0, b1, b2, b3, b8, b8'⟩, hRB, bl, byy, bh, bz, bb⟩ := id hB
  have hl9 := hRB.1
  have part : ∀ (j n : Nat) (g0 : kx_H), tv = nI j → tn = nI n → j < 4 → 1 ≤ n → n ≤ 16 → (0 ≤ w.toInt ∧ w.toInt ≤ 1) → (0 ≤ l.toInt ∧ l.toInt ≤ 2) → sp_take sl sn it j l i n 9 = 0 → (∀ k, k < n → g0 56 k = it j (kx_n i + k)) → (∀ d k, d ≠ 56 → g0 d k = h d k) → F 52 [some (.ref 0), some (.int (nI j)), some (.int l), some (.int i), some (.int (nI n)), some (.int w), some (.int 0), none, none, none, none] [] g0 := by
    intro j n g0 ej en hj hn1 hn16 hw hl2 htk hit hg0
    subst ej en
    have ok := (sp_take_0 htk).2
    have hv : ∀ k, k < n → g0 56 k = nI (sp_val it j (kx_n i) k) := fun k hk => by rw [hit k hk]; exact (sp_okI_v ok hk).1
    have hv9 : ∀ k, k < n → sp_val it j (kx_n i) k ≤ 9 := fun k hk => (sp_okI_v ok hk).2
    generalize hval : sp_val it j (kx_n i) = v at hv hv9
    generalize hU : sp_Ux a v n = U
    have hUx : ∀ x y, x < a 0 → y < a 0 → ¬ x = y → U (8 * x + y) = sp_same a v n x y := by
      intro x y hx hy hne
      rw [← hU, sp_Ux, show (8 * x + y) / 8 = x by omega, show (8 * x + y) % 8 = y by omega]
      simp [hx, hy, hne]
    have hU0 : ∀ x y, y < 8 → (a 0 ≤ x ∨ a 0 ≤ y ∨ x = y) → U (8 * x + y) = false := by
      intro x y hy hc
      rw [← hU, sp_Ux, show (8 * x + y) / 8 = x by omega, show (8 * x + y) % 8 = y by omega]
      rw [Bool.and_eq_false_iff]
      exact Or.inl (decide_eq_false (by omega))
    have outer : ∀ (q x : Nat) (g : kx_H) (z : Option Value), kx_nl [some (.ref 0), some (.int (nI j)), some (.int l), some (.int i), some (.int (nI n)), some (.int w), some (.int 0), some (.int (nI (sp_ct U (8 * x)))), some (.int (sp_fv U sp_w8 (8 * x))), some (.int (nI x)), z] 10 = true → a 0 - x = q → x ≤ a 0 → (∀ d k, d ≠ 57 → g d k = g0 d k) → F 62 [some (.ref 0), some (.int (nI j)), some (.int l), some (.int i), some (.int (nI n)), some (.int w), some (.int 0), some (.int (nI (sp_ct U (8 * x)))), some (.int (sp_fv U sp_w8 (8 * x))), some (.int (nI x)), z] [] g := by
      intro q
      induction q with
      | zero =>
        intro x g z hz hq hx hg
        have hT2 : g 1 0 = nI (a 0) := by rw [hg 1 0 (by omega), hg0 1 0 (by omega)]; exact hT
        have hrun := sp_run (p := U) (w := sp_w8) (m := 8 * x) (k := 64 - 8 * x) (fun k h1 h2 => by
          have := hU0 (k / 8) (k % 8) (by omega) (Or.inl (by omega))
          rwa [show 8 * (k / 8) + k % 8 = k by omega] at this)
        rw [show 8 * x + (64 - 8 * x) = 64 by omega] at hrun
        refine kx_ild9 (pc := 62) C dX8_untangle_62 ?_
        refine kx_ald0 (pc := 64) C dX8_untangle_64 ?_
        refine kx_getr (pc := 65) C fl_X8_10 fd_0_0 dX8_untangle_65 ?_
        refine kx_geti (pc := 68) C fl_X8_95 fd_1_0 (by first | assumption | rfl) dX8_untangle_68 ?_
        refine kx_icmp_geN (pc := 71) C 144 (by omega) (by omega) dX8_untangle_71 (by decide) (fun c71 => ?_) (fun c71 => ?_)
        · refine kx_ild7 (pc := 144) C dX8_untangle_144 ?_
          refine kx_ild8 (pc := 146) C dX8_untangle_146 ?_
          refine kx_ild5 (pc := 148) C dX8_untangle_148 ?_
          refine kx_callSI3 (pc := 150) C cs_X8_197 (m_X8_firstOrCount _ _ _) (by decide) dX8_untangle_150 (Nat.le_of_ble_eq_true rfl) (fun r150 h150 q150 => ?_)
          obtain ⟨z150, e150⟩ := q150
          subst z150
          refine hR dX8_untangle_153 rfl ⟨?_, fun d k h1 h2 => by rw [hg d k h2, hg0 d k h1]⟩
          have hc : ((0 ≤ (nI j).toInt ∧ (nI j).toInt ≤ 3) ∧ 0 ≤ l.toInt ∧ l.toInt ≤ 2) ∧ (1 ≤ (nI n).toInt ∧ (nI n).toInt ≤ 16) ∧ 0 ≤ w.toInt ∧ w.toInt ≤ 1 := by
            rw [kx_T (show j < 2 ^ 31 by omega), kx_T (show n < 2 ^ 31 by omega)]
            exact ⟨⟨by omega, hl2⟩, by omega, hw⟩
          rw [e150, sp_unt, if_pos hc, kx_n, kx_n, kx_n_nI (show j < 2 ^ 31 by omega), kx_n_nI (show n < 2 ^ 31 by omega), if_pos htk, hval, hU, hrun.1, hrun.2]
          by_cases w0 : w = 0
          · rw [if_pos w0, if_pos w0]
          · rw [if_neg w0, if_neg w0]
            have hle := sp_ct_le U (8 * x)
            by_cases c0 : sp_ct U (8 * x) = 0
            · rw [if_pos (show nI (sp_ct U (8 * x)) = 0 by rw [c0]; rfl), sp_fv, if_pos c0]
            · rw [if_neg (nI_ne0 (by omega) (by omega))]
        · omega
      | succ q ih =>
        intro x g z hz hq hx hg
        have inner : ∀ (q2 y : Nat) (g : kx_H), a 0 - y = q2 → y ≤ a 0 → (∀ d k, d ≠ 57 → g d k = g0 d k) → F 77 [some (.ref 0), some (.int (nI j)), some (.int l), some (.int i), some (.int (nI n)), some (.int w), some (.int 0), some (.int (nI (sp_ct U (8 * x + y)))), some (.int (sp_fv U sp_w8 (8 * x + y))), some (.int (nI x)), some (.int (nI y))] [] g := by
          intro q2
          induction q2 with
          | zero =>
            intro y g hq2 hy hg
            have hT2 : g 1 0 = nI (a 0) := by rw [hg 1 0 (by omega), hg0 1 0 (by omega)]; exact hT
            have hrun := sp_run (p := U) (w := sp_w8) (m := 8 * x + y) (k := 8 - y) (fun k h1 h2 => by
              have := hU0 x (k - 8 * x) (by omega) (Or.inr (Or.inl (by omega)))
              rwa [show 8 * x + (k - 8 * x) = k by omega] at this)
            rw [show 8 * x + y + (8 - y) = 8 * (x + 1) by omega] at hrun
            refine kx_ild10 (pc := 77) C dX8_untangle_77 ?_
            refine kx_ald0 (pc := 79) C dX8_untangle_79 ?_
            refine kx_getr (pc := 80) C fl_X8_10 fd_0_0 dX8_untangle_80 ?_
            refine kx_geti (pc := 83) C fl_X8_95 fd_1_0 (by first | assumption | rfl) dX8_untangle_83 ?_
            refine kx_icmp_geN (pc := 86) C 138 (by omega) (by omega) dX8_untangle_86 (by decide) (fun c86 => ?_) (fun c86 => ?_)
            · first | refine kx_inc9 (pc := 138) C (v := nI (_ + 1)) dX8_untangle_138 (by decide) rfl (nI_1 _) ?_ | refine kx_inc9 (pc := 138) C dX8_untangle_138 (by decide) rfl rfl ?_
              refine kx_goto (pc := 141) C 62 dX8_untangle_141 (by decide) ?_
              rw [← hrun.1, ← hrun.2]
              exact ih (x + 1) g _ rfl (by omega) (by omega) hg
            · omega
          | succ q2 ih2 =>
            intro y g hq2 hy hg
            have hT2 : g 1 0 = nI (a 0) := by rw [hg 1 0 (by omega), hg0 1 0 (by omega)]; exact hT
            have hle := sp_ct_le U (8 * x + y)
            have hr2 : st_RD 2 4 12 g a := st_RD.kept2 ⟨hlen, hten, hkd⟩ (fun k => by rw [hg 2 k (by omega), hg0 2 k (by omega)]) (fun d k h1 h2 => by rw [hg d k (by omega), hg0 d k (by omega)]) (fun k => by rw [hg 12 k (by omega), hg0 12 k (by omega)])
            have hv2 : ∀ k, k < n → g 56 k = nI (v k) := fun k hk => by rw [hg 56 k (by omega)]; exact hv k hk
            have no : ∀ g : kx_H, (∀ d k, d ≠ 57 → g d k = g0 d k) → U (8 * x + y) = false → F 132 [some (.ref 0), some (.int (nI j)), some (.int l), some (.int i), some (.int (nI n)), some (.int w), some (.int 0), some (.int (nI (sp_ct U (8 * x + y)))), some (.int (sp_fv U sp_w8 (8 * x + y))), some (.int (nI x)), some (.int (nI y))] [] g := by
              intro g hg hu
              have e1 := sp_ct_nope hu
              have e2 := sp_fv_no (w := sp_w8) hu
              first | refine kx_inc10 (pc := 132) C (v := nI (_ + 1)) dX8_untangle_132 (by decide) rfl (nI_1 _) ?_ | refine kx_inc10 (pc := 132) C dX8_untangle_132 (by decide) rfl rfl ?_
              refine kx_goto (pc := 135) C 77 dX8_untangle_135 (by decide) ?_
              rw [← e1, ← e2]
              exact ih2 (y + 1) g (by omega) (by omega) hg
            refine kx_ild10 (pc := 77) C dX8_untangle_77 ?_
            refine kx_ald0 (pc := 79) C dX8_untangle_79 ?_
            refine kx_getr (pc := 80) C fl_X8_10 fd_0_0 dX8_untangle_80 ?_
            refine kx_geti (pc := 83) C fl_X8_95 fd_1_0 (by first | assumption | rfl) dX8_untangle_83 ?_
            refine kx_icmp_geN (pc := 86) C 138 (by omega) (by omega) dX8_untangle_86 (by decide) (fun c86 => ?_) (fun c86 => ?_)
            · omega
            · refine kx_ild9 (pc := 89) C dX8_untangle_89 ?_
              refine kx_ild10 (pc := 91) C dX8_untangle_91 ?_
              refine kx_icmp_eqN (pc := 93) C 132 (by omega) (by omega) dX8_untangle_93 (by decide) (fun c93 => ?_) (fun c93 => ?_)
              · exact no g hg (hU0 x y (by omega) (Or.inr (Or.inr c93)))
              · have hux := hUx x y (by omega) (by omega) c93
                refine kx_ald0 (pc := 96) C dX8_untangle_96 ?_
                refine kx_ild9 (pc := 97) C dX8_untangle_97 ?_
                refine kx_ild10 (pc := 99) C dX8_untangle_99 ?_
                refine kx_ild4 (pc := 101) C dX8_untangle_101 ?_
                refine kx_callVI3 (pc := 103) C cs_X8_238 ob_0 (m_X8_areTangledTo hr2 hRB (by omega) (by omega) hn16 hv2 hv9) (by decide) dX8_untangle_103 (Nat.le_of_ble_eq_true rfl) (fun r103 h103 q103 => ?_)
                obtain ⟨rfl, k1⟩ := q103
                have k2 : ∀ d k, d ≠ 57 → h103 d k = g0 d k := fun d k hd => by rw [k1 d k hd, hg d k hd]
                refine kx_if_eq (pc := 106) C 132 dX8_untangle_106 (by decide) (fun c106 => ?_) (fun c106 => ?_)
                · exact no h103 k2 (by rw [hux]; exact Bool.eq_false_iff.mpr (kx_if0 c106))
                · have hu : U (8 * x + y) = true := by rw [hux]; exact kx_if1 c106
                  have e1 := sp_ct_yes hu
                  refine kx_ild7 (pc := 109) C dX8_untangle_109 ?_
                  refine kx_if_neN (pc := 111) C 125 (by omega) dX8_untangle_111 (by decide) (fun c111 => ?_) (fun c111 => ?_)
                  · refine kx_ild8 (pc := 125) C dX8_untangle_125 ?_
                    refine kx_ist8 (pc := 127) C dX8_untangle_127 (by decide) rfl ?_
                    first | refine kx_inc7 (pc := 129) C (v := nI (_ + 1)) dX8_untangle_129 (by decide) rfl (nI_1 _) ?_ | refine kx_inc7 (pc := 129) C dX8_untangle_129 (by decide) rfl rfl ?_
                    first | refine kx_inc10 (pc := 132) C (v := nI (_ + 1)) dX8_untangle_132 (by decide) rfl (nI_1 _) ?_ | refine kx_inc10 (pc := 132) C dX8_untangle_132 (by decide) rfl rfl ?_
                    refine kx_goto (pc := 135) C 77 dX8_untangle_135 (by decide) ?_
                    first
                      | (have e2 := sp_fv_more (w := sp_w8) hu c111
                         rw [← e1, ← e2]
                         exact ih2 (y + 1) h103 (by omega) (by omega) k2)
                      | (have e2 := sp_fv_first (w := sp_w8) hu c111
                         have e3 : nI (10 * x + y) = sp_fv U sp_w8 (8 * x + y + 1) := by
                           rw [e2, sp_w8, show (8 * x + y) / 8 = x by omega, show (8 * x + y) % 8 = y by omega]
                         rw [← e1, e3]
                         exact ih2 (y + 1) h103 (by omega) (by omega) k2)
                  · refine kx_bipush (pc := 114) C (v := nI 10) dX8_untangle_114 (by decide) ?_
                    refine kx_ild9 (pc := 116) C dX8_untangle_116 ?_
                    refine kx_imulN (pc := 118) C dX8_untangle_118 ?_
                    refine kx_ild10 (pc := 119) C dX8_untangle_119 ?_
                    refine kx_iaddN (pc := 121) C dX8_untangle_121 ?_
                    refine kx_goto (pc := 122) C 127 dX8_untangle_122 (by decide) ?_
                    refine kx_ist8 (pc := 127) C dX8_untangle_127 (by decide) rfl ?_
                    first | refine kx_inc7 (pc := 129) C (v := nI (_ + 1)) dX8_untangle_129 (by decide) rfl (nI_1 _) ?_ | refine kx_inc7 (pc := 129) C dX8_untangle_129 (by decide) rfl rfl ?_
                    first | refine kx_inc10 (pc := 132) C (v := nI (_ + 1)) dX8_untangle_132 (by decide) rfl (nI_1 _) ?_ | refine kx_inc10 (pc := 132) C dX8_untangle_132 (by decide) rfl rfl ?_
                    refine kx_goto (pc := 135) C 77 dX8_untangle_135 (by decide) ?_
                    first
                      | (have e2 := sp_fv_more (w := sp_w8) hu c111
                         rw [← e1, ← e2]
                         exact ih2 (y + 1) h103 (by omega) (by omega) k2)
                      | (have e2 := sp_fv_first (w := sp_w8) hu c111
                         have e3 : nI (10 * x + y) = sp_fv U sp_w8 (8 * x + y + 1) := by
                           rw [e2, sp_w8, show (8 * x + y) / 8 = x by omega, show (8 * x + y) % 8 = y by omega]
                         rw [← e1, e3]
                         exact ih2 (y + 1) h103 (by omega) (by omega) k2)
        refine kx_ild9 (pc := 62) C dX8_untangle_62 ?_
        refine kx_ald0 (pc := 64) C dX8_untangle_64 ?_
        refine kx_getr (pc := 65) C fl_X8_10 fd_0_0 dX8_untangle_65 ?_
        refine kx_geti (pc := 68) C fl_X8_95 fd_1_0 (show _ = nI (a 0) by rw [hg 1 0 (by omega), hg0 1 0 (by omega)]; exact hT) dX8_untangle_68 ?_
        refine kx_icmp_geN (pc := 71) C 144 (by omega) (by omega) dX8_untangle_71 (by decide) (fun c71 => ?_) (fun c71 => ?_)
        · omega
        · refine kx_iconst (pc := 74) C (v := nI 0) dX8_untangle_74 (by decide) ?_
          refine kx_ist10 (pc := 75) C dX8_untangle_75 (by decide) rfl ?_
          exact inner (a 0) 0 g (by omega) (by omega) hg
    refine kx_iconst (pc := 52) C (v := nI 0) dX8_untangle_52 (by decide) ?_
    refine kx_ist7 (pc := 53) C dX8_untangle_53 (by decide) rfl ?_
    refine kx_bipush (pc := 55) C (v := -4) dX8_untangle_55 (by decide) ?_
    refine kx_ist8 (pc := 57) C dX8_untangle_57 (by decide) rfl ?_
    refine kx_iconst (pc := 59) C (v := nI 0) dX8_untangle_59 (by decide) ?_
    refine kx_ist9 (pc := 60) C dX8_untangle_60 (by decide) rfl ?_
    exact outer (a 0) 0 g0 none rfl (by omega) (by omega) (fun d k _ => rfl)
  refine kx_ild1 (pc := 0) C dX8_untangle_0 ?_
  refine kx_ild2 (pc := 1) C dX8_untangle_1 ?_
  refine kx_callSI2 (pc := 2) C cs_X8_208 (m_X8_isSheetOfLane _ _) (by decide) dX8_untangle_2 (Nat.le_of_ble_eq_true rfl) (fun r2 h2 q2 => ?_)
  obtain ⟨z2, rfl⟩ := q2
  have z2 := z2.symm
  subst z2
  refine kx_if_eq (pc := 5) C 29 dX8_untangle_5 (by decide) (fun c5 => ?_) (fun c5 => ?_)
  · refine kx_iconst (pc := 29) C (v := -1) dX8_untangle_29 (by decide) ?_
    have nc : ¬ (((0 ≤ tv.toInt ∧ tv.toInt ≤ 3) ∧ 0 ≤ l.toInt ∧ l.toInt ≤ 2) ∧ (1 ≤ tn.toInt ∧ tn.toInt ≤ 16) ∧ 0 ≤ w.toInt ∧ w.toInt ≤ 1) := fun z => by
      first
        | exact kx_if0 c26 z.2.2
        | exact kx_if0 c16 z.2.1
        | exact kx_if0 c5 z.1
    exact hR dX8_untangle_30 rfl ⟨by rw [sp_unt, if_neg nc], fun d k _ _ => rfl⟩
  · refine kx_ild4 (pc := 8) C dX8_untangle_8 ?_
    refine kx_iconst (pc := 10) C (v := nI 1) dX8_untangle_10 (by decide) ?_
    refine kx_bipush (pc := 11) C (v := nI 16) dX8_untangle_11 (by decide) ?_
    refine kx_callSI3 (pc := 13) C cs_X8_75 (m_X8_isWithin _ _ _) (by decide) dX8_untangle_13 (Nat.le_of_ble_eq_true rfl) (fun r13 h13 q13 => ?_)
    obtain ⟨z13, rfl⟩ := q13
    have z13 := z13.symm
    subst z13
    refine kx_if_eq (pc := 16) C 29 dX8_untangle_16 (by decide) (fun c16 => ?_) (fun c16 => ?_)
    · refine kx_iconst (pc := 29) C (v := -1) dX8_untangle_29 (by decide) ?_
      have nc : ¬ (((0 ≤ tv.toInt ∧ tv.toInt ≤ 3) ∧ 0 ≤ l.toInt ∧ l.toInt ≤ 2) ∧ (1 ≤ tn.toInt ∧ tn.toInt ≤ 16) ∧ 0 ≤ w.toInt ∧ w.toInt ≤ 1) := fun z => by
        first
          | exact kx_if0 c26 z.2.2
          | exact kx_if0 c16 z.2.1
          | exact kx_if0 c5 z.1
      exact hR dX8_untangle_30 rfl ⟨by rw [sp_unt, if_neg nc], fun d k _ _ => rfl⟩
    · refine kx_ild5 (pc := 19) C dX8_untangle_19 ?_
      refine kx_iconst (pc := 21) C (v := nI 0) dX8_untangle_21 (by decide) ?_
      refine kx_iconst (pc := 22) C (v := nI 1) dX8_untangle_22 (by decide) ?_
      refine kx_callSI3 (pc := 23) C cs_X8_75 (m_X8_isWithin _ _ _) (by decide) dX8_untangle_23 (Nat.le_of_ble_eq_true rfl) (fun r23 h23 q23 => ?_)
      obtain ⟨z23, rfl⟩ := q23
      have z23 := z23.symm
      subst z23
      refine kx_if_ne (pc := 26) C 31 dX8_untangle_26 (by decide) (fun c26 => ?_) (fun c26 => ?_)
      · have c5 := kx_if1 c5
        have c16 := kx_if1 c16
        have c26 := kx_if1 c26
        rw [show (nI 1).toInt = 1 from rfl, show (nI 16).toInt = 16 from rfl] at c16
        rw [show (nI 0).toInt = 0 from rfl, show (nI 1).toInt = 1 from rfl] at c26
        obtain ⟨j, rfl, hj, hj2⟩ := kx_nat c5.1.1
        obtain ⟨n, rfl, hn, hn2⟩ := kx_nat (x := tn) (by omega)
        refine kx_ald0 (pc := 31) C dX8_untangle_31 ?_
        refine kx_ild1 (pc := 32) C dX8_untangle_32 ?_
        refine kx_ild2 (pc := 33) C dX8_untangle_33 ?_
        refine kx_ild3 (pc := 34) C dX8_untangle_34 ?_
        refine kx_ild4 (pc := 35) C dX8_untangle_35 ?_
        refine kx_bipush (pc := 37) C (v := nI 9) dX8_untangle_37 (by decide) ?_
        refine kx_callVI5 (pc := 39) C cs_X8_211 ob_0 (m_X8_takeItems _ _ hs (show j < 4 by omega) (by omega) (by omega)) (by decide) dX8_untangle_39 (Nat.le_of_ble_eq_true rfl) (fun r39 h39 q39 => ?_)
        obtain ⟨rfl, k1, k2⟩ := q39
        refine kx_ist6 (pc := 42) C dX8_untangle_42 (by decide) rfl ?_
        refine kx_ild6 (pc := 44) C dX8_untangle_44 ?_
        refine kx_if_eq (pc := 46) C 52 dX8_untangle_46 (by decide) (fun c46 => ?_) (fun c46 => ?_)
        · have k1b := k1 c46
          rw [c46]
          exact part j n h39 rfl rfl (by omega) (by omega) (by omega) c26 c5.2 c46 k1b k2
        · refine kx_ild6 (pc := 49) C dX8_untangle_49 ?_
          exact hR dX8_untangle_51 rfl ⟨by rw [sp_unt, if_pos ⟨c5, c16, c26⟩, kx_n, kx_n, kx_n_nI hj2, kx_n_nI hn2, if_neg c46], fun d k h1 h2 => k2 d k h1⟩
      · refine kx_iconst (pc := 29) C (v := -1) dX8_untangle_29 (by decide) ?_
        have nc : ¬ (((0 ≤ tv.toInt ∧ tv.toInt ≤ 3) ∧ 0 ≤ l.toInt ∧ l.toInt ≤ 2) ∧ (1 ≤ tn.toInt ∧ tn.toInt ≤ 16) ∧ 0 ≤ w.toInt ∧ w.toInt ≤ 1) := fun z => by
          first
            | exact kx_if0 c26 z.2.2
            | exact kx_if0 c16 z.2.1
            | exact kx_if0 c5 z.1
        exact hR dX8_untangle_30 rfl ⟨by rw [sp_unt, if_neg nc], fun d k _ _ => rfl⟩
