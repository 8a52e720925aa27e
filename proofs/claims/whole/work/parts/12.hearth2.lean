theorem kx_ifx {α : Type} {c d : Prop} [Decidable c] [Decidable d] (h : c ↔ d) (x y : α) : (if c then x else y) = if d then x else y := by
  by_cases q : c
  · rw [if_pos q, if_pos (h.mp q)]
  · rw [if_neg q, if_neg (fun z => q (h.mpr z))]
def sp_tv (la lb : Nat) (f g : Nat → Nat) (p : Nat) : Nat := if p < 2 * la ∧ p < 2 * lb then (if p % 2 = 0 then f (p / 2) else g (p / 2)) else if lb < la then f (p - lb) else g (p - la)
set_option maxHeartbeats 4000000 in
set_option maxRecDepth 100000 in
theorem m_X2_keepInMind {h : kx_H} {t w n ev : Nat} (hS : h 1 2 = nI n) (hn : n ≤ 4) (hev : h 1 3 = nI ev) (ht : t < 8) (hw : w < 16) : kx_MV 1 yX2_keepInMind cX2_keepInMind 4 [.ref 1, .int (nI t), .int (nI w)] h (fun h1 => (∀ s j, s < 4 → h1 (19 + s) j = if j = t ∧ s < n ∧ w / 2 ^ s % 2 = 1 then nI ev else h (19 + s) j) ∧ ∀ d j, (d < 19 ∨ 23 ≤ d) → h1 d j = h d j) := by
  refine kx_mkV (own := RX2) (L0 := [some (.ref 1), some (.int (nI t)), some (.int (nI w)), none]) rfl (by decide +kernel) (Nat.le_of_ble_eq_true rfl) rfl (fun F C hR => ?_)
  have loop : ∀ (q s : Nat) (g : kx_H), n - s = q → s ≤ n → (∀ u j, u < 4 → g (19 + u) j = if j = t ∧ u < s ∧ w / 2 ^ u % 2 = 1 then nI ev else h (19 + u) j) → (∀ d j, (d < 19 ∨ 23 ≤ d) → g d j = h d j) → F 2 [some (.ref 1), some (.int (nI t)), some (.int (nI w)), some (.int (nI s))] [] g := by
    intro q
    induction q with
    | zero =>
      intro s g hq hs hk hg
      have hS2 : g 1 2 = nI n := by rw [hg 1 2 (by omega)]; exact hS
      refine kx_ild3 (pc := 2) C dX2_keepInMind_2 ?_
      refine kx_ald0 (pc := 3) C dX2_keepInMind_3 ?_
      refine kx_geti (pc := 4) C fl_X2_50 fd_1_2 (by first | assumption | rfl) dX2_keepInMind_4 ?_
      refine kx_icmp_geN (pc := 7) C 36 (by omega) (by omega) dX2_keepInMind_7 (by decide) (fun c7 => ?_) (fun c7 => ?_)
      · exact hR dX2_keepInMind_36 ⟨fun u j hu => by rw [hk u j hu]; rw [show s = n by omega], hg⟩
      · omega
    | succ q ih =>
      intro s g hq hs hk hg
      have hS2 : g 1 2 = nI n := by rw [hg 1 2 (by omega)]; exact hS
      have hev2 : g 1 3 = nI ev := by rw [hg 1 3 (by omega)]; exact hev
      refine kx_ild3 (pc := 2) C dX2_keepInMind_2 ?_
      refine kx_ald0 (pc := 3) C dX2_keepInMind_3 ?_
      refine kx_geti (pc := 4) C fl_X2_50 fd_1_2 (by first | assumption | rfl) dX2_keepInMind_4 ?_
      refine kx_icmp_geN (pc := 7) C 36 (by omega) (by omega) dX2_keepInMind_7 (by decide) (fun c7 => ?_) (fun c7 => ?_)
      · omega
      · refine kx_ild2 (pc := 10) C dX2_keepInMind_10 ?_
        refine kx_ild3 (pc := 11) C dX2_keepInMind_11 ?_
        refine kx_ishr (pc := 12) C dX2_keepInMind_12 ?_
        refine kx_iconst (pc := 13) C (v := nI 1) dX2_keepInMind_13 (by decide) ?_
        refine kx_iand (pc := 14) C dX2_keepInMind_14 ?_
        rw [kx_bit (by omega) (by omega)]
        refine kx_if_eqN (pc := 15) C 30 (by omega) dX2_keepInMind_15 (by decide) (fun c15 => ?_) (fun c15 => ?_)
        · first | refine kx_inc3 (pc := 30) C (v := nI (_ + 1)) dX2_keepInMind_30 (by decide) rfl (nI_1 _) ?_ | refine kx_inc3 (pc := 30) C dX2_keepInMind_30 (by decide) rfl rfl ?_
          refine kx_goto (pc := 33) C 2 dX2_keepInMind_33 (by decide) ?_
          first
            | (refine ih (s + 1) _ (by omega) (by omega) (fun u j hu => ?_) hg
               rw [hk u j hu]
               by_cases hus : u = s
               · subst hus
                 rw [if_neg (by omega), if_neg (by omega)]
               · exact kx_ifx (by omega) _ _)
            | (refine ih (s + 1) _ (by omega) (by omega) (fun u j hu => ?_) (fun d j hd => by rw [kx_up, if_neg (by omega)]; exact hg d j hd)
               by_cases hus : u = s
               · subst hus
                 by_cases hj : j = t
                 · subst hj
                   rw [kx_up, if_pos ⟨rfl, rfl⟩, if_pos (by omega)]
                 · rw [kx_up, if_neg (by omega), hk u j hu, if_neg (by omega), if_neg (by omega)]
               · rw [kx_up, if_neg (by omega), hk u j hu]
                 exact kx_ifx (by omega) _ _)
        · refine kx_ald0 (pc := 18) C dX2_keepInMind_18 ?_
          refine kx_getr (pc := 19) C fl_X2_30 fd_1_9 dX2_keepInMind_19 ?_
          refine kx_ild3 (pc := 22) C dX2_keepInMind_22 ?_
          refine kx_aald1 (pc := 23) C ra_18 (by omega) dX2_keepInMind_23 ?_
          refine kx_ild1 (pc := 24) C dX2_keepInMind_24 ?_
          refine kx_ald0 (pc := 25) C dX2_keepInMind_25 ?_
          refine kx_geti (pc := 26) C fl_X2_80 fd_1_3 (by first | assumption | rfl) dX2_keepInMind_26 ?_
          refine kx_iast (pc := 29) C (if_hrd _ (by omega)) (by omega) dX2_keepInMind_29 ?_
          first | refine kx_inc3 (pc := 30) C (v := nI (_ + 1)) dX2_keepInMind_30 (by decide) rfl (nI_1 _) ?_ | refine kx_inc3 (pc := 30) C dX2_keepInMind_30 (by decide) rfl rfl ?_
          refine kx_goto (pc := 33) C 2 dX2_keepInMind_33 (by decide) ?_
          first
            | (refine ih (s + 1) _ (by omega) (by omega) (fun u j hu => ?_) hg
               rw [hk u j hu]
               by_cases hus : u = s
               · subst hus
                 rw [if_neg (by omega), if_neg (by omega)]
               · exact kx_ifx (by omega) _ _)
            | (refine ih (s + 1) _ (by omega) (by omega) (fun u j hu => ?_) (fun d j hd => by rw [kx_up, if_neg (by omega)]; exact hg d j hd)
               by_cases hus : u = s
               · subst hus
                 by_cases hj : j = t
                 · subst hj
                   rw [kx_up, if_pos ⟨rfl, rfl⟩, if_pos (by omega)]
                 · rw [kx_up, if_neg (by omega), hk u j hu, if_neg (by omega), if_neg (by omega)]
               · rw [kx_up, if_neg (by omega), hk u j hu]
                 exact kx_ifx (by omega) _ _)
  refine kx_iconst (pc := 0) C (v := nI 0) dX2_keepInMind_0 (by decide) ?_
  refine kx_ist3 (pc := 1) C dX2_keepInMind_1 (by decide) rfl ?_
  exact loop n 0 h (by omega) (by omega) (fun u j hu => by rw [if_neg (by omega)]) (fun d j _ => rfl)
set_option maxHeartbeats 4000000 in
set_option maxRecDepth 100000 in
theorem m_X2_tangleInto {h : kx_H} {a : Nat → Nat} {x y : Nat} (hRD : st_RD 2 4 12 h a) (hRB : st_RB a) (hx : x < 8) (hy : y < 8) : kx_MI 1 yX2_tangleInto cX2_tangleInto 6 .int [.ref 1, .ref 57, .int (nI x), .int (nI y)] h (fun r h1 => r = nI (a (81 + x) + a (81 + y)) ∧ (∀ p, p < a (81 + x) + a (81 + y) → h1 57 p = nI (sp_tv (a (81 + x)) (a (81 + y)) (fun i => a (9 + 9 * x + i)) (fun i => a (9 + 9 * y + i)) p)) ∧ ∀ d j, d ≠ 57 → h1 d j = h d j) := by
  refine kx_mkI (own := RX2) (L0 := [some (.ref 1), some (.ref 57), some (.int (nI x)), some (.int (nI y)), none, none]) rfl (by decide +kernel) (Nat.le_of_ble_eq_true rfl) rfl (fun F C hR => ?_)
  have bx := hRB.1 x hx
  have by_ := hRB.1 y hy
  generalize hla : a (81 + x) = la at *
  generalize hlb : a (81 + y) = lb at *
  have loop : ∀ (q i : Nat) (g : kx_H), 9 - i = q → i ≤ 9 → (∀ p, p < min i la + min i lb → g 57 p = nI (sp_tv la lb (fun i => a (9 + 9 * x + i)) (fun i => a (9 + 9 * y + i)) p)) → (∀ d j, d ≠ 57 → g d j = h d j) → F 6 [some (.ref 1), some (.ref 57), some (.int (nI x)), some (.int (nI y)), some (.int (nI (min i la + min i lb))), some (.int (nI i))] [] g := by
    intro q
    induction q with
    | zero =>
      intro i g hq hi hk hg
      refine kx_ild5 (pc := 6) C dX2_tangleInto_6 ?_
      refine kx_bipush (pc := 8) C (v := nI 9) dX2_tangleInto_8 (by decide) ?_
      refine kx_icmp_geN (pc := 10) C 73 (by omega) (by omega) dX2_tangleInto_10 (by decide) (fun c10 => ?_) (fun c10 => ?_)
      · refine kx_ild4 (pc := 73) C dX2_tangleInto_73 ?_
        exact hR dX2_tangleInto_75 rfl ⟨by rw [show min i la + min i lb = la + lb by omega], fun p hp => hk p (by omega), hg⟩
      · omega
    | succ q ih =>
      intro i g hq hi hk hg
      have hrd : st_RD 2 4 12 g a := hRD.kept (c := 57) hg (by omega) (by omega) (by omega)
      obtain ⟨hlen, hten, -⟩ := hrd
      have l1 : g 2 x = nI la := by rw [hlen x hx, hla]
      have l2 : g 2 y = nI lb := by rw [hlen y hy, hlb]
      have key : ∀ (n : Nat) (g2 : kx_H), n = min (i + 1) la + min i lb → (∀ p, p < n → g2 57 p = nI (sp_tv la lb (fun i => a (9 + 9 * x + i)) (fun i => a (9 + 9 * y + i)) p)) → (∀ d j, d ≠ 57 → g2 d j = h d j) → F 40 [some (.ref 1), some (.ref 57), some (.int (nI x)), some (.int (nI y)), some (.int (nI n)), some (.int (nI i))] [] g2 := by
        intro n g2 hn hk2 hg2
        have m2 : g2 2 y = nI lb := by rw [hg2 2 y (by omega), ← hg 2 y (by omega)]; exact l2
        have m3 : ∀ j, j < 9 → g2 (4 + y) j = nI (a (9 + 9 * y + j)) := fun j hj => by rw [hg2 _ _ (by omega), ← hg _ _ (by omega)]; exact hten y j hy hj
        refine kx_ild5 (pc := 40) C dX2_tangleInto_40 ?_
        refine kx_ald0 (pc := 42) C dX2_tangleInto_42 ?_
        refine kx_getr (pc := 43) C fl_X2_15 fd_1_5 dX2_tangleInto_43 ?_
        refine kx_ild3 (pc := 46) C dX2_tangleInto_46 ?_
        refine kx_iald (pc := 47) C ia_2 (by omega) (by first | assumption | exact m3 _ (by omega) | rfl) dX2_tangleInto_47 ?_
        refine kx_icmp_geN (pc := 48) C 67 (by omega) (by omega) dX2_tangleInto_48 (by decide) (fun c48 => ?_) (fun c48 => ?_)
        · first | refine kx_inc5 (pc := 67) C (v := nI (_ + 1)) dX2_tangleInto_67 (by decide) rfl (nI_1 _) ?_ | refine kx_inc5 (pc := 67) C dX2_tangleInto_67 (by decide) rfl rfl ?_
          refine kx_goto (pc := 70) C 6 dX2_tangleInto_70 (by decide) ?_
          first
            | (have e : n = min (i + 1) la + min (i + 1) lb := by omega
               rw [e]
               exact ih (i + 1) _ (by omega) (by omega) (fun p hp => hk2 p (by omega)) hg2)
            | (have e : n + 1 = min (i + 1) la + min (i + 1) lb := by omega
               rw [e]
               refine ih (i + 1) _ (by omega) (by omega) (fun p hp => ?_) (fun d j hd => by rw [kx_up, if_neg (by omega)]; exact hg2 d j hd)
               by_cases hpn : p = n
               · subst hpn
                 rw [kx_up, if_pos ⟨rfl, rfl⟩]
                 congr 1
                 unfold sp_tv
                 by_cases h1 : i < la
                 · rw [if_pos (by omega), if_neg (by omega), show p / 2 = i by omega]
                 · rw [if_neg (by omega), if_neg (by omega), show p - la = i by omega]
               · rw [kx_up, if_neg (by omega)]
                 exact hk2 p (by omega))
        · refine kx_ald1 (pc := 51) C dX2_tangleInto_51 ?_
          refine kx_ild4 (pc := 52) C dX2_tangleInto_52 ?_
          first | refine kx_inc4 (pc := 54) C (v := nI (_ + 1)) dX2_tangleInto_54 (by decide) rfl (nI_1 _) ?_ | refine kx_inc4 (pc := 54) C dX2_tangleInto_54 (by decide) rfl rfl ?_
          refine kx_ald0 (pc := 57) C dX2_tangleInto_57 ?_
          refine kx_getr (pc := 58) C fl_X2_21 fd_1_6 dX2_tangleInto_58 ?_
          refine kx_ild3 (pc := 61) C dX2_tangleInto_61 ?_
          refine kx_aald1 (pc := 62) C ra_3 (by omega) dX2_tangleInto_62 ?_
          refine kx_ild5 (pc := 63) C dX2_tangleInto_63 ?_
          refine kx_iald (pc := 65) C (if_ten _ (by omega)) (by omega) (by first | assumption | exact m3 _ (by omega) | rfl) dX2_tangleInto_65 ?_
          refine kx_iast (pc := 66) C ia_57 (by omega) dX2_tangleInto_66 ?_
          first | refine kx_inc5 (pc := 67) C (v := nI (_ + 1)) dX2_tangleInto_67 (by decide) rfl (nI_1 _) ?_ | refine kx_inc5 (pc := 67) C dX2_tangleInto_67 (by decide) rfl rfl ?_
          refine kx_goto (pc := 70) C 6 dX2_tangleInto_70 (by decide) ?_
          first
            | (have e : n = min (i + 1) la + min (i + 1) lb := by omega
               rw [e]
               exact ih (i + 1) _ (by omega) (by omega) (fun p hp => hk2 p (by omega)) hg2)
            | (have e : n + 1 = min (i + 1) la + min (i + 1) lb := by omega
               rw [e]
               refine ih (i + 1) _ (by omega) (by omega) (fun p hp => ?_) (fun d j hd => by rw [kx_up, if_neg (by omega)]; exact hg2 d j hd)
               by_cases hpn : p = n
               · subst hpn
                 rw [kx_up, if_pos ⟨rfl, rfl⟩]
                 congr 1
                 unfold sp_tv
                 by_cases h1 : i < la
                 · rw [if_pos (by omega), if_neg (by omega), show p / 2 = i by omega]
                 · rw [if_neg (by omega), if_neg (by omega), show p - la = i by omega]
               · rw [kx_up, if_neg (by omega)]
                 exact hk2 p (by omega))
      refine kx_ild5 (pc := 6) C dX2_tangleInto_6 ?_
      refine kx_bipush (pc := 8) C (v := nI 9) dX2_tangleInto_8 (by decide) ?_
      refine kx_icmp_geN (pc := 10) C 73 (by omega) (by omega) dX2_tangleInto_10 (by decide) (fun c10 => ?_) (fun c10 => ?_)
      · omega
      · refine kx_ild5 (pc := 13) C dX2_tangleInto_13 ?_
        refine kx_ald0 (pc := 15) C dX2_tangleInto_15 ?_
        refine kx_getr (pc := 16) C fl_X2_15 fd_1_5 dX2_tangleInto_16 ?_
        refine kx_ild2 (pc := 19) C dX2_tangleInto_19 ?_
        refine kx_iald (pc := 20) C ia_2 (by omega) (by first | assumption | exact hten _ _ (by omega) (by omega) | rfl) dX2_tangleInto_20 ?_
        refine kx_icmp_geN (pc := 21) C 40 (by omega) (by omega) dX2_tangleInto_21 (by decide) (fun c21 => ?_) (fun c21 => ?_)
        · first
            | exact key _ _ (by omega) (fun p hp => hk p (by omega)) hg
            | (refine key _ _ (by omega) (fun p hp => ?_) (fun d j hd => by rw [kx_up, if_neg (by omega)]; exact hg d j hd)
               by_cases hpn : p = min i la + min i lb
               · subst hpn
                 rw [kx_up, if_pos ⟨rfl, rfl⟩]
                 congr 1
                 unfold sp_tv
                 by_cases h1 : i < lb
                 · rw [if_pos (by omega), if_pos (by omega), show (min i la + min i lb) / 2 = i by omega]
                 · rw [if_neg (by omega), if_pos (by omega), show min i la + min i lb - lb = i by omega]
               · rw [kx_up, if_neg (by omega)]
                 exact hk p (by omega))
        · refine kx_ald1 (pc := 24) C dX2_tangleInto_24 ?_
          refine kx_ild4 (pc := 25) C dX2_tangleInto_25 ?_
          first | refine kx_inc4 (pc := 27) C (v := nI (_ + 1)) dX2_tangleInto_27 (by decide) rfl (nI_1 _) ?_ | refine kx_inc4 (pc := 27) C dX2_tangleInto_27 (by decide) rfl rfl ?_
          refine kx_ald0 (pc := 30) C dX2_tangleInto_30 ?_
          refine kx_getr (pc := 31) C fl_X2_21 fd_1_6 dX2_tangleInto_31 ?_
          refine kx_ild2 (pc := 34) C dX2_tangleInto_34 ?_
          refine kx_aald1 (pc := 35) C ra_3 (by omega) dX2_tangleInto_35 ?_
          refine kx_ild5 (pc := 36) C dX2_tangleInto_36 ?_
          refine kx_iald (pc := 38) C (if_ten _ (by omega)) (by omega) (by first | assumption | exact hten _ _ (by omega) (by omega) | rfl) dX2_tangleInto_38 ?_
          refine kx_iast (pc := 39) C ia_57 (by omega) dX2_tangleInto_39 ?_
          first
            | exact key _ _ (by omega) (fun p hp => hk p (by omega)) hg
            | (refine key _ _ (by omega) (fun p hp => ?_) (fun d j hd => by rw [kx_up, if_neg (by omega)]; exact hg d j hd)
               by_cases hpn : p = min i la + min i lb
               · subst hpn
                 rw [kx_up, if_pos ⟨rfl, rfl⟩]
                 congr 1
                 unfold sp_tv
                 by_cases h1 : i < lb
                 · rw [if_pos (by omega), if_pos (by omega), show (min i la + min i lb) / 2 = i by omega]
                 · rw [if_neg (by omega), if_pos (by omega), show min i la + min i lb - lb = i by omega]
               · rw [kx_up, if_neg (by omega)]
                 exact hk p (by omega))
  refine kx_iconst (pc := 0) C (v := nI 0) dX2_tangleInto_0 (by decide) ?_
  refine kx_ist4 (pc := 1) C dX2_tangleInto_1 (by decide) rfl ?_
  refine kx_iconst (pc := 3) C (v := nI 0) dX2_tangleInto_3 (by decide) ?_
  refine kx_ist5 (pc := 4) C dX2_tangleInto_4 (by decide) rfl ?_
  exact loop 9 0 h (by omega) (by omega) (fun p hp => absurd hp (by omega)) (fun d j _ => rfl)
set_option maxHeartbeats 4000000 in
set_option maxRecDepth 100000 in
theorem m_X2_addTale {h : kx_H} {T n : Nat} (hT : h 1 0 = nI T) (hT8 : T < 8) (hn : n ≤ 9) : kx_MI 2 yX2_addTale cX2_addTale 3 .int [.ref 1, .ref 56, .int (nI n)] h (fun r h1 => r = nI T ∧ h1 = kx_up (kx_up (kx_cp h 56 (4 + T) 0 0 n) 2 T (nI n)) 1 0 (nI (T + 1))) := by
  refine kx_mkI (own := RX2) (L0 := [some (.ref 1), some (.ref 56), some (.int (nI n))]) rfl (by decide +kernel) (Nat.le_of_ble_eq_true rfl) rfl (fun F C hR => ?_)
  refine kx_ald1 (pc := 0) C dX2_addTale_0 ?_
  refine kx_iconst (pc := 1) C (v := nI 0) dX2_addTale_1 (by decide) ?_
  refine kx_ald0 (pc := 2) C dX2_addTale_2 ?_
  refine kx_getr (pc := 3) C fl_X2_21 fd_1_6 dX2_addTale_3 ?_
  refine kx_ald0 (pc := 6) C dX2_addTale_6 ?_
  refine kx_geti (pc := 7) C fl_X2_36 fd_1_0 (by first | assumption | rfl) dX2_addTale_7 ?_
  refine kx_aald1 (pc := 10) C ra_3 (by omega) dX2_addTale_10 ?_
  refine kx_iconst (pc := 11) C (v := nI 0) dX2_addTale_11 (by decide) ?_
  refine kx_ild2 (pc := 12) C dX2_addTale_12 ?_
  refine kx_cpy (pc := 13) C ac_X2_53 ia_56 (if_ten _ (by omega)) (by decide) (by omega) (by omega) (Nat.le_of_ble_eq_true rfl) dX2_addTale_13 ?_
  have e1 : kx_cp h 56 (4 + T) 0 0 n 1 0 = nI T := by rw [kx_cp, if_neg (by omega)]; exact hT
  refine kx_ald0 (pc := 16) C dX2_addTale_16 ?_
  refine kx_getr (pc := 17) C fl_X2_15 fd_1_5 dX2_addTale_17 ?_
  refine kx_ald0 (pc := 20) C dX2_addTale_20 ?_
  refine kx_geti (pc := 21) C fl_X2_36 fd_1_0 (by first | assumption | rfl) dX2_addTale_21 ?_
  refine kx_ild2 (pc := 24) C dX2_addTale_24 ?_
  refine kx_iast (pc := 25) C ia_2 (by omega) dX2_addTale_25 ?_
  have e2 : kx_up (kx_cp h 56 (4 + T) 0 0 n) 2 T (nI n) 1 0 = nI T := by rw [kx_up, if_neg (by omega)]; exact e1
  refine kx_ald0 (pc := 26) C dX2_addTale_26 ?_
  refine kx_dup (pc := 27) C dX2_addTale_27 rfl ?_
  refine kx_geti (pc := 28) C fl_X2_36 fd_1_0 (by first | assumption | rfl) dX2_addTale_28 ?_
  refine kx_dup_x1 (pc := 31) C dX2_addTale_31 rfl rfl ?_
  refine kx_iconst (pc := 32) C (v := nI 1) dX2_addTale_32 (by decide) ?_
  first | refine kx_iaddN (pc := 33) C dX2_addTale_33 ?_ | refine kx_iadd (pc := 33) C dX2_addTale_33 ?_
  refine kx_puti (pc := 34) C fl_X2_36 fp_X2_0 fd_1_0 rfl rfl dX2_addTale_34 ?_
  exact hR dX2_addTale_37 rfl (⟨rfl, rfl⟩)
