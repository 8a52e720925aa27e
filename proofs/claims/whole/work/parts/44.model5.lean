theorem sp_tv_f {la lb : Nat} {f g : Nat → Nat} {i : Nat} (h : i < la) : sp_tv la lb f g (i + min i lb) = f i := by
  unfold sp_tv
  by_cases z : i < lb
  · rw [if_pos (by omega), if_pos (by omega), show (i + min i lb) / 2 = i by omega]
  · rw [if_neg (by omega), if_pos (by omega), show i + min i lb - lb = i by omega]
theorem sp_tv_g {la lb : Nat} {f g : Nat → Nat} {i : Nat} (h : i < lb) : sp_tv la lb f g (min (i + 1) la + i) = g i := by
  unfold sp_tv
  by_cases z : i < la
  · rw [if_pos (by omega), if_neg (by omega), show (min (i + 1) la + i) / 2 = i by omega]
  · rw [if_neg (by omega), if_neg (by omega), show min (i + 1) la + i - la = i by omega]
set_option maxHeartbeats 4000000 in
set_option maxRecDepth 100000 in
theorem m_X9_tangles {h : kx_H} {a : Nat → Nat} {x y : Nat} (hM : ∀ k, k < 141 → k ≠ 4 → k ≠ 5 → k ≠ 6 → h 128 k = nI (a k)) (hRB : st_RB a) (hx : x < 8) (hy : y < 8) : kx_MI 1 yX9_tangles cX9_tangles 5 .int [.ref 127, .int (nI x), .int (nI y)] h (fun r h1 => r = nI (a (81 + x) + a (81 + y)) ∧ (∀ p, p < a (81 + x) + a (81 + y) → h1 139 p = nI (sp_tg a x y p)) ∧ ∀ d j, d ≠ 139 → h1 d j = h d j) := by
  refine kx_mkI (own := RX9) (L0 := [some (.ref 127), some (.int (nI x)), some (.int (nI y)), none, none]) rfl (by decide +kernel) (Nat.le_of_ble_eq_true rfl) rfl (fun F C hR => ?_)
  have lx := hRB.1 x hx
  have ly := hRB.1 y hy
  have loop : ∀ (q i : Nat) (g : kx_H), 9 - i = q → i ≤ 9 → (∀ p, p < min i (a (81 + x)) + min i (a (81 + y)) → g 139 p = nI (sp_tg a x y p)) → (∀ d j, d ≠ 139 → g d j = h d j) → F 5 [some (.ref 127), some (.int (nI x)), some (.int (nI y)), some (.int (nI (min i (a (81 + x)) + min i (a (81 + y))))), some (.int (nI i))] [] g := by
    intro q
    induction q with
    | zero =>
      intro i g hq hi g1 g2
      have ei : i = 9 := by omega
      subst ei
      rw [show min 9 (a (81 + x)) = a (81 + x) by omega, show min 9 (a (81 + y)) = a (81 + y) by omega] at g1 ⊢
      refine kx_ild4 (pc := 5) C dX9_tangles_5 ?_
      refine kx_bipush (pc := 7) C (v := nI 9) dX9_tangles_7 (by decide) ?_
      refine kx_icmp_geN (pc := 9) C 94 (by omega) (by omega) dX9_tangles_9 (by decide) (fun c9 => ?_) (fun c9 => ?_)
      · refine kx_ild3 (pc := 94) C dX9_tangles_94 ?_
        exact hR dX9_tangles_95 rfl ⟨rfl, g1, g2⟩
      · omega
    | succ q ih =>
      intro i g hq hi g1 g2
      have mid : ∀ g : kx_H, (∀ p, p < min (i + 1) (a (81 + x)) + min i (a (81 + y)) → g 139 p = nI (sp_tg a x y p)) → (∀ d j, d ≠ 139 → g d j = h d j) → F 50 [some (.ref 127), some (.int (nI x)), some (.int (nI y)), some (.int (nI (min (i + 1) (a (81 + x)) + min i (a (81 + y))))), some (.int (nI i))] [] g := by
        intro g g1 g2
        have ey : g 128 (81 + y) = nI (a (81 + y)) := by rw [g2 _ _ (by omega)]; exact hM _ (by omega) (by omega) (by omega) (by omega)
        have ez : g 128 (9 + 9 * y + i) = nI (a (9 + 9 * y + i)) := by rw [g2 _ _ (by omega)]; exact hM _ (by omega) (by omega) (by omega) (by omega)
        have h3 := ih (i + 1)
        refine kx_ild4 (pc := 50) C dX9_tangles_50 ?_
        refine kx_ald0 (pc := 52) C dX9_tangles_52 ?_
        refine kx_getr (pc := 53) C fl_X9_7 fd_127_0 dX9_tangles_53 ?_
        refine kx_bipush (pc := 56) C (v := nI 81) dX9_tangles_56 (by decide) ?_
        refine kx_ild2 (pc := 58) C dX9_tangles_58 ?_
        first | refine kx_iaddN (pc := 59) C dX9_tangles_59 ?_ | refine kx_iadd (pc := 59) C dX9_tangles_59 ?_
        refine kx_iald (pc := 60) C ia_128 (by omega) ey dX9_tangles_60 ?_
        refine kx_icmp_geN (pc := 61) C 88 (by omega) (by omega) dX9_tangles_61 (by decide) (fun c61 => ?_) (fun c61 => ?_)
        · first | refine kx_inc4 (pc := 88) C (v := nI (_ + 1)) dX9_tangles_88 (by decide) rfl (nI_1 _) ?_ | refine kx_inc4 (pc := 88) C dX9_tangles_88 (by decide) rfl rfl ?_
          refine kx_goto (pc := 91) C 5 dX9_tangles_91 (by decide) ?_
          first
            | (rw [show min (i + 1) (a (81 + y)) = min i (a (81 + y)) + 1 by omega] at h3
               rw [Nat.add_assoc]
               refine h3 _ (by omega) (by omega) (fun p hp => ?_) (fun d j hd => by rw [kx_up, if_neg (by omega)]; exact g2 d j hd)
               by_cases z : p = min (i + 1) (a (81 + x)) + min i (a (81 + y))
               · rw [kx_up, if_pos ⟨rfl, z⟩, z, sp_tg, show min i (a (81 + y)) = i by omega, sp_tv_g (by omega)]
               · rw [kx_up, if_neg (by omega)]; exact g1 p (by omega))
            | (rw [show min (i + 1) (a (81 + y)) = min i (a (81 + y)) by omega] at h3
               exact h3 g (by omega) (by omega) g1 g2)
        · refine kx_ald0 (pc := 64) C dX9_tangles_64 ?_
          refine kx_getr (pc := 65) C fl_X9_43 fd_127_13 dX9_tangles_65 ?_
          refine kx_ild3 (pc := 68) C dX9_tangles_68 ?_
          refine kx_ald0 (pc := 69) C dX9_tangles_69 ?_
          refine kx_getr (pc := 70) C fl_X9_7 fd_127_0 dX9_tangles_70 ?_
          refine kx_bipush (pc := 73) C (v := nI 9) dX9_tangles_73 (by decide) ?_
          refine kx_bipush (pc := 75) C (v := nI 9) dX9_tangles_75 (by decide) ?_
          refine kx_ild2 (pc := 77) C dX9_tangles_77 ?_
          first | refine kx_imulN (pc := 78) C dX9_tangles_78 ?_ | refine kx_imul (pc := 78) C dX9_tangles_78 ?_
          first | refine kx_iaddN (pc := 79) C dX9_tangles_79 ?_ | refine kx_iadd (pc := 79) C dX9_tangles_79 ?_
          refine kx_ild4 (pc := 80) C dX9_tangles_80 ?_
          first | refine kx_iaddN (pc := 82) C dX9_tangles_82 ?_ | refine kx_iadd (pc := 82) C dX9_tangles_82 ?_
          refine kx_iald (pc := 83) C ia_128 (by omega) ez dX9_tangles_83 ?_
          refine kx_iast (pc := 84) C ia_139 (by omega) dX9_tangles_84 ?_
          first | refine kx_inc3 (pc := 85) C (v := nI (_ + 1)) dX9_tangles_85 (by decide) rfl (nI_1 _) ?_ | refine kx_inc3 (pc := 85) C dX9_tangles_85 (by decide) rfl rfl ?_
          first | refine kx_inc4 (pc := 88) C (v := nI (_ + 1)) dX9_tangles_88 (by decide) rfl (nI_1 _) ?_ | refine kx_inc4 (pc := 88) C dX9_tangles_88 (by decide) rfl rfl ?_
          refine kx_goto (pc := 91) C 5 dX9_tangles_91 (by decide) ?_
          first
            | (rw [show min (i + 1) (a (81 + y)) = min i (a (81 + y)) + 1 by omega] at h3
               rw [Nat.add_assoc]
               refine h3 _ (by omega) (by omega) (fun p hp => ?_) (fun d j hd => by rw [kx_up, if_neg (by omega)]; exact g2 d j hd)
               by_cases z : p = min (i + 1) (a (81 + x)) + min i (a (81 + y))
               · rw [kx_up, if_pos ⟨rfl, z⟩, z, sp_tg, show min i (a (81 + y)) = i by omega, sp_tv_g (by omega)]
               · rw [kx_up, if_neg (by omega)]; exact g1 p (by omega))
            | (rw [show min (i + 1) (a (81 + y)) = min i (a (81 + y)) by omega] at h3
               exact h3 g (by omega) (by omega) g1 g2)
      have ex : g 128 (81 + x) = nI (a (81 + x)) := by rw [g2 _ _ (by omega)]; exact hM _ (by omega) (by omega) (by omega) (by omega)
      have ez : g 128 (9 + 9 * x + i) = nI (a (9 + 9 * x + i)) := by rw [g2 _ _ (by omega)]; exact hM _ (by omega) (by omega) (by omega) (by omega)
      refine kx_ild4 (pc := 5) C dX9_tangles_5 ?_
      refine kx_bipush (pc := 7) C (v := nI 9) dX9_tangles_7 (by decide) ?_
      refine kx_icmp_geN (pc := 9) C 94 (by omega) (by omega) dX9_tangles_9 (by decide) (fun c9 => ?_) (fun c9 => ?_)
      · omega
      · refine kx_ild4 (pc := 12) C dX9_tangles_12 ?_
        refine kx_ald0 (pc := 14) C dX9_tangles_14 ?_
        refine kx_getr (pc := 15) C fl_X9_7 fd_127_0 dX9_tangles_15 ?_
        refine kx_bipush (pc := 18) C (v := nI 81) dX9_tangles_18 (by decide) ?_
        refine kx_ild1 (pc := 20) C dX9_tangles_20 ?_
        first | refine kx_iaddN (pc := 21) C dX9_tangles_21 ?_ | refine kx_iadd (pc := 21) C dX9_tangles_21 ?_
        refine kx_iald (pc := 22) C ia_128 (by omega) ex dX9_tangles_22 ?_
        refine kx_icmp_geN (pc := 23) C 50 (by omega) (by omega) dX9_tangles_23 (by decide) (fun c23 => ?_) (fun c23 => ?_)
        · first
            | (rw [show min i (a (81 + x)) + min i (a (81 + y)) + 1 = min (i + 1) (a (81 + x)) + min i (a (81 + y)) by omega]
               refine mid _ (fun p hp => ?_) (fun d j hd => by rw [kx_up, if_neg (by omega)]; exact g2 d j hd)
               by_cases z : p = min i (a (81 + x)) + min i (a (81 + y))
               · rw [kx_up, if_pos ⟨rfl, z⟩, z, sp_tg, show min i (a (81 + x)) = i by omega, sp_tv_f (by omega)]
               · rw [kx_up, if_neg (by omega)]; exact g1 p (by omega))
            | (rw [show min i (a (81 + x)) = min (i + 1) (a (81 + x)) by omega] at g1 ⊢
               exact mid g g1 g2)
        · refine kx_ald0 (pc := 26) C dX9_tangles_26 ?_
          refine kx_getr (pc := 27) C fl_X9_43 fd_127_13 dX9_tangles_27 ?_
          refine kx_ild3 (pc := 30) C dX9_tangles_30 ?_
          refine kx_ald0 (pc := 31) C dX9_tangles_31 ?_
          refine kx_getr (pc := 32) C fl_X9_7 fd_127_0 dX9_tangles_32 ?_
          refine kx_bipush (pc := 35) C (v := nI 9) dX9_tangles_35 (by decide) ?_
          refine kx_bipush (pc := 37) C (v := nI 9) dX9_tangles_37 (by decide) ?_
          refine kx_ild1 (pc := 39) C dX9_tangles_39 ?_
          first | refine kx_imulN (pc := 40) C dX9_tangles_40 ?_ | refine kx_imul (pc := 40) C dX9_tangles_40 ?_
          first | refine kx_iaddN (pc := 41) C dX9_tangles_41 ?_ | refine kx_iadd (pc := 41) C dX9_tangles_41 ?_
          refine kx_ild4 (pc := 42) C dX9_tangles_42 ?_
          first | refine kx_iaddN (pc := 44) C dX9_tangles_44 ?_ | refine kx_iadd (pc := 44) C dX9_tangles_44 ?_
          refine kx_iald (pc := 45) C ia_128 (by omega) ez dX9_tangles_45 ?_
          refine kx_iast (pc := 46) C ia_139 (by omega) dX9_tangles_46 ?_
          first | refine kx_inc3 (pc := 47) C (v := nI (_ + 1)) dX9_tangles_47 (by decide) rfl (nI_1 _) ?_ | refine kx_inc3 (pc := 47) C dX9_tangles_47 (by decide) rfl rfl ?_
          first
            | (rw [show min i (a (81 + x)) + min i (a (81 + y)) + 1 = min (i + 1) (a (81 + x)) + min i (a (81 + y)) by omega]
               refine mid _ (fun p hp => ?_) (fun d j hd => by rw [kx_up, if_neg (by omega)]; exact g2 d j hd)
               by_cases z : p = min i (a (81 + x)) + min i (a (81 + y))
               · rw [kx_up, if_pos ⟨rfl, z⟩, z, sp_tg, show min i (a (81 + x)) = i by omega, sp_tv_f (by omega)]
               · rw [kx_up, if_neg (by omega)]; exact g1 p (by omega))
            | (rw [show min i (a (81 + x)) = min (i + 1) (a (81 + x)) by omega] at g1 ⊢
               exact mid g g1 g2)
  refine kx_iconst (pc := 0) C (v := nI 0) dX9_tangles_0 (by decide) ?_
  refine kx_ist3 (pc := 1) C dX9_tangles_1 (by decide) rfl ?_
  refine kx_iconst (pc := 2) C (v := nI 0) dX9_tangles_2 (by decide) ?_
  refine kx_ist4 (pc := 3) C dX9_tangles_3 (by decide) rfl ?_
  have h3 := loop 9 0 h (by omega) (by omega) (fun p hp => absurd hp (by omega)) (fun d j _ => rfl)
  rw [show min 0 (a (81 + x)) + min 0 (a (81 + y)) = 0 by omega] at h3
  exact h3
set_option maxHeartbeats 4000000 in
set_option maxRecDepth 100000 in
theorem m_X9_tangle {h : kx_H} {a sl sn : Nat → Nat} {it : kx_H} (tx ty tv tl ti : Int32) (hH : st_MH 128 h a) (hB : st_B a) (hs : st_MS h sl sn it) : kx_MI 3 yX9_tangle cX9_tangle 9 .int [.ref 127, .int tx, .int ty, .int tv, .int tl, .int ti] h (fun r h1 => r = sp_tangle a sl sn tx ty tv tl ti ∧ st_MS h1 sl sn (sp_tangleI a sl sn it tx ty tv tl ti) ∧ ∀ d k, d ≠ 133 → d ≠ 139 → h1 d k = h d k) := by
  refine kx_mkI (own := RX9) (L0 := [some (.ref 127), some (.int tx), some (.int ty), some (.int tv), some (.int tl), some (.int ti), none, none, none]) rfl (by decide +kernel) (Nat.le_of_ble_eq_true rfl) rfl (fun F C hR => ?_)
  obtain ⟨hM, hMB⟩ := id hH
  obtain ⟨⟨b0, b1, b2, b3, b8, b8'⟩, hRB, bl, byy, bh, bz, bb⟩ := id hB
  have hl9 := hRB.1
  have hT : h 128 0 = nI (a 0) := hM 0 (by omega) (by omega) (by omega) (by omega)
  have hE : h 128 1 = nI (a 1) := hM 1 (by omega) (by omega) (by omega) (by omega)
  have hS : h 128 2 = nI (a 2) := hM 2 (by omega) (by omega) (by omega) (by omega)
  have hev : h 128 3 = nI (a 3) := hM 3 (by omega) (by omega) (by omega) (by omega)
  have hme : h 128 8 = nI (a 8) := hM 8 (by omega) (by omega) (by omega) (by omega)
  have loop : ∀ (x y j i : Nat), tx = nI x → ty = nI y → tv = nI j → ti = nI i → x < 8 → y < 8 → j < 4 → i < 2 ^ 31 → i + (a (81 + x) + a (81 + y)) ≤ 24 → ((0 ≤ tx.toInt ∧ tx.toInt < (a 0 : Int)) ∧ (0 ≤ ty.toInt ∧ ty.toInt < (a 0 : Int)) ∧ ¬ tx = ty ∧ (0 ≤ tv.toInt ∧ tv.toInt ≤ 3) ∧ 0 ≤ tl.toInt ∧ tl.toInt ≤ 2) ∧ sp_ref sl sn j tl (nI i) ((a (81 + x) + a (81 + y) : Nat) : Int) = 0 → ∀ (q k : Nat) (g : kx_H), a (81 + x) + a (81 + y) - k = q → k ≤ a (81 + x) + a (81 + y) → (∀ p, p < a (81 + x) + a (81 + y) → g 139 p = nI (sp_tg a x y p)) → (∀ p, p < 24 → g 133 (24 * j + p) = if i ≤ p ∧ p < i + k then nI (sp_tg a x y (p - i)) else it j p) → (∀ p, p < 24 * j ∨ 24 * j + 24 ≤ p → g 133 p = h 133 p) → (∀ d p, d ≠ 133 → d ≠ 139 → g d p = h d p) → F 64 [some (.ref 127), some (.int (nI x)), some (.int (nI y)), some (.int (nI j)), some (.int tl), some (.int (nI i)), some (.int (nI (a (81 + x) + a (81 + y)))), some (.int 0), some (.int (nI k))] [] g := by
    intro x y j i e1 e2 e3 e4 hx hy hj hi2 hin cok q
    subst e1; subst e2; subst e3; subst e4
    have lx := hl9 x hx
    have ly := hl9 y hy
    induction q with
    | zero =>
      intro k g hq hk g1 g2 g3 g4
      refine kx_ild8 (pc := 64) C dX9_tangle_64 ?_
      refine kx_ild6 (pc := 66) C dX9_tangle_66 ?_
      refine kx_icmp_geN (pc := 68) C 99 (by omega) (by omega) dX9_tangle_68 (by decide) (fun c68 => ?_) (fun c68 => ?_)
      · refine kx_ild6 (pc := 99) C dX9_tangle_99 ?_
        refine hR dX9_tangle_101 rfl ⟨by rw [sp_tangle, if_pos cok.1, kx_n, kx_n, kx_n, kx_n_nI (by omega), kx_n_nI (by omega), kx_n_nI (by omega), if_pos cok.2], ?_, g4⟩
        rw [sp_tangleI, kx_n, kx_n, kx_n, kx_n, kx_n_nI (by omega), kx_n_nI (by omega), kx_n_nI (by omega), kx_n_nI hi2, if_pos cok]
        obtain ⟨t1, t3, t4⟩ := hs j hj
        have := hs.one (g := g) (x := sl j) (y := sn j) (f := fun p => if i ≤ p ∧ p < i + (a (81 + x) + a (81 + y)) then nI (sp_tg a x y (p - i)) else it j p) hj (by rw [g4 _ _ (by omega) (by omega), g4 _ _ (by omega) (by omega)]; exact t1) t3 (fun p hp => by rw [g2 p hp, show k = a (81 + x) + a (81 + y) by omega]) (fun s hs => ⟨g4 _ _ (by omega) (by omega), g4 _ _ (by omega) (by omega)⟩) g3
        rw [up_id, up_id] at this
        exact this
      · omega
    | succ q ih =>
      intro k g hq hk g1 g2 g3 g4
      have e139 := g1 k (by omega)
      refine kx_ild8 (pc := 64) C dX9_tangle_64 ?_
      refine kx_ild6 (pc := 66) C dX9_tangle_66 ?_
      refine kx_icmp_geN (pc := 68) C 99 (by omega) (by omega) dX9_tangle_68 (by decide) (fun c68 => ?_) (fun c68 => ?_)
      · omega
      · refine kx_ald0 (pc := 71) C dX9_tangle_71 ?_
        refine kx_getr (pc := 72) C fl_X9_25 fd_127_7 dX9_tangle_72 ?_
        refine kx_bipush (pc := 75) C (v := nI 24) dX9_tangle_75 (by decide) ?_
        refine kx_ild3 (pc := 77) C dX9_tangle_77 ?_
        first | refine kx_imulN (pc := 78) C dX9_tangle_78 ?_ | refine kx_imul (pc := 78) C dX9_tangle_78 ?_
        refine kx_ild5 (pc := 79) C dX9_tangle_79 ?_
        first | refine kx_iaddN (pc := 81) C dX9_tangle_81 ?_ | refine kx_iadd (pc := 81) C dX9_tangle_81 ?_
        refine kx_ild8 (pc := 82) C dX9_tangle_82 ?_
        first | refine kx_iaddN (pc := 84) C dX9_tangle_84 ?_ | refine kx_iadd (pc := 84) C dX9_tangle_84 ?_
        refine kx_ald0 (pc := 85) C dX9_tangle_85 ?_
        refine kx_getr (pc := 86) C fl_X9_43 fd_127_13 dX9_tangle_86 ?_
        refine kx_ild8 (pc := 89) C dX9_tangle_89 ?_
        refine kx_iald (pc := 91) C ia_139 (by omega) e139 dX9_tangle_91 ?_
        refine kx_iast (pc := 92) C ia_133 (by omega) dX9_tangle_92 ?_
        first | refine kx_inc8 (pc := 93) C (v := nI (_ + 1)) dX9_tangle_93 (by decide) rfl (nI_1 _) ?_ | refine kx_inc8 (pc := 93) C dX9_tangle_93 (by decide) rfl rfl ?_
        refine kx_goto (pc := 96) C 64 dX9_tangle_96 (by decide) ?_
        refine ih (k + 1) _ (by omega) (by omega) (fun p hp => by rw [kx_up, if_neg (by omega)]; exact g1 p hp) (fun p hp => ?_) (fun p hp => by rw [kx_up, if_neg (by omega)]; exact g3 p hp) (fun d p h1 h2 => by rw [kx_up, if_neg (by omega)]; exact g4 d p h1 h2)
        by_cases z : p = i + k
        · rw [kx_up, if_pos ⟨rfl, by omega⟩, if_pos (by omega), show p - i = k by omega]
        · rw [kx_up, if_neg (by omega), g2 p hp]
          exact kx_ifx (by omega) _ _
  refine kx_ald0 (pc := 0) C dX9_tangle_0 ?_
  refine kx_ild1 (pc := 1) C dX9_tangle_1 ?_
  refine kx_callVI1 (pc := 2) C cs_X9_72 ob_127 (m_X9_isTale _ (by assumption) (by omega)) (by decide) dX9_tangle_2 (Nat.le_of_ble_eq_true rfl) (fun r2 h2 q2 => ?_)
  obtain ⟨z2, rfl⟩ := q2
  have z2 := z2.symm
  subst z2
  refine kx_if_eq (pc := 5) C 30 dX9_tangle_5 (by decide) (fun c5 => ?_) (fun c5 => ?_)
  · refine kx_iconst (pc := 30) C (v := -1) dX9_tangle_30 (by decide) ?_
    have nc : ¬ ((0 ≤ tx.toInt ∧ tx.toInt < (a 0 : Int)) ∧ (0 ≤ ty.toInt ∧ ty.toInt < (a 0 : Int)) ∧ ¬ tx = ty ∧ (0 ≤ tv.toInt ∧ tv.toInt ≤ 3) ∧ 0 ≤ tl.toInt ∧ tl.toInt ≤ 2) := fun z => by
      first
        | exact kx_if0 c27 z.2.2.2
        | exact z.2.2.1 c18
        | exact kx_if0 c13 z.2.1
        | exact kx_if0 c5 z.1
    exact hR dX9_tangle_31 rfl ⟨by rw [sp_tangle, if_neg nc], by rw [sp_tangleI, if_neg (fun z => nc z.1)]; exact hs, fun d k _ _ => rfl⟩
  · refine kx_ald0 (pc := 8) C dX9_tangle_8 ?_
    refine kx_ild2 (pc := 9) C dX9_tangle_9 ?_
    refine kx_callVI1 (pc := 10) C cs_X9_72 ob_127 (m_X9_isTale _ (by assumption) (by omega)) (by decide) dX9_tangle_10 (Nat.le_of_ble_eq_true rfl) (fun r10 h10 q10 => ?_)
    obtain ⟨z10, rfl⟩ := q10
    have z10 := z10.symm
    subst z10
    refine kx_if_eq (pc := 13) C 30 dX9_tangle_13 (by decide) (fun c13 => ?_) (fun c13 => ?_)
    · refine kx_iconst (pc := 30) C (v := -1) dX9_tangle_30 (by decide) ?_
      have nc : ¬ ((0 ≤ tx.toInt ∧ tx.toInt < (a 0 : Int)) ∧ (0 ≤ ty.toInt ∧ ty.toInt < (a 0 : Int)) ∧ ¬ tx = ty ∧ (0 ≤ tv.toInt ∧ tv.toInt ≤ 3) ∧ 0 ≤ tl.toInt ∧ tl.toInt ≤ 2) := fun z => by
        first
          | exact kx_if0 c27 z.2.2.2
          | exact z.2.2.1 c18
          | exact kx_if0 c13 z.2.1
          | exact kx_if0 c5 z.1
      exact hR dX9_tangle_31 rfl ⟨by rw [sp_tangle, if_neg nc], by rw [sp_tangleI, if_neg (fun z => nc z.1)]; exact hs, fun d k _ _ => rfl⟩
    · refine kx_ild1 (pc := 16) C dX9_tangle_16 ?_
      refine kx_ild2 (pc := 17) C dX9_tangle_17 ?_
      refine kx_icmp_eq (pc := 18) C 30 dX9_tangle_18 (by decide) (fun c18 => ?_) (fun c18 => ?_)
      · refine kx_iconst (pc := 30) C (v := -1) dX9_tangle_30 (by decide) ?_
        have nc : ¬ ((0 ≤ tx.toInt ∧ tx.toInt < (a 0 : Int)) ∧ (0 ≤ ty.toInt ∧ ty.toInt < (a 0 : Int)) ∧ ¬ tx = ty ∧ (0 ≤ tv.toInt ∧ tv.toInt ≤ 3) ∧ 0 ≤ tl.toInt ∧ tl.toInt ≤ 2) := fun z => by
          first
            | exact kx_if0 c27 z.2.2.2
            | exact z.2.2.1 c18
            | exact kx_if0 c13 z.2.1
            | exact kx_if0 c5 z.1
        exact hR dX9_tangle_31 rfl ⟨by rw [sp_tangle, if_neg nc], by rw [sp_tangleI, if_neg (fun z => nc z.1)]; exact hs, fun d k _ _ => rfl⟩
      · refine kx_ild3 (pc := 21) C dX9_tangle_21 ?_
        refine kx_ild4 (pc := 22) C dX9_tangle_22 ?_
        refine kx_callSI2 (pc := 24) C cs_X9_143 (m_X9_isSheet _ _) (by decide) dX9_tangle_24 (Nat.le_of_ble_eq_true rfl) (fun r24 h24 q24 => ?_)
        obtain ⟨z24, rfl⟩ := q24
        have z24 := z24.symm
        subst z24
        refine kx_if_ne (pc := 27) C 32 dX9_tangle_27 (by decide) (fun c27 => ?_) (fun c27 => ?_)
        · have c5 := kx_if1 c5
          have c13 := kx_if1 c13
          have c27 := kx_if1 c27
          obtain ⟨x, rfl, hx, hx2⟩ := kx_nat c5.1
          obtain ⟨y, rfl, hy, hy2⟩ := kx_nat c13.1
          obtain ⟨j, rfl, hj, hj2⟩ := kx_nat c27.1.1
          have lx := hl9 x (by omega)
          have ly := hl9 y (by omega)
          refine kx_ald0 (pc := 32) C dX9_tangle_32 ?_
          refine kx_ild1 (pc := 33) C dX9_tangle_33 ?_
          refine kx_ild2 (pc := 34) C dX9_tangle_34 ?_
          refine kx_callVI2 (pc := 35) C cs_X9_163 ob_127 (m_X9_tangles hM hRB (by omega) (by omega)) (by decide) dX9_tangle_35 (Nat.le_of_ble_eq_true rfl) (fun r35 h35 q35 => ?_)
          obtain ⟨rfl, k1, k2⟩ := q35
          have hs2 : st_MS h35 sl sn it := hs.kept (fun d p hd => k2 d p (by omega))
          refine kx_ist6 (pc := 38) C dX9_tangle_38 (by decide) rfl ?_
          refine kx_ald0 (pc := 40) C dX9_tangle_40 ?_
          refine kx_ild3 (pc := 41) C dX9_tangle_41 ?_
          refine kx_ild4 (pc := 42) C dX9_tangle_42 ?_
          refine kx_ild5 (pc := 44) C dX9_tangle_44 ?_
          refine kx_ild6 (pc := 46) C dX9_tangle_46 ?_
          refine kx_callVI4 (pc := 48) C cs_X9_133 ob_127 (m_X9_found _ _ _ hs2 (show j < 4 by omega) (by rw [kx_T (by omega)]; omega)) (by decide) dX9_tangle_48 (Nat.le_of_ble_eq_true rfl) (fun r48 h48 q48 => ?_)
          obtain ⟨z48, e48⟩ := q48
          subst z48
          rw [kx_T (show a (81 + x) + a (81 + y) < 2 ^ 31 by omega)] at e48
          subst e48
          refine kx_ist7 (pc := 51) C dX9_tangle_51 (by decide) rfl ?_
          refine kx_ild7 (pc := 53) C dX9_tangle_53 ?_
          refine kx_if_geI (pc := 55) C 61 dX9_tangle_55 (by decide) (fun c55 => ?_) (fun c55 => ?_)
          · rw [sp_ref_nn] at c55
            have rf := sp_ref_0 c55
            obtain ⟨i, rfl, hi, hi2⟩ := kx_nat rf.2.2.1
            rw [c55]
            refine kx_iconst (pc := 61) C (v := nI 0) dX9_tangle_61 (by decide) ?_
            refine kx_ist8 (pc := 62) C dX9_tangle_62 (by decide) rfl ?_
            exact loop x y j i rfl rfl rfl rfl (by omega) (by omega) (by omega) hi2 (by have := rf.2.2.2.2; have := (hs j (by omega)).2.1; omega) ⟨⟨c5, c13, c18, c27.1, c27.2⟩, c55⟩ _ 0 _ rfl (by omega) k1 (fun p hp => by rw [if_neg (by omega), k2 _ _ (by omega)]; exact (hs j (by omega)).2.2 p hp) (fun p hp => k2 _ _ (by omega)) (fun d p h1 h2 => k2 d p h2)
          · have rz : ¬ sp_ref sl sn j tl ti ((a (81 + x) + a (81 + y) : Nat) : Int) = 0 := fun z => by rw [z] at c55; exact absurd c55 (by decide)
            refine kx_ild7 (pc := 58) C dX9_tangle_58 ?_
            exact hR dX9_tangle_60 rfl ⟨by rw [sp_tangle, if_pos ⟨c5, c13, c18, c27.1, c27.2⟩, kx_n, kx_n, kx_n, kx_n_nI hx2, kx_n_nI hy2, kx_n_nI hj2, if_neg rz], by rw [sp_tangleI, kx_n, kx_n, kx_n, kx_n_nI hx2, kx_n_nI hy2, kx_n_nI hj2, if_neg (fun z => rz z.2)]; exact hs2, fun d k h1 h2 => k2 d k h2⟩
        · refine kx_iconst (pc := 30) C (v := -1) dX9_tangle_30 (by decide) ?_
          have nc : ¬ ((0 ≤ tx.toInt ∧ tx.toInt < (a 0 : Int)) ∧ (0 ≤ ty.toInt ∧ ty.toInt < (a 0 : Int)) ∧ ¬ tx = ty ∧ (0 ≤ tv.toInt ∧ tv.toInt ≤ 3) ∧ 0 ≤ tl.toInt ∧ tl.toInt ≤ 2) := fun z => by
            first
              | exact kx_if0 c27 z.2.2.2
              | exact z.2.2.1 c18
              | exact kx_if0 c13 z.2.1
              | exact kx_if0 c5 z.1
          exact hR dX9_tangle_31 rfl ⟨by rw [sp_tangle, if_neg nc], by rw [sp_tangleI, if_neg (fun z => nc z.1)]; exact hs, fun d k _ _ => rfl⟩
theorem sp_take_nn {sl sn : Nat → Nat} {it : kx_H} {j : Nat} {l i : Int32} {n most : Nat} : 0 ≤ (sp_take sl sn it j l i n most).toInt ↔ sp_take sl sn it j l i n most = 0 := by
  refine ⟨fun z => ?_, fun z => by rw [z]; decide⟩
  revert z
  unfold sp_take
  split
  · split
    · intro _; rfl
    · intro z; exact absurd z (by decide)
  · intro z; exact sp_ref_nn.mp z
theorem sp_fv_n4 {p : Nat → Bool} {w : Nat → Nat} {m : Nat} (hw : ∀ x, x < m → w x < 2 ^ 31) : sp_fv p w m = -4 ↔ sp_ct p m = 0 := by
  unfold sp_fv
  split
  · next z => exact ⟨fun _ => z, fun _ => rfl⟩
  · next z =>
    have := sp_ct_pos.mp (Nat.pos_of_ne_zero z)
    exact ⟨fun y => absurd y (kx_m4 (hw _ this)), fun y => absurd y z⟩
set_option maxHeartbeats 4000000 in
set_option maxRecDepth 100000 in
theorem m_X9_untangle {h : kx_H} {a sl sn : Nat → Nat} {it : kx_H} (tv tl ti tn w : Int32) (hH : st_MH 128 h a) (hB : st_B a) (hs : st_MS h sl sn it) : kx_MI 3 yX9_untangle cX9_untangle 14 .int [.ref 127, .int tv, .int tl, .int ti, .int tn, .int w] h (fun r h1 => r = sp_unt a sl sn it tv tl ti tn w ∧ ∀ d k, d ≠ 139 → h1 d k = h d k) := by
  refine kx_mkI (own := RX9) (L0 := [some (.ref 127), some (.int tv), some (.int tl), some (.int ti), some (.int tn), some (.int w), none, none, none, none, none, none, none, none]) rfl (by decide +kernel) (Nat.le_of_ble_eq_true rfl) rfl (fun F C hR => ?_)
  obtain ⟨hM, hMB⟩ := id hH
  obtain ⟨⟨b0, b1, b2, b3, b8, b8'⟩, hRB, bl, byy, bh, bz, bb⟩ := id hB
  have hl9 := hRB.1
  have hT : h 128 0 = nI (a 0) := hM 0 (by omega) (by omega) (by omega) (by omega)
  have hE : h 128 1 = nI (a 1) := hM 1 (by omega) (by omega) (by omega) (by omega)
  have hS : h 128 2 = nI (a 2) := hM 2 (by omega) (by omega) (by omega) (by omega)
  have hev : h 128 3 = nI (a 3) := hM 3 (by omega) (by omega) (by omega) (by omega)
  have hme : h 128 8 = nI (a 8) := hM 8 (by omega) (by omega) (by omega) (by omega)
  have main : ∀ (j i n : Nat) (v : Nat → Nat), v = sp_val it j i → j < 4 → i + n ≤ 24 → n ≤ 16 → sp_okI it j i n 9 = true → (∀ r, r = (if w = 0 then nI (sp_ct (sp_Ux a v n) 64) else sp_fv (sp_Ux a v n) sp_w8 64) → r = sp_unt a sl sn it tv tl ti tn w) → ∀ (q x : Nat) (g : kx_H) (o1 o2 o3 o4 : Option Value), 64 - x = q → x ≤ 64 → (∀ d k, d ≠ 139 → g d k = h d k) → F 65 [some (.ref 127), some (.int (nI j)), some (.int tl), some (.int (nI i)), some (.int (nI n)), some (.int w), some (.int 0), some (.int (nI (sp_ct (sp_Ux a v n) x))), some (.int (sp_fv (sp_Ux a v n) sp_w8 x)), some (.int (nI x)), o1, o2, o3, o4] [] g := by
    intro j i n v ev hj hin hn hok hfin q
    have hv : ∀ k, k < n → it j (i + k) = nI (v k) ∧ v k ≤ 9 := fun k hk => by rw [ev]; exact sp_okI_v hok hk
    induction q with
    | zero =>
      intro x g o1 o2 o3 o4 hq hx hg
      have ex : x = 64 := by omega
      subst ex
      refine kx_ild9 (pc := 65) C dX9_untangle_65 ?_
      refine kx_bipush (pc := 67) C (v := nI 64) dX9_untangle_67 (by decide) ?_
      refine kx_icmp_geN (pc := 69) C 234 (by omega) (by omega) dX9_untangle_69 (by decide) (fun c69 => ?_) (fun c69 => ?_)
      · refine kx_ild5 (pc := 234) C dX9_untangle_234 ?_
        refine kx_if_ne (pc := 236) C 244 dX9_untangle_236 (by decide) (fun c236 => ?_) (fun c236 => ?_)
        · refine kx_ild8 (pc := 244) C dX9_untangle_244 ?_
          first
            | exact hR dX9_untangle_246 rfl ⟨hfin _ (by rw [if_pos c236]), hg⟩
            | exact hR dX9_untangle_246 rfl ⟨hfin _ (by rw [if_neg c236]), hg⟩
        · refine kx_ild7 (pc := 239) C dX9_untangle_239 ?_
          refine kx_goto (pc := 241) C 246 dX9_untangle_241 (by decide) ?_
          first
            | exact hR dX9_untangle_246 rfl ⟨hfin _ (by rw [if_pos c236]), hg⟩
            | exact hR dX9_untangle_246 rfl ⟨hfin _ (by rw [if_neg c236]), hg⟩
      · omega
    | succ q ih =>
      intro x g o1 o2 o3 o4 hq hx hg
      have h3 := ih (x + 1)
      have ctl := sp_ct_le (sp_Ux a v n) x
      have fn4 := sp_fv_n4 (p := sp_Ux a v n) (w := sp_w8) (m := x) (fun y hy => by unfold sp_w8; omega)
      have end_ : ∀ (b : Bool) (g : kx_H) (o4 : Option Value), b = sp_Ux a v n x → (∀ d k, d ≠ 139 → g d k = h d k) → F 186 [some (.ref 127), some (.int (nI j)), some (.int tl), some (.int (nI i)), some (.int (nI n)), some (.int w), some (.int 0), some (.int (nI (sp_ct (sp_Ux a v n) x))), some (.int (sp_fv (sp_Ux a v n) sp_w8 x)), some (.int (nI x)), some (.int (nI (x / 8))), some (.int (nI (x % 8))), some (.int (if b = true then 1 else 0)), o4] [] g := by
        intro b g o4 hb hg
        cases b with
        | true =>
          refine kx_ild7 (pc := 186) C dX9_untangle_186 ?_
          refine kx_ild12 (pc := 188) C dX9_untangle_188 ?_
          refine kx_if_eq (pc := 190) C 197 dX9_untangle_190 (by decide) (fun c190 => ?_) (fun c190 => ?_)
          · exact absurd c190 (by decide)
          · refine kx_iconst (pc := 193) C (v := nI 1) dX9_untangle_193 (by decide) ?_
            refine kx_goto (pc := 194) C 198 dX9_untangle_194 (by decide) ?_
            first | refine kx_iaddN (pc := 198) C dX9_untangle_198 ?_ | refine kx_iadd (pc := 198) C dX9_untangle_198 ?_
            refine kx_ist7 (pc := 199) C dX9_untangle_199 (by decide) rfl ?_
            refine kx_ild12 (pc := 201) C dX9_untangle_201 ?_
            refine kx_if_eq (pc := 203) C 224 dX9_untangle_203 (by decide) (fun c203 => ?_) (fun c203 => ?_)
            · exact absurd c203 (by decide)
            · refine kx_ild8 (pc := 206) C dX9_untangle_206 ?_
              refine kx_bipush (pc := 208) C (v := -4) dX9_untangle_208 (by decide) ?_
              refine kx_icmp_ne (pc := 210) C 224 dX9_untangle_210 (by decide) (fun c210 => ?_) (fun c210 => ?_)
              · refine kx_ild8 (pc := 224) C dX9_untangle_224 ?_
                refine kx_ist8 (pc := 226) C dX9_untangle_226 (by decide) rfl ?_
                first | refine kx_inc9 (pc := 228) C (v := nI (_ + 1)) dX9_untangle_228 (by decide) rfl (nI_1 _) ?_ | refine kx_inc9 (pc := 228) C dX9_untangle_228 (by decide) rfl rfl ?_
                refine kx_goto (pc := 231) C 65 dX9_untangle_231 (by decide) ?_
                first
                  | (rw [sp_ct_yes hb.symm, sp_fv_first hb.symm (fn4.mp c210)] at h3
                     exact h3 g _ _ _ _ (by omega) (by omega) hg)
                  | (rw [sp_ct_yes hb.symm, sp_fv_more hb.symm (Nat.pos_of_ne_zero (fun z => c210 (fn4.mpr z)))] at h3
                     exact h3 g _ _ _ _ (by omega) (by omega) hg)
              · refine kx_bipush (pc := 213) C (v := nI 10) dX9_untangle_213 (by decide) ?_
                refine kx_ild10 (pc := 215) C dX9_untangle_215 ?_
                first | refine kx_imulN (pc := 217) C dX9_untangle_217 ?_ | refine kx_imul (pc := 217) C dX9_untangle_217 ?_
                refine kx_ild11 (pc := 218) C dX9_untangle_218 ?_
                first | refine kx_iaddN (pc := 220) C dX9_untangle_220 ?_ | refine kx_iadd (pc := 220) C dX9_untangle_220 ?_
                refine kx_goto (pc := 221) C 226 dX9_untangle_221 (by decide) ?_
                refine kx_ist8 (pc := 226) C dX9_untangle_226 (by decide) rfl ?_
                first | refine kx_inc9 (pc := 228) C (v := nI (_ + 1)) dX9_untangle_228 (by decide) rfl (nI_1 _) ?_ | refine kx_inc9 (pc := 228) C dX9_untangle_228 (by decide) rfl rfl ?_
                refine kx_goto (pc := 231) C 65 dX9_untangle_231 (by decide) ?_
                first
                  | (rw [sp_ct_yes hb.symm, sp_fv_first hb.symm (fn4.mp c210)] at h3
                     exact h3 g _ _ _ _ (by omega) (by omega) hg)
                  | (rw [sp_ct_yes hb.symm, sp_fv_more hb.symm (Nat.pos_of_ne_zero (fun z => c210 (fn4.mpr z)))] at h3
                     exact h3 g _ _ _ _ (by omega) (by omega) hg)
        | false =>
          refine kx_ild7 (pc := 186) C dX9_untangle_186 ?_
          refine kx_ild12 (pc := 188) C dX9_untangle_188 ?_
          refine kx_if_eq (pc := 190) C 197 dX9_untangle_190 (by decide) (fun c190 => ?_) (fun c190 => ?_)
          · refine kx_iconst (pc := 197) C (v := nI 0) dX9_untangle_197 (by decide) ?_
            first | refine kx_iaddN (pc := 198) C dX9_untangle_198 ?_ | refine kx_iadd (pc := 198) C dX9_untangle_198 ?_
            refine kx_ist7 (pc := 199) C dX9_untangle_199 (by decide) rfl ?_
            refine kx_ild12 (pc := 201) C dX9_untangle_201 ?_
            refine kx_if_eq (pc := 203) C 224 dX9_untangle_203 (by decide) (fun c203 => ?_) (fun c203 => ?_)
            · refine kx_ild8 (pc := 224) C dX9_untangle_224 ?_
              refine kx_ist8 (pc := 226) C dX9_untangle_226 (by decide) rfl ?_
              first | refine kx_inc9 (pc := 228) C (v := nI (_ + 1)) dX9_untangle_228 (by decide) rfl (nI_1 _) ?_ | refine kx_inc9 (pc := 228) C dX9_untangle_228 (by decide) rfl rfl ?_
              refine kx_goto (pc := 231) C 65 dX9_untangle_231 (by decide) ?_
              rw [sp_ct_nope hb.symm, sp_fv_no hb.symm] at h3
              exact h3 g _ _ _ _ (by omega) (by omega) hg
            · exact absurd rfl c203
          · exact absurd rfl c190
      have fin0 : ∀ (e : Nat) (g : kx_H), e < 2 ^ 31 → sp_Ux a v n x = false → (∀ d k, d ≠ 139 → g d k = h d k) → F 137 [some (.ref 127), some (.int (nI j)), some (.int tl), some (.int (nI i)), some (.int (nI n)), some (.int w), some (.int 0), some (.int (nI (sp_ct (sp_Ux a v n) x))), some (.int (sp_fv (sp_Ux a v n) sp_w8 x)), some (.int (nI x)), some (.int (nI (x / 8))), some (.int (nI (x % 8))), some (.int 0), some (.int (nI e))] [] g := by
        intro e g he hb hg
        refine kx_ild13 (pc := 137) C dX9_untangle_137 ?_
        refine kx_ild4 (pc := 139) C dX9_untangle_139 ?_
        refine kx_icmp_geN (pc := 141) C 186 (by omega) (by omega) dX9_untangle_141 (by decide) (fun c141 => ?_) (fun c141 => ?_)
        · exact end_ false g _ hb.symm hg
        · refine kx_ild12 (pc := 144) C dX9_untangle_144 ?_
          refine kx_if_eq (pc := 146) C 186 dX9_untangle_146 (by decide) (fun c146 => ?_) (fun c146 => ?_)
          · exact end_ false g _ hb.symm hg
          · exact absurd rfl c146
      have inner : ∀ (q e : Nat) (g : kx_H), x / 8 < a 0 → x % 8 < a 0 → ¬ x / 8 = x % 8 → a (81 + x / 8) + a (81 + x % 8) = n → n - e = q → e ≤ n → (∀ p, p < e → sp_tg a (x / 8) (x % 8) p = v p) → (∀ p, p < n → g 139 p = nI (sp_tg a (x / 8) (x % 8) p)) → (∀ d k, d ≠ 139 → g d k = h d k) → F 137 [some (.ref 127), some (.int (nI j)), some (.int tl), some (.int (nI i)), some (.int (nI n)), some (.int w), some (.int 0), some (.int (nI (sp_ct (sp_Ux a v n) x))), some (.int (sp_fv (sp_Ux a v n) sp_w8 x)), some (.int (nI x)), some (.int (nI (x / 8))), some (.int (nI (x % 8))), some (.int 1), some (.int (nI e))] [] g := by
        intro q
        induction q with
        | zero =>
          intro e g h1 h2 h12 hsz hq he hall hgt hg
          have eb : true = sp_Ux a v n x := by
            unfold sp_Ux sp_same
            rw [decide_eq_true ⟨h1, h2, h12⟩, decide_eq_true hsz, sp_all_iff.mpr (fun p hp => decide_eq_true (hall p (by omega)))]
            rfl
          refine kx_ild13 (pc := 137) C dX9_untangle_137 ?_
          refine kx_ild4 (pc := 139) C dX9_untangle_139 ?_
          refine kx_icmp_geN (pc := 141) C 186 (by omega) (by omega) dX9_untangle_141 (by decide) (fun c141 => ?_) (fun c141 => ?_)
          · exact end_ true g _ eb hg
          · omega
        | succ q ih2 =>
          intro e g h1 h2 h12 hsz hq he hall hgt hg
          have tgl := sp_tg_le hRB (x := x / 8) (y := x % 8) (p := e) (by omega) (by omega) (by omega)
          have hve := hv e (by omega)
          have e1 := hgt e (by omega)
          have e2 : g 133 (24 * j + i + e) = nI (v e) := by rw [hg _ _ (by omega), hs.at hj (by omega)]; exact hve.1
          refine kx_ild13 (pc := 137) C dX9_untangle_137 ?_
          refine kx_ild4 (pc := 139) C dX9_untangle_139 ?_
          refine kx_icmp_geN (pc := 141) C 186 (by omega) (by omega) dX9_untangle_141 (by decide) (fun c141 => ?_) (fun c141 => ?_)
          · omega
          · refine kx_ild12 (pc := 144) C dX9_untangle_144 ?_
            refine kx_if_eq (pc := 146) C 186 dX9_untangle_146 (by decide) (fun c146 => ?_) (fun c146 => ?_)
            · exact absurd c146 (by decide)
            · refine kx_ald0 (pc := 149) C dX9_untangle_149 ?_
              refine kx_getr (pc := 150) C fl_X9_43 fd_127_13 dX9_untangle_150 ?_
              refine kx_ild13 (pc := 153) C dX9_untangle_153 ?_
              refine kx_iald (pc := 155) C ia_139 (by omega) e1 dX9_untangle_155 ?_
              refine kx_ald0 (pc := 156) C dX9_untangle_156 ?_
              refine kx_getr (pc := 157) C fl_X9_25 fd_127_7 dX9_untangle_157 ?_
              refine kx_bipush (pc := 160) C (v := nI 24) dX9_untangle_160 (by decide) ?_
              refine kx_ild1 (pc := 162) C dX9_untangle_162 ?_
              first | refine kx_imulN (pc := 163) C dX9_untangle_163 ?_ | refine kx_imul (pc := 163) C dX9_untangle_163 ?_
              refine kx_ild3 (pc := 164) C dX9_untangle_164 ?_
              first | refine kx_iaddN (pc := 165) C dX9_untangle_165 ?_ | refine kx_iadd (pc := 165) C dX9_untangle_165 ?_
              refine kx_ild13 (pc := 166) C dX9_untangle_166 ?_
              first | refine kx_iaddN (pc := 168) C dX9_untangle_168 ?_ | refine kx_iadd (pc := 168) C dX9_untangle_168 ?_
              refine kx_iald (pc := 169) C ia_133 (by omega) e2 dX9_untangle_169 ?_
              refine kx_icmp_neN (pc := 170) C 177 (by omega) (by omega) dX9_untangle_170 (by decide) (fun c170 => ?_) (fun c170 => ?_)
              · refine kx_iconst (pc := 177) C (v := nI 0) dX9_untangle_177 (by decide) ?_
                refine kx_ist12 (pc := 178) C dX9_untangle_178 (by decide) rfl ?_
                first | refine kx_inc13 (pc := 180) C (v := nI (_ + 1)) dX9_untangle_180 (by decide) rfl (nI_1 _) ?_ | refine kx_inc13 (pc := 180) C dX9_untangle_180 (by decide) rfl rfl ?_
                refine kx_goto (pc := 183) C 137 dX9_untangle_183 (by decide) ?_
                first
                  | (refine ih2 (e + 1) g h1 h2 h12 hsz (by omega) (by omega) (fun p hp => ?_) hgt hg
                     rcases Nat.lt_or_ge p e with y | y
                     · exact hall p y
                     · rw [show p = e by omega]; exact c170)
                  | (refine fin0 (e + 1) g (by omega) ?_ hg
                     unfold sp_Ux sp_same
                     rw [show sp_all (fun p => decide (sp_tg a (x / 8) (x % 8) p = v p)) n = false from Bool.eq_false_iff.mpr (fun z => c170 (of_decide_eq_true (sp_all_iff.mp z e (by omega)))), Bool.and_false, Bool.and_false])
              · refine kx_iconst (pc := 173) C (v := nI 1) dX9_untangle_173 (by decide) ?_
                refine kx_goto (pc := 174) C 178 dX9_untangle_174 (by decide) ?_
                refine kx_ist12 (pc := 178) C dX9_untangle_178 (by decide) rfl ?_
                first | refine kx_inc13 (pc := 180) C (v := nI (_ + 1)) dX9_untangle_180 (by decide) rfl (nI_1 _) ?_ | refine kx_inc13 (pc := 180) C dX9_untangle_180 (by decide) rfl rfl ?_
                refine kx_goto (pc := 183) C 137 dX9_untangle_183 (by decide) ?_
                first
                  | (refine ih2 (e + 1) g h1 h2 h12 hsz (by omega) (by omega) (fun p hp => ?_) hgt hg
                     rcases Nat.lt_or_ge p e with y | y
                     · exact hall p y
                     · rw [show p = e by omega]; exact c170)
                  | (refine fin0 (e + 1) g (by omega) ?_ hg
                     unfold sp_Ux sp_same
                     rw [show sp_all (fun p => decide (sp_tg a (x / 8) (x % 8) p = v p)) n = false from Bool.eq_false_iff.mpr (fun z => c170 (of_decide_eq_true (sp_all_iff.mp z e (by omega)))), Bool.and_false, Bool.and_false])
      have hTg : g 128 0 = nI (a 0) := by rw [hg _ _ (by omega)]; exact hT
      have hMg : ∀ k, k < 141 → k ≠ 4 → k ≠ 5 → k ≠ 6 → g 128 k = nI (a k) := fun k h1 h2 h3 h4 => by rw [hg _ _ (by omega)]; exact hM k h1 h2 h3 h4
      have no : (¬ (x / 8 < a 0 ∧ x % 8 < a 0 ∧ ¬ x / 8 = x % 8)) → sp_Ux a v n x = false := fun z => by
        unfold sp_Ux
        rw [decide_eq_false z, Bool.false_and]
      have lx := hl9 (x / 8) (by omega)
      have ly := hl9 (x % 8) (by omega)
      refine kx_ild9 (pc := 65) C dX9_untangle_65 ?_
      refine kx_bipush (pc := 67) C (v := nI 64) dX9_untangle_67 (by decide) ?_
      refine kx_icmp_geN (pc := 69) C 234 (by omega) (by omega) dX9_untangle_69 (by decide) (fun c69 => ?_) (fun c69 => ?_)
      · omega
      · refine kx_ild9 (pc := 72) C dX9_untangle_72 ?_
        refine kx_bipush (pc := 74) C (v := nI 8) dX9_untangle_74 (by decide) ?_
        refine kx_idivN (pc := 76) C (by omega) (by omega) (by omega) dX9_untangle_76 ?_
        refine kx_ist10 (pc := 77) C dX9_untangle_77 (by decide) rfl ?_
        refine kx_ild9 (pc := 79) C dX9_untangle_79 ?_
        refine kx_bipush (pc := 81) C (v := nI 8) dX9_untangle_81 (by decide) ?_
        refine kx_iremN (pc := 83) C (by omega) (by omega) (by omega) dX9_untangle_83 ?_
        refine kx_ist11 (pc := 84) C dX9_untangle_84 (by decide) rfl ?_
        refine kx_ild10 (pc := 86) C dX9_untangle_86 ?_
        refine kx_ild11 (pc := 88) C dX9_untangle_88 ?_
        refine kx_icmp_eqN (pc := 90) C 228 (by omega) (by omega) dX9_untangle_90 (by decide) (fun c90 => ?_) (fun c90 => ?_)
        · first | refine kx_inc9 (pc := 228) C (v := nI (_ + 1)) dX9_untangle_228 (by decide) rfl (nI_1 _) ?_ | refine kx_inc9 (pc := 228) C dX9_untangle_228 (by decide) rfl rfl ?_
          refine kx_goto (pc := 231) C 65 dX9_untangle_231 (by decide) ?_
          have hb : sp_Ux a v n x = false := no (fun z => by
            first
              | omega
              | (have c108 := kx_if0 c108
                 rw [kx_T (show x % 8 < 2 ^ 31 by omega)] at c108
                 omega)
              | (have c99 := kx_if0 c99
                 rw [kx_T (show x / 8 < 2 ^ 31 by omega)] at c99
                 omega))
          rw [sp_ct_nope hb, sp_fv_no hb] at h3
          exact h3 g _ _ _ _ (by omega) (by omega) hg
        · refine kx_ald0 (pc := 93) C dX9_untangle_93 ?_
          refine kx_ild10 (pc := 94) C dX9_untangle_94 ?_
          refine kx_callVI1 (pc := 96) C cs_X9_72 ob_127 (m_X9_isTale _ (by assumption) (by omega)) (by decide) dX9_untangle_96 (Nat.le_of_ble_eq_true rfl) (fun r96 h96 q96 => ?_)
          obtain ⟨z96, rfl⟩ := q96
          have z96 := z96.symm
          subst z96
          refine kx_if_eq (pc := 99) C 228 dX9_untangle_99 (by decide) (fun c99 => ?_) (fun c99 => ?_)
          · first | refine kx_inc9 (pc := 228) C (v := nI (_ + 1)) dX9_untangle_228 (by decide) rfl (nI_1 _) ?_ | refine kx_inc9 (pc := 228) C dX9_untangle_228 (by decide) rfl rfl ?_
            refine kx_goto (pc := 231) C 65 dX9_untangle_231 (by decide) ?_
            have hb : sp_Ux a v n x = false := no (fun z => by
              first
                | omega
                | (have c108 := kx_if0 c108
                   rw [kx_T (show x % 8 < 2 ^ 31 by omega)] at c108
                   omega)
                | (have c99 := kx_if0 c99
                   rw [kx_T (show x / 8 < 2 ^ 31 by omega)] at c99
                   omega))
            rw [sp_ct_nope hb, sp_fv_no hb] at h3
            exact h3 g _ _ _ _ (by omega) (by omega) hg
          · refine kx_ald0 (pc := 102) C dX9_untangle_102 ?_
            refine kx_ild11 (pc := 103) C dX9_untangle_103 ?_
            refine kx_callVI1 (pc := 105) C cs_X9_72 ob_127 (m_X9_isTale _ (by assumption) (by omega)) (by decide) dX9_untangle_105 (Nat.le_of_ble_eq_true rfl) (fun r105 h105 q105 => ?_)
            obtain ⟨z105, rfl⟩ := q105
            have z105 := z105.symm
            subst z105
            refine kx_if_ne (pc := 108) C 114 dX9_untangle_108 (by decide) (fun c108 => ?_) (fun c108 => ?_)
            · refine kx_ald0 (pc := 114) C dX9_untangle_114 ?_
              refine kx_ild10 (pc := 115) C dX9_untangle_115 ?_
              refine kx_ild11 (pc := 117) C dX9_untangle_117 ?_
              refine kx_callVI2 (pc := 119) C cs_X9_163 ob_127 (m_X9_tangles hMg hRB (by omega) (by omega)) (by decide) dX9_untangle_119 (Nat.le_of_ble_eq_true rfl) (fun r119 h119 q119 => ?_)
              obtain ⟨rfl, k1, k2⟩ := q119
              have hg2 : ∀ d k, d ≠ 139 → h119 d k = h d k := fun d k hd => by rw [k2 d k hd]; exact hg d k hd
              have c99 := kx_if1 c99
              have c108 := kx_if1 c108
              rw [kx_T (show x / 8 < 2 ^ 31 by omega)] at c99
              rw [kx_T (show x % 8 < 2 ^ 31 by omega)] at c108
              refine kx_ild4 (pc := 122) C dX9_untangle_122 ?_
              refine kx_icmp_neN (pc := 124) C 131 (by omega) (by omega) dX9_untangle_124 (by decide) (fun c124 => ?_) (fun c124 => ?_)
              · refine kx_iconst (pc := 131) C (v := nI 0) dX9_untangle_131 (by decide) ?_
                refine kx_ist12 (pc := 132) C dX9_untangle_132 (by decide) rfl ?_
                refine kx_iconst (pc := 134) C (v := nI 0) dX9_untangle_134 (by decide) ?_
                refine kx_ist13 (pc := 135) C dX9_untangle_135 (by decide) rfl ?_
                first
                  | exact inner n 0 h119 (by omega) (by omega) c90 c124 (by omega) (by omega) (fun p hp => absurd hp (by omega)) (fun p hp => k1 p (by omega)) hg2
                  | (refine fin0 0 h119 (by omega) ?_ hg2
                     unfold sp_Ux sp_same
                     rw [decide_eq_false c124, Bool.false_and, Bool.and_false])
              · refine kx_iconst (pc := 127) C (v := nI 1) dX9_untangle_127 (by decide) ?_
                refine kx_goto (pc := 128) C 132 dX9_untangle_128 (by decide) ?_
                refine kx_ist12 (pc := 132) C dX9_untangle_132 (by decide) rfl ?_
                refine kx_iconst (pc := 134) C (v := nI 0) dX9_untangle_134 (by decide) ?_
                refine kx_ist13 (pc := 135) C dX9_untangle_135 (by decide) rfl ?_
                first
                  | exact inner n 0 h119 (by omega) (by omega) c90 c124 (by omega) (by omega) (fun p hp => absurd hp (by omega)) (fun p hp => k1 p (by omega)) hg2
                  | (refine fin0 0 h119 (by omega) ?_ hg2
                     unfold sp_Ux sp_same
                     rw [decide_eq_false c124, Bool.false_and, Bool.and_false])
            · refine kx_goto (pc := 111) C 228 dX9_untangle_111 (by decide) ?_
              first | refine kx_inc9 (pc := 228) C (v := nI (_ + 1)) dX9_untangle_228 (by decide) rfl (nI_1 _) ?_ | refine kx_inc9 (pc := 228) C dX9_untangle_228 (by decide) rfl rfl ?_
              refine kx_goto (pc := 231) C 65 dX9_untangle_231 (by decide) ?_
              have hb : sp_Ux a v n x = false := no (fun z => by
                first
                  | omega
                  | (have c108 := kx_if0 c108
                     rw [kx_T (show x % 8 < 2 ^ 31 by omega)] at c108
                     omega)
                  | (have c99 := kx_if0 c99
                     rw [kx_T (show x / 8 < 2 ^ 31 by omega)] at c99
                     omega))
              rw [sp_ct_nope hb, sp_fv_no hb] at h3
              exact h3 g _ _ _ _ (by omega) (by omega) hg
  refine kx_ild1 (pc := 0) C dX9_untangle_0 ?_
  refine kx_ild2 (pc := 1) C dX9_untangle_1 ?_
  refine kx_callSI2 (pc := 2) C cs_X9_143 (m_X9_isSheet _ _) (by decide) dX9_untangle_2 (Nat.le_of_ble_eq_true rfl) (fun r2 h2 q2 => ?_)
  obtain ⟨z2, rfl⟩ := q2
  have z2 := z2.symm
  subst z2
  refine kx_if_eq (pc := 5) C 32 dX9_untangle_5 (by decide) (fun c5 => ?_) (fun c5 => ?_)
  · refine kx_iconst (pc := 32) C (v := -1) dX9_untangle_32 (by decide) ?_
    have nc : ¬ (((0 ≤ tv.toInt ∧ tv.toInt ≤ 3) ∧ 0 ≤ tl.toInt ∧ tl.toInt ≤ 2) ∧ (1 ≤ tn.toInt ∧ tn.toInt ≤ 16) ∧ 0 ≤ w.toInt ∧ w.toInt ≤ 1) := fun z => by
      first
        | exact kx_if0 c29 z.2.2
        | exact kx_if0 c18 z.2.1
        | exact kx_if0 c5 z.1
    exact hR dX9_untangle_33 rfl ⟨by rw [sp_unt, if_neg nc], fun d k _ => rfl⟩
  · refine kx_ild4 (pc := 8) C dX9_untangle_8 ?_
    refine kx_i2l (pc := 10) C dX9_untangle_10 ?_
    refine kx_lconst (pc := 11) C (v := 1) dX9_untangle_11 (by decide) ?_
    refine kx_ldc2 (pc := 12) C dX9_untangle_12 cn_X9_158 ?_
    refine kx_callSI3 (pc := 15) C cs_X9_52 (m_X9_in (p := 1) (q := _) (r := 16) (by rfl) (kx_L _) (by rfl)) (by decide) dX9_untangle_15 (Nat.le_of_ble_eq_true rfl) (fun r15 h15 q15 => ?_)
    obtain ⟨z15, rfl⟩ := q15
    have z15 := z15.symm
    subst z15
    refine kx_if_eq (pc := 18) C 32 dX9_untangle_18 (by decide) (fun c18 => ?_) (fun c18 => ?_)
    · refine kx_iconst (pc := 32) C (v := -1) dX9_untangle_32 (by decide) ?_
      have nc : ¬ (((0 ≤ tv.toInt ∧ tv.toInt ≤ 3) ∧ 0 ≤ tl.toInt ∧ tl.toInt ≤ 2) ∧ (1 ≤ tn.toInt ∧ tn.toInt ≤ 16) ∧ 0 ≤ w.toInt ∧ w.toInt ≤ 1) := fun z => by
        first
          | exact kx_if0 c29 z.2.2
          | exact kx_if0 c18 z.2.1
          | exact kx_if0 c5 z.1
      exact hR dX9_untangle_33 rfl ⟨by rw [sp_unt, if_neg nc], fun d k _ => rfl⟩
    · refine kx_ild5 (pc := 21) C dX9_untangle_21 ?_
      refine kx_i2l (pc := 23) C dX9_untangle_23 ?_
      refine kx_lconst (pc := 24) C (v := 0) dX9_untangle_24 (by decide) ?_
      refine kx_lconst (pc := 25) C (v := 1) dX9_untangle_25 (by decide) ?_
      refine kx_callSI3 (pc := 26) C cs_X9_52 (m_X9_in (p := 0) (q := _) (r := 1) (by rfl) (kx_L _) (by rfl)) (by decide) dX9_untangle_26 (Nat.le_of_ble_eq_true rfl) (fun r26 h26 q26 => ?_)
      obtain ⟨z26, rfl⟩ := q26
      have z26 := z26.symm
      subst z26
      refine kx_if_ne (pc := 29) C 34 dX9_untangle_29 (by decide) (fun c29 => ?_) (fun c29 => ?_)
      · have c5 := kx_if1 c5
        have c18 := kx_if1 c18
        have c29 := kx_if1 c29
        obtain ⟨j, rfl, hj, hj2⟩ := kx_nat c5.1.1
        obtain ⟨n, rfl, hn, hn2⟩ := kx_nat (x := tn) (by omega)
        refine kx_ald0 (pc := 34) C dX9_untangle_34 ?_
        refine kx_ild1 (pc := 35) C dX9_untangle_35 ?_
        refine kx_ild2 (pc := 36) C dX9_untangle_36 ?_
        refine kx_ild3 (pc := 37) C dX9_untangle_37 ?_
        refine kx_ild4 (pc := 38) C dX9_untangle_38 ?_
        refine kx_bipush (pc := 40) C (v := nI 9) dX9_untangle_40 (by decide) ?_
        refine kx_callVI5 (pc := 42) C cs_X9_148 ob_127 (m_X9_barred _ _ hs (show j < 4 by omega) (show n ≤ 16 by omega) (show 9 ≤ 99 by omega)) (by decide) dX9_untangle_42 (Nat.le_of_ble_eq_true rfl) (fun r42 h42 q42 => ?_)
        obtain ⟨z42, rfl⟩ := q42
        have z42 := z42.symm
        subst z42
        refine kx_ist6 (pc := 45) C dX9_untangle_45 (by decide) rfl ?_
        refine kx_ild6 (pc := 47) C dX9_untangle_47 ?_
        refine kx_if_geI (pc := 49) C 55 dX9_untangle_49 (by decide) (fun c49 => ?_) (fun c49 => ?_)
        · rw [sp_take_nn] at c49
          have rf := sp_take_0 c49
          have rf0 := sp_ref_0 rf.1
          obtain ⟨i, rfl, hi, hi2⟩ := kx_nat rf0.2.2.1
          rw [kx_n, kx_n_nI hi2] at rf
          rw [c49]
          refine kx_iconst (pc := 55) C (v := nI 0) dX9_untangle_55 (by decide) ?_
          refine kx_ist7 (pc := 56) C dX9_untangle_56 (by decide) rfl ?_
          refine kx_bipush (pc := 58) C (v := -4) dX9_untangle_58 (by decide) ?_
          refine kx_ist8 (pc := 60) C dX9_untangle_60 (by decide) rfl ?_
          refine kx_iconst (pc := 62) C (v := nI 0) dX9_untangle_62 (by decide) ?_
          refine kx_ist9 (pc := 63) C dX9_untangle_63 (by decide) rfl ?_
          refine main j i n _ rfl (by omega) (by have := rf0.2.2.2.2; have := (hs j (by omega)).2.1; omega) (by omega) rf.2 (fun r er => ?_) 64 0 h none none none none (by omega) (by omega) (fun d k _ => rfl)
          rw [sp_unt, if_pos ⟨c5, c18, c29⟩, kx_n, kx_n, kx_n, kx_n_nI hj2, kx_n_nI hn2, kx_n_nI hi2, if_pos c49]
          exact er
        · have rz : ¬ sp_take sl sn it j tl ti n 9 = 0 := fun z => by rw [z] at c49; exact absurd c49 (by decide)
          refine kx_ild6 (pc := 52) C dX9_untangle_52 ?_
          exact hR dX9_untangle_54 rfl ⟨by rw [sp_unt, if_pos ⟨c5, c18, c29⟩, kx_n, kx_n, kx_n_nI hj2, kx_n_nI hn2, if_neg rz], fun d k _ => rfl⟩
      · refine kx_iconst (pc := 32) C (v := -1) dX9_untangle_32 (by decide) ?_
        have nc : ¬ (((0 ≤ tv.toInt ∧ tv.toInt ≤ 3) ∧ 0 ≤ tl.toInt ∧ tl.toInt ≤ 2) ∧ (1 ≤ tn.toInt ∧ tn.toInt ≤ 16) ∧ 0 ≤ w.toInt ∧ w.toInt ≤ 1) := fun z => by
          first
            | exact kx_if0 c29 z.2.2
            | exact kx_if0 c18 z.2.1
            | exact kx_if0 c5 z.1
        exact hR dX9_untangle_33 rfl ⟨by rw [sp_unt, if_neg nc], fun d k _ => rfl⟩
