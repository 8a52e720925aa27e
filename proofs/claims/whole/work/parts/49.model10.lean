/-! the reference's coat -/
def sp_Ws (a : Nat → Nat) (s t e c x z k : Nat) : Nat := if x < t ∨ (x = t ∧ z < e) then (if z < a 1 then sp_y a s x z k else 0) else if x = t ∧ z = e then sp_cn (fun i => sp_so (sp_m a s t (a 3 + 1)) (sp_te a e t i)) k 0 c else 0
theorem sp_Ws_1 {a : Nat → Nat} {s t e c x z k : Nat} (h : x < t ∨ (x = t ∧ z < e)) : sp_Ws a s t e c x z k = if z < a 1 then sp_y a s x z k else 0 := if_pos h
theorem sp_Ws_2 {a : Nat → Nat} {s t e c x z k : Nat} (h : x = t ∧ z = e) : sp_Ws a s t e c x z k = sp_cn (fun i => sp_so (sp_m a s t (a 3 + 1)) (sp_te a e t i)) k 0 c := by
  unfold sp_Ws; rw [if_neg (by omega), if_pos h]
theorem sp_Ws_3 {a : Nat → Nat} {s t e c x z k : Nat} (h : ¬ (x < t ∨ (x = t ∧ z < e))) (h2 : ¬ (x = t ∧ z = e)) : sp_Ws a s t e c x z k = 0 := by
  unfold sp_Ws; rw [if_neg h, if_neg h2]
theorem sp_Ws_0 {a : Nat → Nat} {s t e x z k : Nat} (h : ¬ (x < t ∨ (x = t ∧ z < e))) : sp_Ws a s t e 0 x z k = 0 := by
  by_cases h2 : x = t ∧ z = e
  · rw [sp_Ws_2 h2]; rfl
  · rw [sp_Ws_3 h h2]
def st_SP (g : kx_H) (W : Nat → Nat → Nat → Nat) : Prop := ∀ x z k, x < 8 → z < 4 → k < 4 → g 137 (16 * x + 4 * z + k) = nI (W x z k)
set_option maxHeartbeats 4000000 in
set_option maxRecDepth 100000 in
theorem m_X9_measures {h : kx_H} {a : Nat → Nat} {s : Nat} (hH : st_MH 128 h a) (hB : st_B a) (hs : s < 4) : kx_MV 3 yX9_measures cX9_measures 7 [.ref 127, .int (nI s)] h (fun h1 => (∀ x z k, x < a 0 → z < a 1 → k < 4 → h1 137 (16 * x + 4 * z + k) = nI (sp_y a s x z k)) ∧ ∀ d j, d ≠ 137 → h1 d j = h d j) := by
  refine kx_mkV (own := RX9) (L0 := [some (.ref 127), some (.int (nI s)), none, none, none, none, none]) rfl (by decide +kernel) (Nat.le_of_ble_eq_true rfl) rfl (fun F C hR => ?_)
  obtain ⟨hM, hMB⟩ := id hH
  obtain ⟨⟨b0, b1, b2, b3, b8, b8'⟩, hRB, bl, byy, bh, bz, bb⟩ := id hB
  have hl9 := hRB.1
  have hT : h 128 0 = nI (a 0) := hM 0 (by omega) (by omega) (by omega) (by omega)
  have hE : h 128 1 = nI (a 1) := hM 1 (by omega) (by omega) (by omega) (by omega)
  have hS : h 128 2 = nI (a 2) := hM 2 (by omega) (by omega) (by omega) (by omega)
  have hev : h 128 3 = nI (a 3) := hM 3 (by omega) (by omega) (by omega) (by omega)
  have hme : h 128 8 = nI (a 8) := hM 8 (by omega) (by omega) (by omega) (by omega)
  have tl : ∀ (q t : Nat) (g : kx_H) (o3 o4 o5 o6 : Option Value), a 0 - t = q → t ≤ a 0 → st_SP g (sp_Ws a s t 0 0) → (∀ d j, d ≠ 137 → g d j = h d j) → F 24 [some (.ref 127), some (.int (nI s)), some (.int (nI t)), o3, o4, o5, o6] [] g := by
    intro q
    induction q with
    | zero =>
      intro t g o3 o4 o5 o6 hq ht hp hg
      have eT : g 128 0 = nI (a 0) := by rw [hg _ _ (by omega)]; exact hT
      refine kx_ild2 (pc := 24) C dX9_measures_24 ?_
      refine kx_ald0 (pc := 25) C dX9_measures_25 ?_
      refine kx_getr (pc := 26) C fl_X9_7 fd_127_0 dX9_measures_26 ?_
      refine kx_iconst (pc := 29) C (v := nI 0) dX9_measures_29 (by decide) ?_
      refine kx_iald (pc := 30) C ia_128 (by omega) eT dX9_measures_30 ?_
      refine kx_icmp_geN (pc := 31) C 149 (by omega) (by omega) dX9_measures_31 (by decide) (fun c31 => ?_) (fun c31 => ?_)
      · refine hR dX9_measures_149 ⟨fun x z k hx hz hk => ?_, hg⟩
        rw [hp x z k (by omega) (by omega) hk]
        unfold sp_Ws
        rw [if_pos (by omega), if_pos hz]
      · omega
    | succ q ih =>
      intro t g o3 o4 o5 o6 hq ht hp hg
      have eT : g 128 0 = nI (a 0) := by rw [hg _ _ (by omega)]; exact hT
      have e3 : g 128 3 = nI (a 3) := by rw [hg _ _ (by omega)]; exact hev
      have e8 : g 128 8 = nI (a 8) := by rw [hg _ _ (by omega)]; exact hme
      have bhs := bh s t hs (by omega)
      have mle := sp_m_le a s t (a 3 + 1)
      have hl := hl9 t (by omega)
      have ehd : g 128 (109 + 8 * s + t) = nI (a (109 + 8 * s + t)) := by rw [hg _ _ (by omega)]; exact hM _ (by omega) (by omega) (by omega) (by omega)
      have el : ∀ (c e : Nat) (g : kx_H) (o5 o6 : Option Value), a 1 - e = c → e ≤ a 1 → st_SP g (sp_Ws a s t e 0) → (∀ d j, d ≠ 137 → g d j = h d j) → F 52 [some (.ref 127), some (.int (nI s)), some (.int (nI t)), some (.int (nI (sp_m a s t (a 3 + 1)))), some (.int (nI e)), o5, o6] [] g := by
        intro c
        induction c with
        | zero =>
          intro e g o5 o6 hc he hp hg
          have eE : g 128 1 = nI (a 1) := by rw [hg _ _ (by omega)]; exact hE
          refine kx_ild4 (pc := 52) C dX9_measures_52 ?_
          refine kx_ald0 (pc := 54) C dX9_measures_54 ?_
          refine kx_getr (pc := 55) C fl_X9_7 fd_127_0 dX9_measures_55 ?_
          refine kx_iconst (pc := 58) C (v := nI 1) dX9_measures_58 (by decide) ?_
          refine kx_iald (pc := 59) C ia_128 (by omega) eE dX9_measures_59 ?_
          refine kx_icmp_geN (pc := 60) C 143 (by omega) (by omega) dX9_measures_60 (by decide) (fun c60 => ?_) (fun c60 => ?_)
          · first | refine kx_inc2 (pc := 143) C (v := nI (_ + 1)) dX9_measures_143 (by decide) rfl (nI_1 _) ?_ | refine kx_inc2 (pc := 143) C dX9_measures_143 (by decide) rfl rfl ?_
            refine kx_goto (pc := 146) C 24 dX9_measures_146 (by decide) ?_
            refine ih (t + 1) g _ _ _ _ (by omega) (by omega) (fun x z k hx hz hk => ?_) hg
            rw [hp x z k hx hz hk]
            congr 1
            rcases Nat.lt_or_ge x t with y | y
            · rw [sp_Ws_1 (by omega), sp_Ws_1 (by omega)]
            · by_cases y2 : x = t
              · by_cases y3 : z < a 1
                · rw [sp_Ws_1 (by omega), sp_Ws_1 (by omega)]
                · rw [sp_Ws_0 (by omega), sp_Ws_1 (by omega), if_neg y3]
              · rw [sp_Ws_0 (by omega), sp_Ws_0 (by omega)]
          · omega
        | succ c ih2 =>
          intro e g o5 o6 hc he hp hg
          have il : ∀ (f i : Nat) (g : kx_H) (o6 : Option Value), a (81 + t) - i = f → i ≤ a (81 + t) → st_SP g (sp_Ws a s t e i) → (∀ d j, d ≠ 137 → g d j = h d j) → F 66 [some (.ref 127), some (.int (nI s)), some (.int (nI t)), some (.int (nI (sp_m a s t (a 3 + 1)))), some (.int (nI e)), some (.int (nI i)), o6] [] g := by
            intro f
            induction f with
            | zero =>
              intro i g o6 hf hi hp hg
              have ei : i = a (81 + t) := by omega
              have eL : g 128 (81 + t) = nI (a (81 + t)) := by rw [hg _ _ (by omega)]; exact hM _ (by omega) (by omega) (by omega) (by omega)
              refine kx_ild5 (pc := 66) C dX9_measures_66 ?_
              refine kx_ald0 (pc := 68) C dX9_measures_68 ?_
              refine kx_getr (pc := 69) C fl_X9_7 fd_127_0 dX9_measures_69 ?_
              refine kx_bipush (pc := 72) C (v := nI 81) dX9_measures_72 (by decide) ?_
              refine kx_ild2 (pc := 74) C dX9_measures_74 ?_
              first | refine kx_iaddN (pc := 75) C dX9_measures_75 ?_ | refine kx_iadd (pc := 75) C dX9_measures_75 ?_
              refine kx_iald (pc := 76) C ia_128 (by omega) eL dX9_measures_76 ?_
              refine kx_icmp_geN (pc := 77) C 137 (by omega) (by omega) dX9_measures_77 (by decide) (fun c77 => ?_) (fun c77 => ?_)
              · first | refine kx_inc4 (pc := 137) C (v := nI (_ + 1)) dX9_measures_137 (by decide) rfl (nI_1 _) ?_ | refine kx_inc4 (pc := 137) C dX9_measures_137 (by decide) rfl rfl ?_
                refine kx_goto (pc := 140) C 52 dX9_measures_140 (by decide) ?_
                refine ih2 (e + 1) g _ _ (by omega) (by omega) (fun x z k hx hz hk => ?_) hg
                rw [hp x z k hx hz hk]
                congr 1
                by_cases y : x < t ∨ (x = t ∧ z < e)
                · rw [sp_Ws_1 y, sp_Ws_1 (by omega)]
                · by_cases y2 : x = t ∧ z = e
                  · rw [sp_Ws_2 y2, sp_Ws_1 (by omega), if_pos (by omega), y2.1, y2.2, ei]; rfl
                  · rw [sp_Ws_3 y y2, sp_Ws_0 (by omega)]
              · omega
            | succ f ih3 =>
              intro i g o6 hf hi hp hg
              have eL : g 128 (81 + t) = nI (a (81 + t)) := by rw [hg _ _ (by omega)]; exact hM _ (by omega) (by omega) (by omega) (by omega)
              have t9 := sp_te_le hRB (e := e) (t := t) (i := i) (by omega) (by omega)
              have hMg : ∀ k, k < 141 → k ≠ 4 → k ≠ 5 → k ≠ 6 → k < 93 → g 128 k = nI (a k) := fun k h1 h2 h3 h4 _ => by rw [hg _ _ (by omega)]; exact hM k h1 h2 h3 h4
              have hYs : ∀ k, k < 4 → g 137 (16 * t + 4 * e + k) = nI (sp_cn (fun i => sp_so (sp_m a s t (a 3 + 1)) (sp_te a e t i)) k 0 i) := fun k hk => by
                rw [hp t e k (by omega) (by omega) hk]
                unfold sp_Ws
                rw [if_neg (by omega), if_pos ⟨rfl, rfl⟩]
              have nxt : ∀ (X : Nat) (o : Option Value), X = sp_so (sp_m a s t (a 3 + 1)) (sp_te a e t i) → X < 4 → F 66 [some (.ref 127), some (.int (nI s)), some (.int (nI t)), some (.int (nI (sp_m a s t (a 3 + 1)))), some (.int (nI e)), some (.int (nI (i + 1))), o] [] (kx_up g 137 (16 * t + 4 * e + X) (nI (sp_cn (fun i => sp_so (sp_m a s t (a 3 + 1)) (sp_te a e t i)) X 0 i + 1))) := by
                intro X o hX hX4
                refine ih3 (i + 1) _ o (by omega) (by omega) (fun x z k hx hz hk => ?_) (fun d j hd => by rw [kx_up, if_neg (by omega)]; exact hg d j hd)
                have old := hp x z k hx hz hk
                by_cases y : x = t ∧ z = e
                · have ew : sp_Ws a s t e (i + 1) x z k = sp_cn (fun i => sp_so (sp_m a s t (a 3 + 1)) (sp_te a e t i)) k 0 i + if X = k then 1 else 0 := by
                    unfold sp_Ws
                    rw [if_neg (by omega), if_pos y, show sp_cn (fun i => sp_so (sp_m a s t (a 3 + 1)) (sp_te a e t i)) k 0 (i + 1) = sp_cn (fun i => sp_so (sp_m a s t (a 3 + 1)) (sp_te a e t i)) k 0 i + if sp_so (sp_m a s t (a 3 + 1)) (sp_te a e t (0 + i)) = k then 1 else 0 from rfl, Nat.zero_add, ← hX]
                  rw [ew]
                  by_cases y2 : X = k
                  · rw [if_pos y2, kx_up, if_pos ⟨rfl, by omega⟩, y2]
                  · rw [if_neg y2, kx_up, if_neg (by omega), old, sp_Ws_2 y]; rfl
                · rw [kx_up, if_neg (by omega), old]
                  unfold sp_Ws
                  rw [if_neg y, if_neg y]
              refine kx_ild5 (pc := 66) C dX9_measures_66 ?_
              refine kx_ald0 (pc := 68) C dX9_measures_68 ?_
              refine kx_getr (pc := 69) C fl_X9_7 fd_127_0 dX9_measures_69 ?_
              refine kx_bipush (pc := 72) C (v := nI 81) dX9_measures_72 (by decide) ?_
              refine kx_ild2 (pc := 74) C dX9_measures_74 ?_
              first | refine kx_iaddN (pc := 75) C dX9_measures_75 ?_ | refine kx_iadd (pc := 75) C dX9_measures_75 ?_
              refine kx_iald (pc := 76) C ia_128 (by omega) eL dX9_measures_76 ?_
              refine kx_icmp_geN (pc := 77) C 137 (by omega) (by omega) dX9_measures_77 (by decide) (fun c77 => ?_) (fun c77 => ?_)
              · omega
              · refine kx_ald0 (pc := 80) C dX9_measures_80 ?_
                refine kx_ild4 (pc := 81) C dX9_measures_81 ?_
                refine kx_ild2 (pc := 83) C dX9_measures_83 ?_
                refine kx_ild5 (pc := 84) C dX9_measures_84 ?_
                refine kx_callVI3 (pc := 86) C cs_X9_93 ob_127 (m_X9_tellsIt hMg hRB (by omega) (by omega) (by omega)) (by decide) dX9_measures_86 (Nat.le_of_ble_eq_true rfl) (fun r86 h86 q86 => ?_)
                obtain ⟨z86, rfl⟩ := q86
                have z86 := z86.symm
                subst z86
                refine kx_callSI1 (pc := 89) C cs_X9_111 (m_X9_sortOf (by omega)) (by decide) dX9_measures_89 (Nat.le_of_ble_eq_true rfl) (fun r89 h89 q89 => ?_)
                obtain ⟨z89, rfl⟩ := q89
                have z89 := z89.symm
                subst z89
                refine kx_ist6 (pc := 92) C dX9_measures_92 (by decide) rfl ?_
                refine kx_ald0 (pc := 94) C dX9_measures_94 ?_
                refine kx_getr (pc := 95) C fl_X9_37 fd_127_11 dX9_measures_95 ?_
                refine kx_bipush (pc := 98) C (v := nI 16) dX9_measures_98 (by decide) ?_
                refine kx_ild2 (pc := 100) C dX9_measures_100 ?_
                first | refine kx_imulN (pc := 101) C dX9_measures_101 ?_ | refine kx_imul (pc := 101) C dX9_measures_101 ?_
                refine kx_iconst (pc := 102) C (v := nI 4) dX9_measures_102 (by decide) ?_
                refine kx_ild4 (pc := 103) C dX9_measures_103 ?_
                first | refine kx_imulN (pc := 105) C dX9_measures_105 ?_ | refine kx_imul (pc := 105) C dX9_measures_105 ?_
                first | refine kx_iaddN (pc := 106) C dX9_measures_106 ?_ | refine kx_iadd (pc := 106) C dX9_measures_106 ?_
                refine kx_ild3 (pc := 107) C dX9_measures_107 ?_
                refine kx_if_eqN (pc := 108) C 123 (by omega) dX9_measures_108 (by decide) (fun c108 => ?_) (fun c108 => ?_)
                · refine kx_ild6 (pc := 123) C dX9_measures_123 ?_
                  first | refine kx_iaddN (pc := 125) C dX9_measures_125 ?_ | refine kx_iadd (pc := 125) C dX9_measures_125 ?_
                  refine kx_dup2 (pc := 126) C dX9_measures_126 rfl rfl ?_
                  refine kx_iald (pc := 127) C ia_137 (by omega) (hYs _ (by omega)) dX9_measures_127 ?_
                  refine kx_iconst (pc := 128) C (v := nI 1) dX9_measures_128 (by decide) ?_
                  first | refine kx_iaddN (pc := 129) C dX9_measures_129 ?_ | refine kx_iadd (pc := 129) C dX9_measures_129 ?_
                  refine kx_iast (pc := 130) C ia_137 (by omega) dX9_measures_130 ?_
                  first | refine kx_inc5 (pc := 131) C (v := nI (_ + 1)) dX9_measures_131 (by decide) rfl (nI_1 _) ?_ | refine kx_inc5 (pc := 131) C dX9_measures_131 (by decide) rfl rfl ?_
                  refine kx_goto (pc := 134) C 66 dX9_measures_134 (by decide) ?_
                  first
                    | exact nxt _ _ (by unfold sp_so; rw [if_pos c108]) (by omega)
                    | exact nxt _ _ (by unfold sp_so; rw [if_neg (by omega)]; omega) (by omega)
                    | exact nxt _ _ (by unfold sp_so; rw [if_neg (by omega)]) (by omega)
                · refine kx_ild6 (pc := 111) C dX9_measures_111 ?_
                  refine kx_if_leN (pc := 113) C 123 (by omega) dX9_measures_113 (by decide) (fun c113 => ?_) (fun c113 => ?_)
                  · refine kx_ild6 (pc := 123) C dX9_measures_123 ?_
                    first | refine kx_iaddN (pc := 125) C dX9_measures_125 ?_ | refine kx_iadd (pc := 125) C dX9_measures_125 ?_
                    refine kx_dup2 (pc := 126) C dX9_measures_126 rfl rfl ?_
                    refine kx_iald (pc := 127) C ia_137 (by omega) (hYs _ (by omega)) dX9_measures_127 ?_
                    refine kx_iconst (pc := 128) C (v := nI 1) dX9_measures_128 (by decide) ?_
                    first | refine kx_iaddN (pc := 129) C dX9_measures_129 ?_ | refine kx_iadd (pc := 129) C dX9_measures_129 ?_
                    refine kx_iast (pc := 130) C ia_137 (by omega) dX9_measures_130 ?_
                    first | refine kx_inc5 (pc := 131) C (v := nI (_ + 1)) dX9_measures_131 (by decide) rfl (nI_1 _) ?_ | refine kx_inc5 (pc := 131) C dX9_measures_131 (by decide) rfl rfl ?_
                    refine kx_goto (pc := 134) C 66 dX9_measures_134 (by decide) ?_
                    first
                      | exact nxt _ _ (by unfold sp_so; rw [if_pos c108]) (by omega)
                      | exact nxt _ _ (by unfold sp_so; rw [if_neg (by omega)]; omega) (by omega)
                      | exact nxt _ _ (by unfold sp_so; rw [if_neg (by omega)]) (by omega)
                  · refine kx_ild6 (pc := 116) C dX9_measures_116 ?_
                    refine kx_iconst (pc := 118) C (v := nI 1) dX9_measures_118 (by decide) ?_
                    refine kx_isubN (pc := 119) C (by omega) dX9_measures_119 ?_
                    refine kx_goto (pc := 120) C 125 dX9_measures_120 (by decide) ?_
                    first | refine kx_iaddN (pc := 125) C dX9_measures_125 ?_ | refine kx_iadd (pc := 125) C dX9_measures_125 ?_
                    refine kx_dup2 (pc := 126) C dX9_measures_126 rfl rfl ?_
                    refine kx_iald (pc := 127) C ia_137 (by omega) (hYs _ (by omega)) dX9_measures_127 ?_
                    refine kx_iconst (pc := 128) C (v := nI 1) dX9_measures_128 (by decide) ?_
                    first | refine kx_iaddN (pc := 129) C dX9_measures_129 ?_ | refine kx_iadd (pc := 129) C dX9_measures_129 ?_
                    refine kx_iast (pc := 130) C ia_137 (by omega) dX9_measures_130 ?_
                    first | refine kx_inc5 (pc := 131) C (v := nI (_ + 1)) dX9_measures_131 (by decide) rfl (nI_1 _) ?_ | refine kx_inc5 (pc := 131) C dX9_measures_131 (by decide) rfl rfl ?_
                    refine kx_goto (pc := 134) C 66 dX9_measures_134 (by decide) ?_
                    first
                      | exact nxt _ _ (by unfold sp_so; rw [if_pos c108]) (by omega)
                      | exact nxt _ _ (by unfold sp_so; rw [if_neg (by omega)]; omega) (by omega)
                      | exact nxt _ _ (by unfold sp_so; rw [if_neg (by omega)]) (by omega)
          have eE : g 128 1 = nI (a 1) := by rw [hg _ _ (by omega)]; exact hE
          refine kx_ild4 (pc := 52) C dX9_measures_52 ?_
          refine kx_ald0 (pc := 54) C dX9_measures_54 ?_
          refine kx_getr (pc := 55) C fl_X9_7 fd_127_0 dX9_measures_55 ?_
          refine kx_iconst (pc := 58) C (v := nI 1) dX9_measures_58 (by decide) ?_
          refine kx_iald (pc := 59) C ia_128 (by omega) eE dX9_measures_59 ?_
          refine kx_icmp_geN (pc := 60) C 143 (by omega) (by omega) dX9_measures_60 (by decide) (fun c60 => ?_) (fun c60 => ?_)
          · omega
          · refine kx_iconst (pc := 63) C (v := nI 0) dX9_measures_63 (by decide) ?_
            refine kx_ist5 (pc := 64) C dX9_measures_64 (by decide) rfl ?_
            exact il _ 0 g _ rfl (by omega) hp hg
      refine kx_ild2 (pc := 24) C dX9_measures_24 ?_
      refine kx_ald0 (pc := 25) C dX9_measures_25 ?_
      refine kx_getr (pc := 26) C fl_X9_7 fd_127_0 dX9_measures_26 ?_
      refine kx_iconst (pc := 29) C (v := nI 0) dX9_measures_29 (by decide) ?_
      refine kx_iald (pc := 30) C ia_128 (by omega) eT dX9_measures_30 ?_
      refine kx_icmp_geN (pc := 31) C 149 (by omega) (by omega) dX9_measures_31 (by decide) (fun c31 => ?_) (fun c31 => ?_)
      · omega
      · refine kx_ald0 (pc := 34) C dX9_measures_34 ?_
        refine kx_ild1 (pc := 35) C dX9_measures_35 ?_
        refine kx_ild2 (pc := 36) C dX9_measures_36 ?_
        refine kx_ald0 (pc := 37) C dX9_measures_37 ?_
        refine kx_getr (pc := 38) C fl_X9_7 fd_127_0 dX9_measures_38 ?_
        refine kx_iconst (pc := 41) C (v := nI 3) dX9_measures_41 (by decide) ?_
        refine kx_iald (pc := 42) C ia_128 (by omega) e3 dX9_measures_42 ?_
        refine kx_iconst (pc := 43) C (v := nI 1) dX9_measures_43 (by decide) ?_
        first | refine kx_iaddN (pc := 44) C dX9_measures_44 ?_ | refine kx_iadd (pc := 44) C dX9_measures_44 ?_
        refine kx_callVI3 (pc := 45) C cs_X9_105 ob_127 (m_X9_hasMind e8 ehd hs (by omega) b8' (by omega) (by omega)) (by decide) dX9_measures_45 (Nat.le_of_ble_eq_true rfl) (fun r45 h45 q45 => ?_)
        obtain ⟨z45, rfl⟩ := q45
        have z45 := z45.symm
        subst z45
        rw [sp_m_eq]
        refine kx_ist3 (pc := 48) C dX9_measures_48 (by decide) rfl ?_
        refine kx_iconst (pc := 49) C (v := nI 0) dX9_measures_49 (by decide) ?_
        refine kx_ist4 (pc := 50) C dX9_measures_50 (by decide) rfl ?_
        exact el _ 0 g _ _ rfl (by omega) hp hg
  have zl : ∀ (q k : Nat) (g : kx_H), 128 - k = q → k ≤ 128 → (∀ j, j < k → g 137 j = nI 0) → (∀ d j, d ≠ 137 → g d j = h d j) → F 2 [some (.ref 127), some (.int (nI s)), some (.int (nI k)), none, none, none, none] [] g := by
    intro q
    induction q with
    | zero =>
      intro k g hq hk g1 g2
      refine kx_ild2 (pc := 2) C dX9_measures_2 ?_
      refine kx_sipush (pc := 3) C (v := nI 128) dX9_measures_3 (by decide) ?_
      refine kx_icmp_geN (pc := 6) C 22 (by omega) (by omega) dX9_measures_6 (by decide) (fun c6 => ?_) (fun c6 => ?_)
      · refine kx_iconst (pc := 22) C (v := nI 0) dX9_measures_22 (by decide) ?_
        refine kx_ist2 (pc := 23) C dX9_measures_23 (by decide) rfl ?_
        refine tl _ 0 g _ _ _ _ rfl (by omega) (fun x z k hx hz hk => ?_) g2
        rw [g1 _ (by omega)]
        unfold sp_Ws
        rw [if_neg (by omega)]
        split <;> rfl
      · omega
    | succ q ih =>
      intro k g hq hk g1 g2
      refine kx_ild2 (pc := 2) C dX9_measures_2 ?_
      refine kx_sipush (pc := 3) C (v := nI 128) dX9_measures_3 (by decide) ?_
      refine kx_icmp_geN (pc := 6) C 22 (by omega) (by omega) dX9_measures_6 (by decide) (fun c6 => ?_) (fun c6 => ?_)
      · omega
      · refine kx_ald0 (pc := 9) C dX9_measures_9 ?_
        refine kx_getr (pc := 10) C fl_X9_37 fd_127_11 dX9_measures_10 ?_
        refine kx_ild2 (pc := 13) C dX9_measures_13 ?_
        refine kx_iconst (pc := 14) C (v := nI 0) dX9_measures_14 (by decide) ?_
        refine kx_iast (pc := 15) C ia_137 (by omega) dX9_measures_15 ?_
        first | refine kx_inc2 (pc := 16) C (v := nI (_ + 1)) dX9_measures_16 (by decide) rfl (nI_1 _) ?_ | refine kx_inc2 (pc := 16) C dX9_measures_16 (by decide) rfl rfl ?_
        refine kx_goto (pc := 19) C 2 dX9_measures_19 (by decide) ?_
        refine ih (k + 1) _ (by omega) (by omega) (fun j hj => ?_) (fun d j hd => by rw [kx_up, if_neg (by omega)]; exact g2 d j hd)
        by_cases z : j = k
        · rw [z, kx_up, if_pos ⟨rfl, rfl⟩]
        · rw [kx_up, if_neg (by omega)]; exact g1 j (by omega)
  refine kx_iconst (pc := 0) C (v := nI 0) dX9_measures_0 (by decide) ?_
  refine kx_ist2 (pc := 1) C dX9_measures_1 (by decide) rfl ?_
  exact zl 128 0 h (by omega) (by omega) (fun j hj => absurd hj (by omega)) (fun d j _ => rfl)
set_option maxHeartbeats 4000000 in
set_option maxRecDepth 100000 in
theorem m_X9_isCoat {h : kx_H} {T E m f0 : Nat} {y : Nat → Nat → Nat → Nat} {p w : Nat → Nat} {nd : Nat → Int} (hT : T ≤ 8) (hE : E ≤ 4) (hm : m ≤ 8) (hf : f0 + 4 ≤ 96) (hy9 : ∀ t e k, y t e k ≤ 9) (hsp : ∀ x z k, x < T → z < E → k < 4 → h 137 (16 * x + 4 * z + k) = nI (y x z k)) (hrow : ∀ i, i < m → h 134 i = nI (p i)) (hp : ∀ i, i < m → p i / 10 < T ∧ p i % 10 < E) (hw : ∀ k, k < 4 → h 133 (f0 + k) = nI (w k)) (hw99 : ∀ k, k < 4 → w k ≤ 99) (hnd : ∀ k, k < 4 → nd k = (w k : Int) - (sp_sg (fun i => y (p i / 10) (p i % 10) k) m : Int)) : kx_MI 1 yX9_isCoat cX9_isCoat 5 .boolean [.ref 127, .int (nI m), .int (nI f0)] h (fun r h1 => r = (if ct_cov nd = true then 1 else 0) ∧ ∀ d j, d ≠ 138 → h1 d j = h d j) := by
  refine kx_mkI (own := RX9) (L0 := [some (.ref 127), some (.int (nI m)), some (.int (nI f0)), none, none]) rfl (by decide +kernel) (Nat.le_of_ble_eq_true rfl) rfl (fun F C hR => ?_)
  have sl : ∀ k n, n ≤ m → sp_sg (fun i => y (p i / 10) (p i % 10) k) n ≤ 72 := fun k n hn => by
    have := sp_sg_le (f := (fun i => y (p i / 10) (p i % 10) k)) (b := 9) (n := n) (fun i _ => hy9 _ _ _)
    omega
  have kl : ∀ (q k : Nat) (g : kx_H) (o4 : Option Value), 4 - k = q → k ≤ 4 → (∀ j, j < k → nd j ≤ 0) → (∀ d j, d ≠ 138 → g d j = h d j) → F 2 [some (.ref 127), some (.int (nI m)), some (.int (nI f0)), some (.int (nI k)), o4] [] g := by
    intro q
    induction q with
    | zero =>
      intro k g o4 hq hk hd hg
      refine kx_ild3 (pc := 2) C dX9_isCoat_2 ?_
      refine kx_iconst (pc := 3) C (v := nI 4) dX9_isCoat_3 (by decide) ?_
      refine kx_icmp_geN (pc := 4) C 96 (by omega) (by omega) dX9_isCoat_4 (by decide) (fun c4 => ?_) (fun c4 => ?_)
      · refine kx_iconst (pc := 96) C (v := nI 1) dX9_isCoat_96 (by decide) ?_
        exact hR dX9_isCoat_97 rfl ⟨by rw [if_pos (ct_cov_iff.mpr (fun j hj => hd j (by omega)))]; rfl, hg⟩
      · omega
    | succ q ih =>
      intro k g o4 hq hk hd hg
      have hk4 : k < 4 := by omega
      have nl : ∀ (c n : Nat) (g : kx_H), m - n = c → n ≤ m → g 138 k = nI (sp_sg (fun i => y (p i / 10) (p i % 10) k) n) → (∀ d j, d ≠ 138 → g d j = h d j) → F 17 [some (.ref 127), some (.int (nI m)), some (.int (nI f0)), some (.int (nI k)), some (.int (nI n))] [] g := by
        intro c
        induction c with
        | zero =>
          intro n g hc hn g1 g2
          have en : n = m := by omega
          have l1 := sl k n hn
          have l2 := hw99 k hk4
          have ew : g 133 (f0 + k) = nI (w k) := by rw [g2 _ _ (by omega)]; exact hw k hk4
          have hn2 := hnd k hk4
          rw [← en] at hn2
          refine kx_ild4 (pc := 17) C dX9_isCoat_17 ?_
          refine kx_ild1 (pc := 19) C dX9_isCoat_19 ?_
          refine kx_icmp_geN (pc := 20) C 71 (by omega) (by omega) dX9_isCoat_20 (by decide) (fun c20 => ?_) (fun c20 => ?_)
          · refine kx_ald0 (pc := 71) C dX9_isCoat_71 ?_
            refine kx_getr (pc := 72) C fl_X9_40 fd_127_12 dX9_isCoat_72 ?_
            refine kx_ild3 (pc := 75) C dX9_isCoat_75 ?_
            refine kx_iald (pc := 76) C ia_138 (by omega) g1 dX9_isCoat_76 ?_
            refine kx_ald0 (pc := 77) C dX9_isCoat_77 ?_
            refine kx_getr (pc := 78) C fl_X9_25 fd_127_7 dX9_isCoat_78 ?_
            refine kx_ild2 (pc := 81) C dX9_isCoat_81 ?_
            refine kx_ild3 (pc := 82) C dX9_isCoat_82 ?_
            first | refine kx_iaddN (pc := 83) C dX9_isCoat_83 ?_ | refine kx_iadd (pc := 83) C dX9_isCoat_83 ?_
            refine kx_iald (pc := 84) C ia_133 (by omega) ew dX9_isCoat_84 ?_
            refine kx_icmp_geN (pc := 85) C 90 (by omega) (by omega) dX9_isCoat_85 (by decide) (fun c85 => ?_) (fun c85 => ?_)
            · first | refine kx_inc3 (pc := 90) C (v := nI (_ + 1)) dX9_isCoat_90 (by decide) rfl (nI_1 _) ?_ | refine kx_inc3 (pc := 90) C dX9_isCoat_90 (by decide) rfl rfl ?_
              refine kx_goto (pc := 93) C 2 dX9_isCoat_93 (by decide) ?_
              refine ih (k + 1) g _ (by omega) (by omega) (fun j hj => ?_) g2
              rcases Nat.lt_or_ge j k with z | z
              · exact hd j z
              · rw [show j = k by omega]; omega
            · refine kx_iconst (pc := 88) C (v := nI 0) dX9_isCoat_88 (by decide) ?_
              exact hR dX9_isCoat_89 rfl ⟨by rw [if_neg (fun z => by have := ct_cov_iff.mp z k hk4; omega)]; rfl, g2⟩
          · omega
        | succ c ih2 =>
          intro n g hc hn g1 g2
          have er : g 134 n = nI (p n) := by rw [g2 _ _ (by omega)]; exact hrow n (by omega)
          have hpn := hp n (by omega)
          have es : g 137 (16 * (p n / 10) + 4 * (p n % 10) + k) = nI (y (p n / 10) (p n % 10) k) := by rw [g2 _ _ (by omega)]; exact hsp _ _ _ hpn.1 hpn.2 hk4
          refine kx_ild4 (pc := 17) C dX9_isCoat_17 ?_
          refine kx_ild1 (pc := 19) C dX9_isCoat_19 ?_
          refine kx_icmp_geN (pc := 20) C 71 (by omega) (by omega) dX9_isCoat_20 (by decide) (fun c20 => ?_) (fun c20 => ?_)
          · omega
          · refine kx_ald0 (pc := 23) C dX9_isCoat_23 ?_
            refine kx_getr (pc := 24) C fl_X9_40 fd_127_12 dX9_isCoat_24 ?_
            refine kx_ild3 (pc := 27) C dX9_isCoat_27 ?_
            refine kx_dup2 (pc := 28) C dX9_isCoat_28 rfl rfl ?_
            refine kx_iald (pc := 29) C ia_138 (by omega) g1 dX9_isCoat_29 ?_
            refine kx_ald0 (pc := 30) C dX9_isCoat_30 ?_
            refine kx_getr (pc := 31) C fl_X9_37 fd_127_11 dX9_isCoat_31 ?_
            refine kx_bipush (pc := 34) C (v := nI 16) dX9_isCoat_34 (by decide) ?_
            refine kx_ald0 (pc := 36) C dX9_isCoat_36 ?_
            refine kx_getr (pc := 37) C fl_X9_28 fd_127_8 dX9_isCoat_37 ?_
            refine kx_ild4 (pc := 40) C dX9_isCoat_40 ?_
            refine kx_iald (pc := 42) C ia_134 (by omega) er dX9_isCoat_42 ?_
            refine kx_bipush (pc := 43) C (v := nI 10) dX9_isCoat_43 (by decide) ?_
            refine kx_idivN (pc := 45) C (by omega) (by omega) (by omega) dX9_isCoat_45 ?_
            first | refine kx_imulN (pc := 46) C dX9_isCoat_46 ?_ | refine kx_imul (pc := 46) C dX9_isCoat_46 ?_
            refine kx_iconst (pc := 47) C (v := nI 4) dX9_isCoat_47 (by decide) ?_
            refine kx_ald0 (pc := 48) C dX9_isCoat_48 ?_
            refine kx_getr (pc := 49) C fl_X9_28 fd_127_8 dX9_isCoat_49 ?_
            refine kx_ild4 (pc := 52) C dX9_isCoat_52 ?_
            refine kx_iald (pc := 54) C ia_134 (by omega) er dX9_isCoat_54 ?_
            refine kx_bipush (pc := 55) C (v := nI 10) dX9_isCoat_55 (by decide) ?_
            refine kx_iremN (pc := 57) C (by omega) (by omega) (by omega) dX9_isCoat_57 ?_
            first | refine kx_imulN (pc := 58) C dX9_isCoat_58 ?_ | refine kx_imul (pc := 58) C dX9_isCoat_58 ?_
            first | refine kx_iaddN (pc := 59) C dX9_isCoat_59 ?_ | refine kx_iadd (pc := 59) C dX9_isCoat_59 ?_
            refine kx_ild3 (pc := 60) C dX9_isCoat_60 ?_
            first | refine kx_iaddN (pc := 61) C dX9_isCoat_61 ?_ | refine kx_iadd (pc := 61) C dX9_isCoat_61 ?_
            refine kx_iald (pc := 62) C ia_137 (by omega) es dX9_isCoat_62 ?_
            first | refine kx_iaddN (pc := 63) C dX9_isCoat_63 ?_ | refine kx_iadd (pc := 63) C dX9_isCoat_63 ?_
            refine kx_iast (pc := 64) C ia_138 (by omega) dX9_isCoat_64 ?_
            first | refine kx_inc4 (pc := 65) C (v := nI (_ + 1)) dX9_isCoat_65 (by decide) rfl (nI_1 _) ?_ | refine kx_inc4 (pc := 65) C dX9_isCoat_65 (by decide) rfl rfl ?_
            refine kx_goto (pc := 68) C 17 dX9_isCoat_68 (by decide) ?_
            exact ih2 (n + 1) _ (by omega) (by omega) (by rw [kx_up, if_pos ⟨rfl, rfl⟩]; rfl) (fun d j hd => by rw [kx_up, if_neg (by omega)]; exact g2 d j hd)
      refine kx_ild3 (pc := 2) C dX9_isCoat_2 ?_
      refine kx_iconst (pc := 3) C (v := nI 4) dX9_isCoat_3 (by decide) ?_
      refine kx_icmp_geN (pc := 4) C 96 (by omega) (by omega) dX9_isCoat_4 (by decide) (fun c4 => ?_) (fun c4 => ?_)
      · omega
      · refine kx_ald0 (pc := 7) C dX9_isCoat_7 ?_
        refine kx_getr (pc := 8) C fl_X9_40 fd_127_12 dX9_isCoat_8 ?_
        refine kx_ild3 (pc := 11) C dX9_isCoat_11 ?_
        refine kx_iconst (pc := 12) C (v := nI 0) dX9_isCoat_12 (by decide) ?_
        refine kx_iast (pc := 13) C ia_138 (by omega) dX9_isCoat_13 ?_
        refine kx_iconst (pc := 14) C (v := nI 0) dX9_isCoat_14 (by decide) ?_
        refine kx_ist4 (pc := 15) C dX9_isCoat_15 (by decide) rfl ?_
        exact nl m 0 _ (by omega) (by omega) (by rw [kx_up, if_pos ⟨rfl, rfl⟩]; rfl) (fun d j hd => by rw [kx_up, if_neg (by omega)]; exact hg d j hd)
  refine kx_iconst (pc := 0) C (v := nI 0) dX9_isCoat_0 (by decide) ?_
  refine kx_ist3 (pc := 1) C dX9_isCoat_1 (by decide) rfl ?_
  exact kl 4 0 h none (by omega) (by omega) (fun j hj => absurd hj (by omega)) (fun d j _ => rfl)
def ct_C (E : Nat) (c : Int32) (t e : Nat) : Prop := (c = -1 ∧ t = 0 ∧ e = 0) ∨ ∃ u d, c = nI (10 * u + d) ∧ d ≤ 9 ∧ u < 8 ∧ ((d + 1 < E ∧ t = u ∧ e = d + 1) ∨ (E ≤ d + 1 ∧ t = u + 1 ∧ e = 0))
set_option maxHeartbeats 4000000 in
set_option maxRecDepth 100000 in
theorem m_X9_after {h : kx_H} {T E t e : Nat} {c : Int32} (hT : T ≤ 8) (hE4 : E ≤ 4) (hE : 0 < E) (e0 : h 128 0 = nI T) (e1 : h 128 1 = nI E) (hc : ct_C E c t e) : kx_MI 1 yX9_after cX9_after 4 .int [.ref 127, .int c] h (fun r h1 => h1 = h ∧ r = if t < T then nI (10 * t + e) else -4) := by
  refine kx_mkI (own := RX9) (L0 := [some (.ref 127), some (.int c), none, none]) rfl (by decide +kernel) (Nat.le_of_ble_eq_true rfl) rfl (fun F C hR => ?_)
  rcases hc with ⟨rfl, rfl, rfl⟩ | ⟨u, d, rfl, hd, hu, hc⟩
  · refine kx_ild1 (pc := 0) C dX9_after_0 ?_
    refine kx_if_geI (pc := 1) C 8 dX9_after_1 (by decide) (fun c1 => ?_) (fun c1 => ?_)
    · exact absurd c1 (by decide)
    · refine kx_iconst (pc := 4) C (v := nI 0) dX9_after_4 (by decide) ?_
      refine kx_goto (pc := 5) C 14 dX9_after_5 (by decide) ?_
      refine kx_ist2 (pc := 14) C dX9_after_14 (by decide) rfl ?_
      refine kx_ild1 (pc := 15) C dX9_after_15 ?_
      refine kx_if_geI (pc := 16) C 23 dX9_after_16 (by decide) (fun c16 => ?_) (fun c16 => ?_)
      · exact absurd c16 (by decide)
      · refine kx_iconst (pc := 19) C (v := nI 0) dX9_after_19 (by decide) ?_
        refine kx_goto (pc := 20) C 27 dX9_after_20 (by decide) ?_
        refine kx_ist3 (pc := 27) C dX9_after_27 (by decide) rfl ?_
        refine kx_ild2 (pc := 28) C dX9_after_28 ?_
        refine kx_ald0 (pc := 29) C dX9_after_29 ?_
        refine kx_getr (pc := 30) C fl_X9_7 fd_127_0 dX9_after_30 ?_
        refine kx_iconst (pc := 33) C (v := nI 1) dX9_after_33 (by decide) ?_
        refine kx_iald (pc := 34) C ia_128 (by omega) e1 dX9_after_34 ?_
        refine kx_icmp_geN (pc := 35) C 62 (by omega) (by omega) dX9_after_35 (by decide) (fun c35 => ?_) (fun c35 => ?_)
        · omega
        · refine kx_ild3 (pc := 38) C dX9_after_38 ?_
          refine kx_ald0 (pc := 39) C dX9_after_39 ?_
          refine kx_getr (pc := 40) C fl_X9_7 fd_127_0 dX9_after_40 ?_
          refine kx_iconst (pc := 43) C (v := nI 0) dX9_after_43 (by decide) ?_
          refine kx_iald (pc := 44) C ia_128 (by omega) e0 dX9_after_44 ?_
          refine kx_icmp_geN (pc := 45) C 57 (by omega) (by omega) dX9_after_45 (by decide) (fun c45 => ?_) (fun c45 => ?_)
          · refine kx_bipush (pc := 57) C (v := -4) dX9_after_57 (by decide) ?_
            refine kx_goto (pc := 59) C 94 dX9_after_59 (by decide) ?_
            first | exact hR dX9_after_94 rfl ⟨rfl, by rw [if_pos (by omega)]⟩ | exact hR dX9_after_94 rfl ⟨rfl, by rw [if_neg (by omega)]⟩
          · refine kx_bipush (pc := 48) C (v := nI 10) dX9_after_48 (by decide) ?_
            refine kx_ild3 (pc := 50) C dX9_after_50 ?_
            first | refine kx_imulN (pc := 51) C dX9_after_51 ?_ | refine kx_imul (pc := 51) C dX9_after_51 ?_
            refine kx_ild2 (pc := 52) C dX9_after_52 ?_
            first | refine kx_iaddN (pc := 53) C dX9_after_53 ?_ | refine kx_iadd (pc := 53) C dX9_after_53 ?_
            refine kx_goto (pc := 54) C 94 dX9_after_54 (by decide) ?_
            first | exact hR dX9_after_94 rfl ⟨rfl, by rw [if_pos (by omega)]⟩ | exact hR dX9_after_94 rfl ⟨rfl, by rw [if_neg (by omega)]⟩
  · refine kx_ild1 (pc := 0) C dX9_after_0 ?_
    refine kx_if_geI (pc := 1) C 8 dX9_after_1 (by decide) (fun c1 => ?_) (fun c1 => ?_)
    · refine kx_ild1 (pc := 8) C dX9_after_8 ?_
      refine kx_bipush (pc := 9) C (v := nI 10) dX9_after_9 (by decide) ?_
      refine kx_iremN (pc := 11) C (by omega) (by omega) (by omega) dX9_after_11 ?_
      rw [show (10 * u + d) % 10 = d by omega]
      refine kx_iconst (pc := 12) C (v := nI 1) dX9_after_12 (by decide) ?_
      first | refine kx_iaddN (pc := 13) C dX9_after_13 ?_ | refine kx_iadd (pc := 13) C dX9_after_13 ?_
      refine kx_ist2 (pc := 14) C dX9_after_14 (by decide) rfl ?_
      refine kx_ild1 (pc := 15) C dX9_after_15 ?_
      refine kx_if_geI (pc := 16) C 23 dX9_after_16 (by decide) (fun c16 => ?_) (fun c16 => ?_)
      · refine kx_ild1 (pc := 23) C dX9_after_23 ?_
        refine kx_bipush (pc := 24) C (v := nI 10) dX9_after_24 (by decide) ?_
        refine kx_idivN (pc := 26) C (by omega) (by omega) (by omega) dX9_after_26 ?_
        rw [show (10 * u + d) / 10 = u by omega]
        refine kx_ist3 (pc := 27) C dX9_after_27 (by decide) rfl ?_
        refine kx_ild2 (pc := 28) C dX9_after_28 ?_
        refine kx_ald0 (pc := 29) C dX9_after_29 ?_
        refine kx_getr (pc := 30) C fl_X9_7 fd_127_0 dX9_after_30 ?_
        refine kx_iconst (pc := 33) C (v := nI 1) dX9_after_33 (by decide) ?_
        refine kx_iald (pc := 34) C ia_128 (by omega) e1 dX9_after_34 ?_
        refine kx_icmp_geN (pc := 35) C 62 (by omega) (by omega) dX9_after_35 (by decide) (fun c35 => ?_) (fun c35 => ?_)
        · refine kx_ild3 (pc := 62) C dX9_after_62 ?_
          refine kx_iconst (pc := 63) C (v := nI 1) dX9_after_63 (by decide) ?_
          first | refine kx_iaddN (pc := 64) C dX9_after_64 ?_ | refine kx_iadd (pc := 64) C dX9_after_64 ?_
          refine kx_ald0 (pc := 65) C dX9_after_65 ?_
          refine kx_getr (pc := 66) C fl_X9_7 fd_127_0 dX9_after_66 ?_
          refine kx_iconst (pc := 69) C (v := nI 0) dX9_after_69 (by decide) ?_
          refine kx_iald (pc := 70) C ia_128 (by omega) e0 dX9_after_70 ?_
          refine kx_icmp_geN (pc := 71) C 92 (by omega) (by omega) dX9_after_71 (by decide) (fun c71 => ?_) (fun c71 => ?_)
          · refine kx_bipush (pc := 92) C (v := -4) dX9_after_92 (by decide) ?_
            first
              | (exfalso; omega)
              | (have e2 : t = u := by omega
                 have e3 : e = d + 1 := by omega
                 subst e2; subst e3
                 exact hR dX9_after_94 rfl ⟨rfl, by rw [if_pos (by omega)]⟩)
              | (have e2 : t = u + 1 := by omega
                 have e3 : e = 0 := by omega
                 subst e2; subst e3
                 exact hR dX9_after_94 rfl ⟨rfl, by rw [if_pos (by omega)]; rfl⟩)
              | exact hR dX9_after_94 rfl ⟨rfl, by rw [if_neg (by omega)]⟩
          · refine kx_ald0 (pc := 74) C dX9_after_74 ?_
            refine kx_getr (pc := 75) C fl_X9_7 fd_127_0 dX9_after_75 ?_
            refine kx_iconst (pc := 78) C (v := nI 1) dX9_after_78 (by decide) ?_
            refine kx_iald (pc := 79) C ia_128 (by omega) e1 dX9_after_79 ?_
            refine kx_if_leN (pc := 80) C 92 (by omega) dX9_after_80 (by decide) (fun c80 => ?_) (fun c80 => ?_)
            · refine kx_bipush (pc := 92) C (v := -4) dX9_after_92 (by decide) ?_
              first
                | (exfalso; omega)
                | (have e2 : t = u := by omega
                   have e3 : e = d + 1 := by omega
                   subst e2; subst e3
                   exact hR dX9_after_94 rfl ⟨rfl, by rw [if_pos (by omega)]⟩)
                | (have e2 : t = u + 1 := by omega
                   have e3 : e = 0 := by omega
                   subst e2; subst e3
                   exact hR dX9_after_94 rfl ⟨rfl, by rw [if_pos (by omega)]; rfl⟩)
                | exact hR dX9_after_94 rfl ⟨rfl, by rw [if_neg (by omega)]⟩
            · refine kx_bipush (pc := 83) C (v := nI 10) dX9_after_83 (by decide) ?_
              refine kx_ild3 (pc := 85) C dX9_after_85 ?_
              refine kx_iconst (pc := 86) C (v := nI 1) dX9_after_86 (by decide) ?_
              first | refine kx_iaddN (pc := 87) C dX9_after_87 ?_ | refine kx_iadd (pc := 87) C dX9_after_87 ?_
              first | refine kx_imulN (pc := 88) C dX9_after_88 ?_ | refine kx_imul (pc := 88) C dX9_after_88 ?_
              refine kx_goto (pc := 89) C 94 dX9_after_89 (by decide) ?_
              first
                | (exfalso; omega)
                | (have e2 : t = u := by omega
                   have e3 : e = d + 1 := by omega
                   subst e2; subst e3
                   exact hR dX9_after_94 rfl ⟨rfl, by rw [if_pos (by omega)]⟩)
                | (have e2 : t = u + 1 := by omega
                   have e3 : e = 0 := by omega
                   subst e2; subst e3
                   exact hR dX9_after_94 rfl ⟨rfl, by rw [if_pos (by omega)]; rfl⟩)
                | exact hR dX9_after_94 rfl ⟨rfl, by rw [if_neg (by omega)]⟩
        · refine kx_ild3 (pc := 38) C dX9_after_38 ?_
          refine kx_ald0 (pc := 39) C dX9_after_39 ?_
          refine kx_getr (pc := 40) C fl_X9_7 fd_127_0 dX9_after_40 ?_
          refine kx_iconst (pc := 43) C (v := nI 0) dX9_after_43 (by decide) ?_
          refine kx_iald (pc := 44) C ia_128 (by omega) e0 dX9_after_44 ?_
          refine kx_icmp_geN (pc := 45) C 57 (by omega) (by omega) dX9_after_45 (by decide) (fun c45 => ?_) (fun c45 => ?_)
          · refine kx_bipush (pc := 57) C (v := -4) dX9_after_57 (by decide) ?_
            refine kx_goto (pc := 59) C 94 dX9_after_59 (by decide) ?_
            first
              | (exfalso; omega)
              | (have e2 : t = u := by omega
                 have e3 : e = d + 1 := by omega
                 subst e2; subst e3
                 exact hR dX9_after_94 rfl ⟨rfl, by rw [if_pos (by omega)]⟩)
              | (have e2 : t = u + 1 := by omega
                 have e3 : e = 0 := by omega
                 subst e2; subst e3
                 exact hR dX9_after_94 rfl ⟨rfl, by rw [if_pos (by omega)]; rfl⟩)
              | exact hR dX9_after_94 rfl ⟨rfl, by rw [if_neg (by omega)]⟩
          · refine kx_bipush (pc := 48) C (v := nI 10) dX9_after_48 (by decide) ?_
            refine kx_ild3 (pc := 50) C dX9_after_50 ?_
            first | refine kx_imulN (pc := 51) C dX9_after_51 ?_ | refine kx_imul (pc := 51) C dX9_after_51 ?_
            refine kx_ild2 (pc := 52) C dX9_after_52 ?_
            first | refine kx_iaddN (pc := 53) C dX9_after_53 ?_ | refine kx_iadd (pc := 53) C dX9_after_53 ?_
            refine kx_goto (pc := 54) C 94 dX9_after_54 (by decide) ?_
            first
              | (exfalso; omega)
              | (have e2 : t = u := by omega
                 have e3 : e = d + 1 := by omega
                 subst e2; subst e3
                 exact hR dX9_after_94 rfl ⟨rfl, by rw [if_pos (by omega)]⟩)
              | (have e2 : t = u + 1 := by omega
                 have e3 : e = 0 := by omega
                 subst e2; subst e3
                 exact hR dX9_after_94 rfl ⟨rfl, by rw [if_pos (by omega)]; rfl⟩)
              | exact hR dX9_after_94 rfl ⟨rfl, by rw [if_neg (by omega)]⟩
      · rw [kx_T (by omega)] at c16
        omega
    · rw [kx_T (by omega)] at c1
      omega

