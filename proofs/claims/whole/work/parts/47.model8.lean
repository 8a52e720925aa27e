set_option maxHeartbeats 4000000 in
set_option maxRecDepth 100000 in
theorem m_X9_becomes {h : kx_H} {a v : Nat → Nat} {t x k f0 n : Nat} (hM : ∀ k, k < 141 → k ≠ 4 → k ≠ 5 → k ≠ 6 → h 128 k = nI (a k)) (hRB : st_RB a) (hE : 0 < a 1) (hE4 : a 1 ≤ 4) (hk1 : 1 ≤ k) (hk3 : k ≤ 3) (ht : t < 8) (hx : x < 100) (hn : n ≤ 9) (hf : f0 + n ≤ 96) (hv : ∀ i, i < n → h 133 (f0 + i) = nI (v i)) (hv9 : ∀ i, i < n → v i ≤ 9) : kx_MI 2 yX9_becomes cX9_becomes 10 .boolean [.ref 127, .int (nI t), .int (nI x), .int (nI k), .int (nI f0), .int (nI n)] h (fun r h1 => r = (if sp_Px a t k n v x = true then 1 else 0) ∧ ∀ d j, d ≠ 140 → d ≠ 141 → h1 d j = h d j) := by
  refine kx_mkI (own := RX9) (L0 := [some (.ref 127), some (.int (nI t)), some (.int (nI x)), some (.int (nI k)), some (.int (nI f0)), some (.int (nI n)), none, none, none, none]) rfl (by decide +kernel) (Nat.le_of_ble_eq_true rfl) rfl (fun F C hR => ?_)
  have h1E : h 128 1 = nI (a 1) := hM 1 (by omega) (by omega) (by omega) (by omega)
  have vrl : ∀ e i, i < n → sp_vr a t n (sp_dg (a 1) k x) e i ≤ 9 := fun e i hi => sp_vr_le hRB ht hn hi
  have fin : ∀ (q i : Nat) (g : kx_H) (o9 : Option Value) (o6 : Int32), n - i = q → i ≤ n → (∀ i, i < n → g 140 i = nI (sp_vr a t n (sp_dg (a 1) k x) k i)) → (∀ d j, d ≠ 140 → d ≠ 141 → g d j = h d j) → F 201 [some (.ref 127), some (.int (nI t)), some (.int (nI x)), some (.int (nI k)), some (.int (nI f0)), some (.int (nI n)), some (.int o6), some (.int (if sp_all (fun i => decide (sp_vr a t n (sp_dg (a 1) k x) k i = v i)) i = true then 1 else 0)), some (.int (nI i)), o9] [] g := by
    intro q
    induction q with
    | zero =>
      intro i g o9 o6 hq hi g1 g2
      have ei : i = n := by omega
      subst ei
      refine kx_ild8 (pc := 201) C dX9_becomes_201 ?_
      refine kx_ild5 (pc := 203) C dX9_becomes_203 ?_
      refine kx_icmp_geN (pc := 205) C 246 (by omega) (by omega) dX9_becomes_205 (by decide) (fun c205 => ?_) (fun c205 => ?_)
      · refine kx_ild7 (pc := 246) C dX9_becomes_246 ?_
        exact hR dX9_becomes_248 (kx_b01 _) ⟨rfl, g2⟩
      · omega
    | succ q ih =>
      intro i g o9 o6 hq hi g1 g2
      have e1 := g1 i (by omega)
      have e2 : g 133 (f0 + i) = nI (v i) := by rw [g2 _ _ (by omega) (by omega)]; exact hv i (by omega)
      have l1 := vrl k i (by omega)
      have l2 := hv9 i (by omega)
      have h3 := ih (i + 1) g o9 o6 (by omega) (by omega) g1 g2
      rw [show sp_all (fun i => decide (sp_vr a t n (sp_dg (a 1) k x) k i = v i)) (i + 1) = (sp_all (fun i => decide (sp_vr a t n (sp_dg (a 1) k x) k i = v i)) i && decide (sp_vr a t n (sp_dg (a 1) k x) k i = v i)) from rfl] at h3
      refine kx_ild8 (pc := 201) C dX9_becomes_201 ?_
      refine kx_ild5 (pc := 203) C dX9_becomes_203 ?_
      refine kx_icmp_geN (pc := 205) C 246 (by omega) (by omega) dX9_becomes_205 (by decide) (fun c205 => ?_) (fun c205 => ?_)
      · omega
      · refine kx_ild7 (pc := 208) C dX9_becomes_208 ?_
        refine kx_if_eq (pc := 210) C 237 dX9_becomes_210 (by decide) (fun c210 => ?_) (fun c210 => ?_)
        · refine kx_iconst (pc := 237) C (v := nI 0) dX9_becomes_237 (by decide) ?_
          refine kx_ist7 (pc := 238) C dX9_becomes_238 (by decide) rfl ?_
          first | refine kx_inc8 (pc := 240) C (v := nI (_ + 1)) dX9_becomes_240 (by decide) rfl (nI_1 _) ?_ | refine kx_inc8 (pc := 240) C dX9_becomes_240 (by decide) rfl rfl ?_
          refine kx_goto (pc := 243) C 201 dX9_becomes_243 (by decide) ?_
          first
            | (have f1 := kx_if1 c210
               rw [f1, Bool.true_and, decide_eq_true (by omega)] at h3
               exact h3)
            | (have f1 := kx_if1 c210
               rw [f1, Bool.true_and, decide_eq_false (by omega)] at h3
               exact h3)
            | (have f1 := Bool.eq_false_iff.mpr (kx_if0 c210)
               rw [f1, Bool.false_and] at h3
               exact h3)
        · refine kx_ald0 (pc := 213) C dX9_becomes_213 ?_
          refine kx_getr (pc := 214) C fl_X9_46 fd_127_14 dX9_becomes_214 ?_
          refine kx_ild8 (pc := 217) C dX9_becomes_217 ?_
          refine kx_iald (pc := 219) C ia_140 (by omega) e1 dX9_becomes_219 ?_
          refine kx_ald0 (pc := 220) C dX9_becomes_220 ?_
          refine kx_getr (pc := 221) C fl_X9_25 fd_127_7 dX9_becomes_221 ?_
          refine kx_ild4 (pc := 224) C dX9_becomes_224 ?_
          refine kx_ild8 (pc := 226) C dX9_becomes_226 ?_
          first | refine kx_iaddN (pc := 228) C dX9_becomes_228 ?_ | refine kx_iadd (pc := 228) C dX9_becomes_228 ?_
          refine kx_iald (pc := 229) C ia_133 (by omega) e2 dX9_becomes_229 ?_
          refine kx_icmp_neN (pc := 230) C 237 (by omega) (by omega) dX9_becomes_230 (by decide) (fun c230 => ?_) (fun c230 => ?_)
          · refine kx_iconst (pc := 237) C (v := nI 0) dX9_becomes_237 (by decide) ?_
            refine kx_ist7 (pc := 238) C dX9_becomes_238 (by decide) rfl ?_
            first | refine kx_inc8 (pc := 240) C (v := nI (_ + 1)) dX9_becomes_240 (by decide) rfl (nI_1 _) ?_ | refine kx_inc8 (pc := 240) C dX9_becomes_240 (by decide) rfl rfl ?_
            refine kx_goto (pc := 243) C 201 dX9_becomes_243 (by decide) ?_
            first
              | (have f1 := kx_if1 c210
                 rw [f1, Bool.true_and, decide_eq_true (by omega)] at h3
                 exact h3)
              | (have f1 := kx_if1 c210
                 rw [f1, Bool.true_and, decide_eq_false (by omega)] at h3
                 exact h3)
              | (have f1 := Bool.eq_false_iff.mpr (kx_if0 c210)
                 rw [f1, Bool.false_and] at h3
                 exact h3)
          · refine kx_iconst (pc := 233) C (v := nI 1) dX9_becomes_233 (by decide) ?_
            refine kx_goto (pc := 234) C 238 dX9_becomes_234 (by decide) ?_
            refine kx_ist7 (pc := 238) C dX9_becomes_238 (by decide) rfl ?_
            first | refine kx_inc8 (pc := 240) C (v := nI (_ + 1)) dX9_becomes_240 (by decide) rfl (nI_1 _) ?_ | refine kx_inc8 (pc := 240) C dX9_becomes_240 (by decide) rfl rfl ?_
            refine kx_goto (pc := 243) C 201 dX9_becomes_243 (by decide) ?_
            first
              | (have f1 := kx_if1 c210
                 rw [f1, Bool.true_and, decide_eq_true (by omega)] at h3
                 exact h3)
              | (have f1 := kx_if1 c210
                 rw [f1, Bool.true_and, decide_eq_false (by omega)] at h3
                 exact h3)
              | (have f1 := Bool.eq_false_iff.mpr (kx_if0 c210)
                 rw [f1, Bool.false_and] at h3
                 exact h3)
  have main : ∀ (q e u : Nat) (g : kx_H) (o8 o9 : Option Value), k - e = q → e ≤ k → u ≤ 64 → (e < k → u = (a 1) ^ (k - 1 - e)) → (∀ i, i < n → g 140 i = nI (sp_vr a t n (sp_dg (a 1) k x) e i)) → (∀ d j, d ≠ 140 → d ≠ 141 → g d j = h d j) → F 70 [some (.ref 127), some (.int (nI t)), some (.int (nI x)), some (.int (nI k)), some (.int (nI f0)), some (.int (nI n)), some (.int (nI u)), some (.int (nI e)), o8, o9] [] g := by
    intro q
    induction q with
    | zero =>
      intro e u g o8 o9 hq he hu hue g1 g2
      have ee : e = k := by omega
      subst ee
      refine kx_ild7 (pc := 70) C dX9_becomes_70 ?_
      refine kx_ild3 (pc := 72) C dX9_becomes_72 ?_
      refine kx_icmp_geN (pc := 73) C 195 (by omega) (by omega) dX9_becomes_73 (by decide) (fun c73 => ?_) (fun c73 => ?_)
      · refine kx_iconst (pc := 195) C (v := nI 1) dX9_becomes_195 (by decide) ?_
        refine kx_ist7 (pc := 196) C dX9_becomes_196 (by decide) rfl ?_
        refine kx_iconst (pc := 198) C (v := nI 0) dX9_becomes_198 (by decide) ?_
        refine kx_ist8 (pc := 199) C dX9_becomes_199 (by decide) rfl ?_
        exact fin n 0 g _ _ (by omega) (by omega) g1 g2
      · omega
    | succ q ih =>
      intro e u g o8 o9 hq he hu hue g1 g2
      have hue := hue (by omega)
      have hup : 0 < u := by rw [hue]; exact Nat.pow_pos hE
      have e1 : g 128 1 = nI (a 1) := by rw [g2 _ _ (by omega) (by omega)]; exact h1E
      have hdg : x / u % a 1 = sp_dg (a 1) k x e := by rw [hue]; rfl
      have hdl : x / u % a 1 < a 1 := Nat.mod_lt _ hE
      have ek : g 128 (89 + x / u % a 1) = nI (a (89 + x / u % a 1)) := by rw [g2 _ _ (by omega) (by omega)]; exact hM _ (by omega) (by omega) (by omega) (by omega)
      have hk3' := hRB.2.2 (x / u % a 1) (by omega)
      have hxd : x / u ≤ x := Nat.div_le_self _ _
      have hud : u / a 1 ≤ u := Nat.div_le_self _ _
      have hnext : e + 1 < k → u / a 1 = (a 1) ^ (k - 1 - (e + 1)) := fun z => by
        rw [hue, show k - 1 - e = (k - 1 - (e + 1)) + 1 by omega, Nat.pow_succ, Nat.mul_div_cancel _ hE]
      have hvr : ∀ i, sp_vr a t n (sp_dg (a 1) k x) (e + 1) i = sp_by (a (89 + x / u % a 1)) (sp_vr a t n (sp_dg (a 1) k x) e (sp_ix (a (89 + x / u % a 1)) n i)) := fun i => by rw [hdg]; rfl
      have back : ∀ (c i : Nat) (g : kx_H), n - i = c → i ≤ n → (∀ j, j < n → g 141 j = nI (sp_vr a t n (sp_dg (a 1) k x) (e + 1) j)) → (∀ j, j < i → g 140 j = nI (sp_vr a t n (sp_dg (a 1) k x) (e + 1) j)) → (∀ d j, d ≠ 140 → d ≠ 141 → g d j = h d j) → F 162 [some (.ref 127), some (.int (nI t)), some (.int (nI x)), some (.int (nI k)), some (.int (nI f0)), some (.int (nI n)), some (.int (nI (u / a 1))), some (.int (nI e)), some (.int (nI (a (89 + x / u % a 1)))), some (.int (nI i))] [] g := by
        intro c
        induction c with
        | zero =>
          intro i g hc hi g3 g4 g5
          refine kx_ild9 (pc := 162) C dX9_becomes_162 ?_
          refine kx_ild5 (pc := 164) C dX9_becomes_164 ?_
          refine kx_icmp_geN (pc := 166) C 189 (by omega) (by omega) dX9_becomes_166 (by decide) (fun c166 => ?_) (fun c166 => ?_)
          · first | refine kx_inc7 (pc := 189) C (v := nI (_ + 1)) dX9_becomes_189 (by decide) rfl (nI_1 _) ?_ | refine kx_inc7 (pc := 189) C dX9_becomes_189 (by decide) rfl rfl ?_
            refine kx_goto (pc := 192) C 70 dX9_becomes_192 (by decide) ?_
            exact ih (e + 1) (u / a 1) g _ _ (by omega) (by omega) (by omega) hnext (fun j hj => g4 j (by omega)) g5
          · omega
        | succ c ih2 =>
          intro i g hc hi g3 g4 g5
          have er := g3 i (by omega)
          refine kx_ild9 (pc := 162) C dX9_becomes_162 ?_
          refine kx_ild5 (pc := 164) C dX9_becomes_164 ?_
          refine kx_icmp_geN (pc := 166) C 189 (by omega) (by omega) dX9_becomes_166 (by decide) (fun c166 => ?_) (fun c166 => ?_)
          · omega
          · refine kx_ald0 (pc := 169) C dX9_becomes_169 ?_
            refine kx_getr (pc := 170) C fl_X9_46 fd_127_14 dX9_becomes_170 ?_
            refine kx_ild9 (pc := 173) C dX9_becomes_173 ?_
            refine kx_ald0 (pc := 175) C dX9_becomes_175 ?_
            refine kx_getr (pc := 176) C fl_X9_49 fd_127_15 dX9_becomes_176 ?_
            refine kx_ild9 (pc := 179) C dX9_becomes_179 ?_
            refine kx_iald (pc := 181) C ia_141 (by omega) er dX9_becomes_181 ?_
            refine kx_iast (pc := 182) C ia_140 (by omega) dX9_becomes_182 ?_
            first | refine kx_inc9 (pc := 183) C (v := nI (_ + 1)) dX9_becomes_183 (by decide) rfl (nI_1 _) ?_ | refine kx_inc9 (pc := 183) C dX9_becomes_183 (by decide) rfl rfl ?_
            refine kx_goto (pc := 186) C 162 dX9_becomes_186 (by decide) ?_
            refine ih2 (i + 1) _ (by omega) (by omega) (fun j hj => by rw [kx_up, if_neg (by omega)]; exact g3 j hj) (fun j hj => ?_) (fun d j h1 h2 => by rw [kx_up, if_neg (by omega)]; exact g5 d j h1 h2)
            by_cases z : j = i
            · rw [z, kx_up, if_pos ⟨rfl, rfl⟩]
            · rw [kx_up, if_neg (by omega)]; exact g4 j (by omega)
      have forth : ∀ (c i : Nat) (g : kx_H), n - i = c → i ≤ n → (∀ j, j < n → g 140 j = nI (sp_vr a t n (sp_dg (a 1) k x) e j)) → (∀ j, j < i → g 141 j = nI (sp_vr a t n (sp_dg (a 1) k x) (e + 1) j)) → (∀ d j, d ≠ 140 → d ≠ 141 → g d j = h d j) → F 111 [some (.ref 127), some (.int (nI t)), some (.int (nI x)), some (.int (nI k)), some (.int (nI f0)), some (.int (nI n)), some (.int (nI (u / a 1))), some (.int (nI e)), some (.int (nI (a (89 + x / u % a 1)))), some (.int (nI i))] [] g := by
        intro c
        induction c with
        | zero =>
          intro i g hc hi g3 g4 g5
          refine kx_ild9 (pc := 111) C dX9_becomes_111 ?_
          refine kx_ild5 (pc := 113) C dX9_becomes_113 ?_
          refine kx_icmp_geN (pc := 115) C 159 (by omega) (by omega) dX9_becomes_115 (by decide) (fun c115 => ?_) (fun c115 => ?_)
          · refine kx_iconst (pc := 159) C (v := nI 0) dX9_becomes_159 (by decide) ?_
            refine kx_ist9 (pc := 160) C dX9_becomes_160 (by decide) rfl ?_
            exact back n 0 g (by omega) (by omega) (fun j hj => g4 j (by omega)) (fun j hj => absurd hj (by omega)) g5
          · omega
        | succ c ih2 =>
          intro i g hc hi g3 g4 g5
          have er1 := g3 i (by omega)
          have er2 := g3 (n - 1 - i) (by omega)
          have l1 := vrl e i (by omega)
          have l2 := vrl e (n - 1 - i) (by omega)
          have hvi := hvr i
          refine kx_ild9 (pc := 111) C dX9_becomes_111 ?_
          refine kx_ild5 (pc := 113) C dX9_becomes_113 ?_
          refine kx_icmp_geN (pc := 115) C 159 (by omega) (by omega) dX9_becomes_115 (by decide) (fun c115 => ?_) (fun c115 => ?_)
          · omega
          · refine kx_ald0 (pc := 118) C dX9_becomes_118 ?_
            refine kx_getr (pc := 119) C fl_X9_49 fd_127_15 dX9_becomes_119 ?_
            refine kx_ild9 (pc := 122) C dX9_becomes_122 ?_
            refine kx_ild8 (pc := 124) C dX9_becomes_124 ?_
            refine kx_ald0 (pc := 126) C dX9_becomes_126 ?_
            refine kx_getr (pc := 127) C fl_X9_46 fd_127_14 dX9_becomes_127 ?_
            refine kx_ild8 (pc := 130) C dX9_becomes_130 ?_
            refine kx_iconst (pc := 132) C (v := nI 3) dX9_becomes_132 (by decide) ?_
            refine kx_icmp_neN (pc := 133) C 146 (by omega) (by omega) dX9_becomes_133 (by decide) (fun c133 => ?_) (fun c133 => ?_)
            · refine kx_ild9 (pc := 146) C dX9_becomes_146 ?_
              refine kx_iald (pc := 148) C ia_140 (by omega) (by first | exact er1 | exact er2) dX9_becomes_148 ?_
              refine kx_callSI2 (pc := 149) C cs_X9_86 (m_X9_by (by omega) (by first | exact l1 | exact l2)) (by decide) dX9_becomes_149 (Nat.le_of_ble_eq_true rfl) (fun r149 h149 q149 => ?_)
              obtain ⟨z149, rfl⟩ := q149
              have z149 := z149.symm
              subst z149
              refine kx_iast (pc := 152) C ia_141 (by omega) dX9_becomes_152 ?_
              first | refine kx_inc9 (pc := 153) C (v := nI (_ + 1)) dX9_becomes_153 (by decide) rfl (nI_1 _) ?_ | refine kx_inc9 (pc := 153) C dX9_becomes_153 (by decide) rfl rfl ?_
              refine kx_goto (pc := 156) C 111 dX9_becomes_156 (by decide) ?_
              refine ih2 (i + 1) _ (by omega) (by omega) (fun j hj => by rw [kx_up, if_neg (by omega)]; exact g3 j hj) (fun j hj => ?_) (fun d j h1 h2 => by rw [kx_up, if_neg (by omega)]; exact g5 d j h1 h2)
              by_cases z : j = i
              · rw [z, kx_up, if_pos ⟨rfl, rfl⟩, hvi]
                unfold sp_ix
                first
                  | rw [if_pos (by omega)]
                  | rw [if_neg (by omega)]
              · rw [kx_up, if_neg (by omega)]; exact g4 j (by omega)
            · refine kx_ild5 (pc := 136) C dX9_becomes_136 ?_
              refine kx_iconst (pc := 138) C (v := nI 1) dX9_becomes_138 (by decide) ?_
              refine kx_isubN (pc := 139) C (by omega) dX9_becomes_139 ?_
              refine kx_ild9 (pc := 140) C dX9_becomes_140 ?_
              refine kx_isubN (pc := 142) C (by omega) dX9_becomes_142 ?_
              refine kx_goto (pc := 143) C 148 dX9_becomes_143 (by decide) ?_
              refine kx_iald (pc := 148) C ia_140 (by omega) (by first | exact er1 | exact er2) dX9_becomes_148 ?_
              refine kx_callSI2 (pc := 149) C cs_X9_86 (m_X9_by (by omega) (by first | exact l1 | exact l2)) (by decide) dX9_becomes_149 (Nat.le_of_ble_eq_true rfl) (fun r149 h149 q149 => ?_)
              obtain ⟨z149, rfl⟩ := q149
              have z149 := z149.symm
              subst z149
              refine kx_iast (pc := 152) C ia_141 (by omega) dX9_becomes_152 ?_
              first | refine kx_inc9 (pc := 153) C (v := nI (_ + 1)) dX9_becomes_153 (by decide) rfl (nI_1 _) ?_ | refine kx_inc9 (pc := 153) C dX9_becomes_153 (by decide) rfl rfl ?_
              refine kx_goto (pc := 156) C 111 dX9_becomes_156 (by decide) ?_
              refine ih2 (i + 1) _ (by omega) (by omega) (fun j hj => by rw [kx_up, if_neg (by omega)]; exact g3 j hj) (fun j hj => ?_) (fun d j h1 h2 => by rw [kx_up, if_neg (by omega)]; exact g5 d j h1 h2)
              by_cases z : j = i
              · rw [z, kx_up, if_pos ⟨rfl, rfl⟩, hvi]
                unfold sp_ix
                first
                  | rw [if_pos (by omega)]
                  | rw [if_neg (by omega)]
              · rw [kx_up, if_neg (by omega)]; exact g4 j (by omega)
      refine kx_ild7 (pc := 70) C dX9_becomes_70 ?_
      refine kx_ild3 (pc := 72) C dX9_becomes_72 ?_
      refine kx_icmp_geN (pc := 73) C 195 (by omega) (by omega) dX9_becomes_73 (by decide) (fun c73 => ?_) (fun c73 => ?_)
      · omega
      · refine kx_ald0 (pc := 76) C dX9_becomes_76 ?_
        refine kx_getr (pc := 77) C fl_X9_7 fd_127_0 dX9_becomes_77 ?_
        refine kx_bipush (pc := 80) C (v := nI 89) dX9_becomes_80 (by decide) ?_
        refine kx_ild2 (pc := 82) C dX9_becomes_82 ?_
        refine kx_ild6 (pc := 83) C dX9_becomes_83 ?_
        refine kx_idivN (pc := 85) C (by omega) (by omega) (by omega) dX9_becomes_85 ?_
        refine kx_ald0 (pc := 86) C dX9_becomes_86 ?_
        refine kx_getr (pc := 87) C fl_X9_7 fd_127_0 dX9_becomes_87 ?_
        refine kx_iconst (pc := 90) C (v := nI 1) dX9_becomes_90 (by decide) ?_
        refine kx_iald (pc := 91) C ia_128 (by omega) e1 dX9_becomes_91 ?_
        refine kx_iremN (pc := 92) C (by omega) (by omega) (by omega) dX9_becomes_92 ?_
        first | refine kx_iaddN (pc := 93) C dX9_becomes_93 ?_ | refine kx_iadd (pc := 93) C dX9_becomes_93 ?_
        refine kx_iald (pc := 94) C ia_128 (by omega) ek dX9_becomes_94 ?_
        refine kx_ist8 (pc := 95) C dX9_becomes_95 (by decide) rfl ?_
        refine kx_ild6 (pc := 97) C dX9_becomes_97 ?_
        refine kx_ald0 (pc := 99) C dX9_becomes_99 ?_
        refine kx_getr (pc := 100) C fl_X9_7 fd_127_0 dX9_becomes_100 ?_
        refine kx_iconst (pc := 103) C (v := nI 1) dX9_becomes_103 (by decide) ?_
        refine kx_iald (pc := 104) C ia_128 (by omega) e1 dX9_becomes_104 ?_
        refine kx_idivN (pc := 105) C (by omega) (by omega) (by omega) dX9_becomes_105 ?_
        refine kx_ist6 (pc := 106) C dX9_becomes_106 (by decide) rfl ?_
        refine kx_iconst (pc := 108) C (v := nI 0) dX9_becomes_108 (by decide) ?_
        refine kx_ist9 (pc := 109) C dX9_becomes_109 (by decide) rfl ?_
        exact forth n 0 g (by omega) (by omega) g1 (fun j hj => absurd hj (by omega)) g2
  have unit : ∀ (q e : Nat) (g : kx_H) (o8 o9 : Option Value), k - 1 - e = q → e ≤ k - 1 → (∀ i, i < n → g 140 i = nI (sp_vr a t n (sp_dg (a 1) k x) 0 i)) → (∀ d j, d ≠ 140 → d ≠ 141 → g d j = h d j) → F 44 [some (.ref 127), some (.int (nI t)), some (.int (nI x)), some (.int (nI k)), some (.int (nI f0)), some (.int (nI n)), some (.int (nI ((a 1) ^ e))), some (.int (nI (e + 1))), o8, o9] [] g := by
    intro q
    induction q with
    | zero =>
      intro e g o8 o9 hq he g1 g2
      have ee : e = k - 1 := by omega
      have pl := sp_pw (E := a 1) (k := k - 1) hE4 (by omega)
      refine kx_ild7 (pc := 44) C dX9_becomes_44 ?_
      refine kx_ild3 (pc := 46) C dX9_becomes_46 ?_
      refine kx_icmp_geN (pc := 47) C 67 (by omega) (by omega) dX9_becomes_47 (by decide) (fun c47 => ?_) (fun c47 => ?_)
      · refine kx_iconst (pc := 67) C (v := nI 0) dX9_becomes_67 (by decide) ?_
        refine kx_ist7 (pc := 68) C dX9_becomes_68 (by decide) rfl ?_
        exact main k 0 _ g _ _ (by omega) (by omega) (by rw [ee]; exact pl) (fun _ => by rw [ee]; rfl) g1 g2
      · omega
    | succ q ih =>
      intro e g o8 o9 hq he g1 g2
      have e1 : g 128 1 = nI (a 1) := by rw [g2 _ _ (by omega) (by omega)]; exact h1E
      refine kx_ild7 (pc := 44) C dX9_becomes_44 ?_
      refine kx_ild3 (pc := 46) C dX9_becomes_46 ?_
      refine kx_icmp_geN (pc := 47) C 67 (by omega) (by omega) dX9_becomes_47 (by decide) (fun c47 => ?_) (fun c47 => ?_)
      · omega
      · refine kx_ild6 (pc := 50) C dX9_becomes_50 ?_
        refine kx_ald0 (pc := 52) C dX9_becomes_52 ?_
        refine kx_getr (pc := 53) C fl_X9_7 fd_127_0 dX9_becomes_53 ?_
        refine kx_iconst (pc := 56) C (v := nI 1) dX9_becomes_56 (by decide) ?_
        refine kx_iald (pc := 57) C ia_128 (by omega) e1 dX9_becomes_57 ?_
        first | refine kx_imulN (pc := 58) C dX9_becomes_58 ?_ | refine kx_imul (pc := 58) C dX9_becomes_58 ?_
        refine kx_ist6 (pc := 59) C dX9_becomes_59 (by decide) rfl ?_
        first | refine kx_inc7 (pc := 61) C (v := nI (_ + 1)) dX9_becomes_61 (by decide) rfl (nI_1 _) ?_ | refine kx_inc7 (pc := 61) C dX9_becomes_61 (by decide) rfl rfl ?_
        refine kx_goto (pc := 64) C 44 dX9_becomes_64 (by decide) ?_
        exact ih (e + 1) g _ _ (by omega) (by omega) g1 g2
  have ini : ∀ (q i : Nat) (g : kx_H), n - i = q → i ≤ n → (∀ j, j < i → g 140 j = nI (sp_vr a t n (sp_dg (a 1) k x) 0 j)) → (∀ d j, d ≠ 140 → d ≠ 141 → g d j = h d j) → F 3 [some (.ref 127), some (.int (nI t)), some (.int (nI x)), some (.int (nI k)), some (.int (nI f0)), some (.int (nI n)), some (.int (nI i)), none, none, none] [] g := by
    intro q
    induction q with
    | zero =>
      intro i g hq hi g1 g2
      refine kx_ild6 (pc := 3) C dX9_becomes_3 ?_
      refine kx_ild5 (pc := 5) C dX9_becomes_5 ?_
      refine kx_icmp_geN (pc := 7) C 38 (by omega) (by omega) dX9_becomes_7 (by decide) (fun c7 => ?_) (fun c7 => ?_)
      · refine kx_iconst (pc := 38) C (v := nI 1) dX9_becomes_38 (by decide) ?_
        refine kx_ist6 (pc := 39) C dX9_becomes_39 (by decide) rfl ?_
        refine kx_iconst (pc := 41) C (v := nI 1) dX9_becomes_41 (by decide) ?_
        refine kx_ist7 (pc := 42) C dX9_becomes_42 (by decide) rfl ?_
        have h3 := unit (k - 1) 0 g none none (by omega) (by omega) (fun j hj => g1 j (by omega)) g2
        rw [Nat.pow_zero] at h3
        exact h3
      · omega
    | succ q ih =>
      intro i g hq hi g1 g2
      have ex : g 128 (9 + 9 * t + i) = nI (a (9 + 9 * t + i)) := by rw [g2 _ _ (by omega) (by omega)]; exact hM _ (by omega) (by omega) (by omega) (by omega)
      refine kx_ild6 (pc := 3) C dX9_becomes_3 ?_
      refine kx_ild5 (pc := 5) C dX9_becomes_5 ?_
      refine kx_icmp_geN (pc := 7) C 38 (by omega) (by omega) dX9_becomes_7 (by decide) (fun c7 => ?_) (fun c7 => ?_)
      · omega
      · refine kx_ald0 (pc := 10) C dX9_becomes_10 ?_
        refine kx_getr (pc := 11) C fl_X9_46 fd_127_14 dX9_becomes_11 ?_
        refine kx_ild6 (pc := 14) C dX9_becomes_14 ?_
        refine kx_ald0 (pc := 16) C dX9_becomes_16 ?_
        refine kx_getr (pc := 17) C fl_X9_7 fd_127_0 dX9_becomes_17 ?_
        refine kx_bipush (pc := 20) C (v := nI 9) dX9_becomes_20 (by decide) ?_
        refine kx_bipush (pc := 22) C (v := nI 9) dX9_becomes_22 (by decide) ?_
        refine kx_ild1 (pc := 24) C dX9_becomes_24 ?_
        first | refine kx_imulN (pc := 25) C dX9_becomes_25 ?_ | refine kx_imul (pc := 25) C dX9_becomes_25 ?_
        first | refine kx_iaddN (pc := 26) C dX9_becomes_26 ?_ | refine kx_iadd (pc := 26) C dX9_becomes_26 ?_
        refine kx_ild6 (pc := 27) C dX9_becomes_27 ?_
        first | refine kx_iaddN (pc := 29) C dX9_becomes_29 ?_ | refine kx_iadd (pc := 29) C dX9_becomes_29 ?_
        refine kx_iald (pc := 30) C ia_128 (by omega) ex dX9_becomes_30 ?_
        refine kx_iast (pc := 31) C ia_140 (by omega) dX9_becomes_31 ?_
        first | refine kx_inc6 (pc := 32) C (v := nI (_ + 1)) dX9_becomes_32 (by decide) rfl (nI_1 _) ?_ | refine kx_inc6 (pc := 32) C dX9_becomes_32 (by decide) rfl rfl ?_
        refine kx_goto (pc := 35) C 3 dX9_becomes_35 (by decide) ?_
        refine ih (i + 1) _ (by omega) (by omega) (fun j hj => ?_) (fun d j h1 h2 => by rw [kx_up, if_neg (by omega)]; exact g2 d j h1 h2)
        by_cases z : j = i
        · rw [z, kx_up, if_pos ⟨rfl, rfl⟩]; rfl
        · rw [kx_up, if_neg (by omega)]; exact g1 j (by omega)
  refine kx_iconst (pc := 0) C (v := nI 0) dX9_becomes_0 (by decide) ?_
  refine kx_ist6 (pc := 1) C dX9_becomes_1 (by decide) rfl ?_
  exact ini n 0 h (by omega) (by omega) (fun j hj => absurd hj (by omega)) (fun d j _ _ => rfl)
set_option maxHeartbeats 4000000 in
set_option maxRecDepth 100000 in
theorem m_X9_passed {h : kx_H} {a sl sn : Nat → Nat} {it : kx_H} (tt tk tv l ti tn j : Int32) (hH : st_MH 128 h a) (hB : st_B a) (hs : st_MS h sl sn it) : kx_MI 3 yX9_passed cX9_passed 14 .int [.ref 127, .int tt, .int tk, .int tv, .int l, .int ti, .int tn, .int j] h (fun r h1 => r = sp_passed a sl sn it tt tk tv l ti tn j ∧ ∀ d k, d ≠ 140 → d ≠ 141 → h1 d k = h d k) := by
  refine kx_mkI (own := RX9) (L0 := [some (.ref 127), some (.int tt), some (.int tk), some (.int tv), some (.int l), some (.int ti), some (.int tn), some (.int j), none, none, none, none, none, none]) rfl (by decide +kernel) (Nat.le_of_ble_eq_true rfl) rfl (fun F C hR => ?_)
  obtain ⟨hM, hMB⟩ := id hH
  obtain ⟨⟨b0, b1, b2, b3, b8, b8'⟩, hRB, bl, byy, bh, bz, bb⟩ := id hB
  have hl9 := hRB.1
  have hT : h 128 0 = nI (a 0) := hM 0 (by omega) (by omega) (by omega) (by omega)
  have hE : h 128 1 = nI (a 1) := hM 1 (by omega) (by omega) (by omega) (by omega)
  have hS : h 128 2 = nI (a 2) := hM 2 (by omega) (by omega) (by omega) (by omega)
  have hev : h 128 3 = nI (a 3) := hM 3 (by omega) (by omega) (by omega) (by omega)
  have hme : h 128 8 = nI (a 8) := hM 8 (by omega) (by omega) (by omega) (by omega)
  have main : ∀ (t k v i n : Nat), t < 8 → 1 ≤ k → k ≤ 3 → v < 4 → n ≤ 9 → i + n ≤ 24 → sp_okI it v i n 9 = true → -1 ≤ j.toInt → j.toInt < (k : Int) → (∀ r, r = (if j = -1 then nI (sp_pc a (sp_val it v i) t k n) else if sp_pc a (sp_val it v i) t k n = 0 then -4 else nI (sp_dg (a 1) k (sp_fst (sp_Px a t k n (sp_val it v i)) ((a 1) ^ k)) (kx_n j))) → r = sp_passed a sl sn it tt tk tv l ti tn j) → F 124 [some (.ref 127), some (.int (nI t)), some (.int (nI k)), some (.int (nI v)), some (.int l), some (.int (nI i)), some (.int (nI n)), some (.int j), some (.int 0), some (.int (nI (a 1))), some (.int (nI ((a 1) ^ k))), none, none, none] [] h := by
    intro t k v i n ht hk1 hk3 hv hn hin hok hj1 hj2 hfin
    have hpw := sp_pw (k := k) b1 hk3
    have hl := hl9 t ht
    have hL : h 128 (81 + t) = nI (a (81 + t)) := hM _ (by omega) (by omega) (by omega) (by omega)
    have hvv : ∀ e, e < n → it v (i + e) = nI (sp_val it v i e) ∧ sp_val it v i e ≤ 9 := fun e he => sp_okI_v hok he
    have hi24 : ∀ e, e < n → h 133 (24 * v + i + e) = nI (sp_val it v i e) := fun e he => by rw [hs.at hv (by omega)]; exact (hvv e he).1
    have fin : ∀ (c : Nat) (f : Int32) (g : kx_H) (o13 : Option Value), c = sp_pc a (sp_val it v i) t k n → f = (if sp_pc a (sp_val it v i) t k n = 0 then -4 else nI (sp_fst (sp_Px a t k n (sp_val it v i)) ((a 1) ^ k))) → (∀ d j, d ≠ 140 → d ≠ 141 → g d j = h d j) → F 200 [some (.ref 127), some (.int (nI t)), some (.int (nI k)), some (.int (nI v)), some (.int l), some (.int (nI i)), some (.int (nI n)), some (.int j), some (.int 0), some (.int (nI (a 1))), some (.int (nI ((a 1) ^ k))), some (.int (nI c)), some (.int f), o13] [] g := by
      intro c f g o13 hc hf hg
      have fx := sp_fst_le (sp_Px a t k n (sp_val it v i)) ((a 1) ^ k)
      have cl := sp_pc_le (a := a) (v := sp_val it v i) (t := t) (k := k) (n := n) b1 hk3
      have jm : j.toInt < 0 → j = -1 := fun z => kx_eqI.mpr (by rw [show (-1 : Int32).toInt = -1 from rfl]; omega)
      have dig : ∀ (m q e : Nat), j = nI m → m < k → ¬ sp_pc a (sp_val it v i) t k n = 0 → 0 < a 1 → k - 1 - e = q → m ≤ e → e ≤ k - 1 → F 231 [some (.ref 127), some (.int (nI t)), some (.int (nI k)), some (.int (nI v)), some (.int l), some (.int (nI i)), some (.int (nI n)), some (.int j), some (.int 0), some (.int (nI (a 1))), some (.int (nI ((a 1) ^ k))), some (.int (nI c)), some (.int (nI (sp_fst (sp_Px a t k n (sp_val it v i)) ((a 1) ^ k) / (a 1) ^ (e - m)))), some (.int (nI (e + 1)))] [] g := by
        intro m q
        induction q with
        | zero =>
          intro e ej hm hnz hE hq he1 he2
          have ee : e = k - 1 := by omega
          have dl : sp_fst (sp_Px a t k n (sp_val it v i)) ((a 1) ^ k) / (a 1) ^ (e - m) ≤ sp_fst (sp_Px a t k n (sp_val it v i)) ((a 1) ^ k) := Nat.div_le_self _ _
          refine kx_ild13 (pc := 231) C dX9_passed_231 ?_
          refine kx_ild2 (pc := 233) C dX9_passed_233 ?_
          refine kx_icmp_geN (pc := 234) C 250 (by omega) (by omega) dX9_passed_234 (by decide) (fun c234 => ?_) (fun c234 => ?_)
          · refine kx_ild12 (pc := 250) C dX9_passed_250 ?_
            refine kx_ild9 (pc := 252) C dX9_passed_252 ?_
            refine kx_iremN (pc := 254) C (by omega) (by omega) (by omega) dX9_passed_254 ?_
            exact hR dX9_passed_255 rfl ⟨hfin _ (by rw [ej, if_neg (kx_m1 (by omega)), if_neg hnz, kx_n, kx_n_nI (by omega), sp_dg, ee]), hg⟩
          · omega
        | succ q ih =>
          intro e ej hm hnz hE hq he1 he2
          have dl : sp_fst (sp_Px a t k n (sp_val it v i)) ((a 1) ^ k) / (a 1) ^ (e - m) ≤ sp_fst (sp_Px a t k n (sp_val it v i)) ((a 1) ^ k) := Nat.div_le_self _ _
          have h3 := ih (e + 1) ej hm hnz hE (by omega) (by omega) (by omega)
          rw [show e + 1 - m = (e - m) + 1 by omega, Nat.pow_succ, ← Nat.div_div_eq_div_mul] at h3
          refine kx_ild13 (pc := 231) C dX9_passed_231 ?_
          refine kx_ild2 (pc := 233) C dX9_passed_233 ?_
          refine kx_icmp_geN (pc := 234) C 250 (by omega) (by omega) dX9_passed_234 (by decide) (fun c234 => ?_) (fun c234 => ?_)
          · omega
          · refine kx_ild12 (pc := 237) C dX9_passed_237 ?_
            refine kx_ild9 (pc := 239) C dX9_passed_239 ?_
            refine kx_idivN (pc := 241) C (by omega) (by omega) (by omega) dX9_passed_241 ?_
            refine kx_ist12 (pc := 242) C dX9_passed_242 (by decide) rfl ?_
            first | refine kx_inc13 (pc := 244) C (v := nI (_ + 1)) dX9_passed_244 (by decide) rfl (nI_1 _) ?_ | refine kx_inc13 (pc := 244) C dX9_passed_244 (by decide) rfl rfl ?_
            refine kx_goto (pc := 247) C 231 dX9_passed_247 (by decide) ?_
            exact h3
      refine kx_ild7 (pc := 200) C dX9_passed_200 ?_
      refine kx_if_ltI (pc := 202) C 212 dX9_passed_202 (by decide) (fun c202 => ?_) (fun c202 => ?_)
      · refine kx_ild7 (pc := 212) C dX9_passed_212 ?_
        refine kx_if_geI (pc := 214) C 222 dX9_passed_214 (by decide) (fun c214 => ?_) (fun c214 => ?_)
        · refine kx_bipush (pc := 222) C (v := -4) dX9_passed_222 (by decide) ?_
          first
            | exact hR dX9_passed_224 rfl ⟨hfin _ (by rw [if_pos (jm (by omega)), hc]), hg⟩
            | exact hR dX9_passed_224 rfl ⟨hfin _ (by
                have hz : sp_pc a (sp_val it v i) t k n = 0 := Decidable.byContradiction (fun z => by
                  rw [if_neg z] at hf
                  rw [hf] at c209
                  exact kx_m4 (by omega) c209)
                rw [if_neg (fun z => by rw [z] at c214; exact absurd c214 (by decide)), if_pos hz]), hg⟩
            | omega
        · refine kx_ild11 (pc := 217) C dX9_passed_217 ?_
          refine kx_goto (pc := 219) C 224 dX9_passed_219 (by decide) ?_
          first
            | exact hR dX9_passed_224 rfl ⟨hfin _ (by rw [if_pos (jm (by omega)), hc]), hg⟩
            | exact hR dX9_passed_224 rfl ⟨hfin _ (by
                have hz : sp_pc a (sp_val it v i) t k n = 0 := Decidable.byContradiction (fun z => by
                  rw [if_neg z] at hf
                  rw [hf] at c209
                  exact kx_m4 (by omega) c209)
                rw [if_neg (fun z => by rw [z] at c214; exact absurd c214 (by decide)), if_pos hz]), hg⟩
            | omega
      · refine kx_ild12 (pc := 205) C dX9_passed_205 ?_
        refine kx_bipush (pc := 207) C (v := -4) dX9_passed_207 (by decide) ?_
        refine kx_icmp_ne (pc := 209) C 225 dX9_passed_209 (by decide) (fun c209 => ?_) (fun c209 => ?_)
        · have hnz : ¬ sp_pc a (sp_val it v i) t k n = 0 := fun z => c209 (by rw [hf, if_pos z])
          rw [if_neg hnz] at hf
          obtain ⟨m, rfl, hm, hm2⟩ := kx_nat (show 0 ≤ j.toInt by omega)
          have hE : 0 < a 1 := Nat.pos_of_ne_zero (fun z => hnz (by
            unfold sp_pc
            split
            · rw [z, Nat.zero_pow (by omega)]; rfl
            · rfl))
          refine kx_ild7 (pc := 225) C dX9_passed_225 ?_
          refine kx_iconst (pc := 227) C (v := nI 1) dX9_passed_227 (by decide) ?_
          first | refine kx_iaddN (pc := 228) C dX9_passed_228 ?_ | refine kx_iadd (pc := 228) C dX9_passed_228 ?_
          refine kx_ist13 (pc := 229) C dX9_passed_229 (by decide) rfl ?_
          have h3 := dig m _ m rfl (by omega) hnz hE rfl (by omega) (by omega)
          rw [Nat.sub_self, Nat.pow_zero, Nat.div_one, ← hf] at h3
          exact h3
        · refine kx_ild7 (pc := 212) C dX9_passed_212 ?_
          refine kx_if_geI (pc := 214) C 222 dX9_passed_214 (by decide) (fun c214 => ?_) (fun c214 => ?_)
          · refine kx_bipush (pc := 222) C (v := -4) dX9_passed_222 (by decide) ?_
            first
              | exact hR dX9_passed_224 rfl ⟨hfin _ (by rw [if_pos (jm (by omega)), hc]), hg⟩
              | exact hR dX9_passed_224 rfl ⟨hfin _ (by
                  have hz : sp_pc a (sp_val it v i) t k n = 0 := Decidable.byContradiction (fun z => by
                    rw [if_neg z] at hf
                    rw [hf] at c209
                    exact kx_m4 (by omega) c209)
                  rw [if_neg (fun z => by rw [z] at c214; exact absurd c214 (by decide)), if_pos hz]), hg⟩
              | omega
          · refine kx_ild11 (pc := 217) C dX9_passed_217 ?_
            refine kx_goto (pc := 219) C 224 dX9_passed_219 (by decide) ?_
            first
              | exact hR dX9_passed_224 rfl ⟨hfin _ (by rw [if_pos (jm (by omega)), hc]), hg⟩
              | exact hR dX9_passed_224 rfl ⟨hfin _ (by
                  have hz : sp_pc a (sp_val it v i) t k n = 0 := Decidable.byContradiction (fun z => by
                    rw [if_neg z] at hf
                    rw [hf] at c209
                    exact kx_m4 (by omega) c209)
                  rw [if_neg (fun z => by rw [z] at c214; exact absurd c214 (by decide)), if_pos hz]), hg⟩
              | omega
    have loop : a (81 + t) = n → ∀ (q x : Nat) (g : kx_H), (a 1) ^ k - x = q → x ≤ (a 1) ^ k → (∀ d j, d ≠ 140 → d ≠ 141 → g d j = h d j) → F 134 [some (.ref 127), some (.int (nI t)), some (.int (nI k)), some (.int (nI v)), some (.int l), some (.int (nI i)), some (.int (nI n)), some (.int j), some (.int 0), some (.int (nI (a 1))), some (.int (nI ((a 1) ^ k))), some (.int (nI (sp_ct (sp_Px a t k n (sp_val it v i)) x))), some (.int (sp_fv (sp_Px a t k n (sp_val it v i)) (fun y => y) x)), some (.int (nI x))] [] g := by
      intro hLn q
      induction q with
      | zero =>
        intro x g hq hx hg
        have ex : x = (a 1) ^ k := by omega
        have epc : sp_ct (sp_Px a t k n (sp_val it v i)) ((a 1) ^ k) = sp_pc a (sp_val it v i) t k n := by unfold sp_pc; rw [if_pos hLn]
        have h3 := fin (sp_ct (sp_Px a t k n (sp_val it v i)) x) (sp_fv (sp_Px a t k n (sp_val it v i)) (fun y => y) x) g (some (.int (nI x))) (by rw [ex, epc]) (by rw [ex, ← epc]; rfl) hg
        refine kx_ild13 (pc := 134) C dX9_passed_134 ?_
        refine kx_ild10 (pc := 136) C dX9_passed_136 ?_
        refine kx_icmp_geN (pc := 138) C 200 (by omega) (by omega) dX9_passed_138 (by decide) (fun c138 => ?_) (fun c138 => ?_)
        · exact h3
        · omega
      | succ q ih =>
        intro x g hq hx hg
        have hE : 0 < a 1 := Nat.pos_of_ne_zero (fun z => by rw [z, Nat.zero_pow (by omega)] at hq; omega)
        have eLg : g 128 (81 + t) = nI (a (81 + t)) := by rw [hg _ _ (by omega) (by omega)]; exact hL
        have hMg : ∀ k, k < 141 → k ≠ 4 → k ≠ 5 → k ≠ 6 → g 128 k = nI (a k) := fun k h1 h2 h3 h4 => by rw [hg _ _ (by omega) (by omega)]; exact hM k h1 h2 h3 h4
        have hig : ∀ e, e < n → g 133 (24 * v + i + e) = nI (sp_val it v i e) := fun e he => by rw [hg _ _ (by omega) (by omega)]; exact hi24 e he
        have ctl := sp_ct_le (sp_Px a t k n (sp_val it v i)) x
        have fn4 := sp_fv_n4 (p := (sp_Px a t k n (sp_val it v i))) (w := fun y => y) (m := x) (fun y hy => by omega)
        have h3 := ih (x + 1)
        refine kx_ild13 (pc := 134) C dX9_passed_134 ?_
        refine kx_ild10 (pc := 136) C dX9_passed_136 ?_
        refine kx_icmp_geN (pc := 138) C 200 (by omega) (by omega) dX9_passed_138 (by decide) (fun c138 => ?_) (fun c138 => ?_)
        · omega
        · refine kx_ild6 (pc := 141) C dX9_passed_141 ?_
          refine kx_ald0 (pc := 143) C dX9_passed_143 ?_
          refine kx_getr (pc := 144) C fl_X9_7 fd_127_0 dX9_passed_144 ?_
          refine kx_bipush (pc := 147) C (v := nI 81) dX9_passed_147 (by decide) ?_
          refine kx_ild1 (pc := 149) C dX9_passed_149 ?_
          first | refine kx_iaddN (pc := 150) C dX9_passed_150 ?_ | refine kx_iadd (pc := 150) C dX9_passed_150 ?_
          refine kx_iald (pc := 151) C ia_128 (by omega) eLg dX9_passed_151 ?_
          refine kx_icmp_neN (pc := 152) C 200 (by omega) (by omega) dX9_passed_152 (by decide) (fun c152 => ?_) (fun c152 => ?_)
          · omega
          · refine kx_ald0 (pc := 155) C dX9_passed_155 ?_
            refine kx_ild1 (pc := 156) C dX9_passed_156 ?_
            refine kx_ild13 (pc := 157) C dX9_passed_157 ?_
            refine kx_ild2 (pc := 159) C dX9_passed_159 ?_
            refine kx_bipush (pc := 160) C (v := nI 24) dX9_passed_160 (by decide) ?_
            refine kx_ild3 (pc := 162) C dX9_passed_162 ?_
            first | refine kx_imulN (pc := 163) C dX9_passed_163 ?_ | refine kx_imul (pc := 163) C dX9_passed_163 ?_
            refine kx_ild5 (pc := 164) C dX9_passed_164 ?_
            first | refine kx_iaddN (pc := 166) C dX9_passed_166 ?_ | refine kx_iadd (pc := 166) C dX9_passed_166 ?_
            refine kx_ild6 (pc := 167) C dX9_passed_167 ?_
            refine kx_callVI5 (pc := 169) C cs_X9_166 ob_127 (m_X9_becomes (v := sp_val it v i) hMg hRB hE b1 hk1 hk3 ht (by omega) hn (by omega) hig (fun e he => (hvv e he).2)) (by decide) dX9_passed_169 (Nat.le_of_ble_eq_true rfl) (fun r169 h169 q169 => ?_)
            obtain ⟨rfl, k2⟩ := q169
            have hg2 : ∀ d k, d ≠ 140 → d ≠ 141 → h169 d k = h d k := fun d k h1 h2 => by rw [k2 d k h1 h2]; exact hg d k h1 h2
            refine kx_if_eq (pc := 172) C 194 dX9_passed_172 (by decide) (fun c172 => ?_) (fun c172 => ?_)
            · have hb := Bool.eq_false_iff.mpr (kx_if0 c172)
              first | refine kx_inc13 (pc := 194) C (v := nI (_ + 1)) dX9_passed_194 (by decide) rfl (nI_1 _) ?_ | refine kx_inc13 (pc := 194) C dX9_passed_194 (by decide) rfl rfl ?_
              refine kx_goto (pc := 197) C 134 dX9_passed_197 (by decide) ?_
              first
                | (rw [sp_ct_nope hb, sp_fv_no hb] at h3
                   exact h3 h169 (by omega) (by omega) hg2)
                | (rw [sp_ct_yes hb, sp_fv_first hb (fn4.mp c182)] at h3
                   exact h3 h169 (by omega) (by omega) hg2)
                | (rw [sp_ct_yes hb, sp_fv_more hb (Nat.pos_of_ne_zero (fun z => c182 (fn4.mpr z)))] at h3
                   exact h3 h169 (by omega) (by omega) hg2)
            · have hb := kx_if1 c172
              first | refine kx_inc11 (pc := 175) C (v := nI (_ + 1)) dX9_passed_175 (by decide) rfl (nI_1 _) ?_ | refine kx_inc11 (pc := 175) C dX9_passed_175 (by decide) rfl rfl ?_
              refine kx_ild12 (pc := 178) C dX9_passed_178 ?_
              refine kx_bipush (pc := 180) C (v := -4) dX9_passed_180 (by decide) ?_
              refine kx_icmp_ne (pc := 182) C 190 dX9_passed_182 (by decide) (fun c182 => ?_) (fun c182 => ?_)
              · refine kx_ild12 (pc := 190) C dX9_passed_190 ?_
                refine kx_ist12 (pc := 192) C dX9_passed_192 (by decide) rfl ?_
                first | refine kx_inc13 (pc := 194) C (v := nI (_ + 1)) dX9_passed_194 (by decide) rfl (nI_1 _) ?_ | refine kx_inc13 (pc := 194) C dX9_passed_194 (by decide) rfl rfl ?_
                refine kx_goto (pc := 197) C 134 dX9_passed_197 (by decide) ?_
                first
                  | (rw [sp_ct_nope hb, sp_fv_no hb] at h3
                     exact h3 h169 (by omega) (by omega) hg2)
                  | (rw [sp_ct_yes hb, sp_fv_first hb (fn4.mp c182)] at h3
                     exact h3 h169 (by omega) (by omega) hg2)
                  | (rw [sp_ct_yes hb, sp_fv_more hb (Nat.pos_of_ne_zero (fun z => c182 (fn4.mpr z)))] at h3
                     exact h3 h169 (by omega) (by omega) hg2)
              · refine kx_ild13 (pc := 185) C dX9_passed_185 ?_
                refine kx_goto (pc := 187) C 192 dX9_passed_187 (by decide) ?_
                refine kx_ist12 (pc := 192) C dX9_passed_192 (by decide) rfl ?_
                first | refine kx_inc13 (pc := 194) C (v := nI (_ + 1)) dX9_passed_194 (by decide) rfl (nI_1 _) ?_ | refine kx_inc13 (pc := 194) C dX9_passed_194 (by decide) rfl rfl ?_
                refine kx_goto (pc := 197) C 134 dX9_passed_197 (by decide) ?_
                first
                  | (rw [sp_ct_nope hb, sp_fv_no hb] at h3
                     exact h3 h169 (by omega) (by omega) hg2)
                  | (rw [sp_ct_yes hb, sp_fv_first hb (fn4.mp c182)] at h3
                     exact h3 h169 (by omega) (by omega) hg2)
                  | (rw [sp_ct_yes hb, sp_fv_more hb (Nat.pos_of_ne_zero (fun z => c182 (fn4.mpr z)))] at h3
                     exact h3 h169 (by omega) (by omega) hg2)
    refine kx_iconst (pc := 124) C (v := nI 0) dX9_passed_124 (by decide) ?_
    refine kx_ist11 (pc := 125) C dX9_passed_125 (by decide) rfl ?_
    refine kx_bipush (pc := 127) C (v := -4) dX9_passed_127 (by decide) ?_
    refine kx_ist12 (pc := 129) C dX9_passed_129 (by decide) rfl ?_
    refine kx_iconst (pc := 131) C (v := nI 0) dX9_passed_131 (by decide) ?_
    refine kx_ist13 (pc := 132) C dX9_passed_132 (by decide) rfl ?_
    by_cases hLn : a (81 + t) = n
    · exact loop hLn _ 0 h rfl (by omega) (fun d j _ _ => rfl)
    · have epc : sp_pc a (sp_val it v i) t k n = 0 := by unfold sp_pc; rw [if_neg hLn]
      have h3 := fin 0 (-4) h (some (.int (nI 0))) epc.symm (by rw [if_pos epc]) (fun d j _ _ => rfl)
      refine kx_ild13 (pc := 134) C dX9_passed_134 ?_
      refine kx_ild10 (pc := 136) C dX9_passed_136 ?_
      refine kx_icmp_geN (pc := 138) C 200 (by omega) (by omega) dX9_passed_138 (by decide) (fun c138 => ?_) (fun c138 => ?_)
      · exact h3
      · refine kx_ild6 (pc := 141) C dX9_passed_141 ?_
        refine kx_ald0 (pc := 143) C dX9_passed_143 ?_
        refine kx_getr (pc := 144) C fl_X9_7 fd_127_0 dX9_passed_144 ?_
        refine kx_bipush (pc := 147) C (v := nI 81) dX9_passed_147 (by decide) ?_
        refine kx_ild1 (pc := 149) C dX9_passed_149 ?_
        first | refine kx_iaddN (pc := 150) C dX9_passed_150 ?_ | refine kx_iadd (pc := 150) C dX9_passed_150 ?_
        refine kx_iald (pc := 151) C ia_128 (by omega) hL dX9_passed_151 ?_
        refine kx_icmp_neN (pc := 152) C 200 (by omega) (by omega) dX9_passed_152 (by decide) (fun c152 => ?_) (fun c152 => ?_)
        · exact h3
        · omega
  refine kx_ald0 (pc := 0) C dX9_passed_0 ?_
  refine kx_ild1 (pc := 1) C dX9_passed_1 ?_
  refine kx_callVI1 (pc := 2) C cs_X9_72 ob_127 (m_X9_isTale _ (by assumption) (by omega)) (by decide) dX9_passed_2 (Nat.le_of_ble_eq_true rfl) (fun r2 h2 q2 => ?_)
  obtain ⟨z2, rfl⟩ := q2
  have z2 := z2.symm
  subst z2
  refine kx_if_eq (pc := 5) C 58 dX9_passed_5 (by decide) (fun c5 => ?_) (fun c5 => ?_)
  · refine kx_iconst (pc := 58) C (v := -1) dX9_passed_58 (by decide) ?_
    exact hR dX9_passed_59 rfl ⟨by
      rw [sp_passed, if_neg (fun z => by
        first
          | exact kx_if0 c55 z.2.2.2.2
          | exact kx_if0 c39 z.2.2.2.1
          | exact kx_if0 c26 z.2.2.1
          | exact kx_if0 c17 z.2.1
          | exact kx_if0 c5 z.1)], fun d k _ _ => rfl⟩
  · refine kx_ild2 (pc := 8) C dX9_passed_8 ?_
    refine kx_i2l (pc := 9) C dX9_passed_9 ?_
    refine kx_lconst (pc := 10) C (v := 1) dX9_passed_10 (by decide) ?_
    refine kx_ldc2 (pc := 11) C dX9_passed_11 cn_X9_82 ?_
    refine kx_callSI3 (pc := 14) C cs_X9_52 (m_X9_in (p := 1) (q := _) (r := 3) (by rfl) (kx_L _) (by rfl)) (by decide) dX9_passed_14 (Nat.le_of_ble_eq_true rfl) (fun r14 h14 q14 => ?_)
    obtain ⟨z14, rfl⟩ := q14
    have z14 := z14.symm
    subst z14
    refine kx_if_eq (pc := 17) C 58 dX9_passed_17 (by decide) (fun c17 => ?_) (fun c17 => ?_)
    · refine kx_iconst (pc := 58) C (v := -1) dX9_passed_58 (by decide) ?_
      exact hR dX9_passed_59 rfl ⟨by
        rw [sp_passed, if_neg (fun z => by
          first
            | exact kx_if0 c55 z.2.2.2.2
            | exact kx_if0 c39 z.2.2.2.1
            | exact kx_if0 c26 z.2.2.1
            | exact kx_if0 c17 z.2.1
            | exact kx_if0 c5 z.1)], fun d k _ _ => rfl⟩
    · have c17 := kx_if1 c17
      obtain ⟨k, rfl, hk, hk2⟩ := kx_nat (x := tk) (by omega)
      refine kx_ild3 (pc := 20) C dX9_passed_20 ?_
      refine kx_ild4 (pc := 21) C dX9_passed_21 ?_
      refine kx_callSI2 (pc := 23) C cs_X9_143 (m_X9_isSheet _ _) (by decide) dX9_passed_23 (Nat.le_of_ble_eq_true rfl) (fun r23 h23 q23 => ?_)
      obtain ⟨z23, rfl⟩ := q23
      have z23 := z23.symm
      subst z23
      refine kx_if_eq (pc := 26) C 58 dX9_passed_26 (by decide) (fun c26 => ?_) (fun c26 => ?_)
      · refine kx_iconst (pc := 58) C (v := -1) dX9_passed_58 (by decide) ?_
        exact hR dX9_passed_59 rfl ⟨by
          rw [sp_passed, if_neg (fun z => by
            first
              | exact kx_if0 c55 z.2.2.2.2
              | exact kx_if0 c39 z.2.2.2.1
              | exact kx_if0 c26 z.2.2.1
              | exact kx_if0 c17 z.2.1
              | exact kx_if0 c5 z.1)], fun d k _ _ => rfl⟩
      · refine kx_ild6 (pc := 29) C dX9_passed_29 ?_
        refine kx_i2l (pc := 31) C dX9_passed_31 ?_
        refine kx_lconst (pc := 32) C (v := 1) dX9_passed_32 (by decide) ?_
        refine kx_ldc2 (pc := 33) C dX9_passed_33 cn_X9_80 ?_
        refine kx_callSI3 (pc := 36) C cs_X9_52 (m_X9_in (p := 1) (q := _) (r := 9) (by rfl) (kx_L _) (by rfl)) (by decide) dX9_passed_36 (Nat.le_of_ble_eq_true rfl) (fun r36 h36 q36 => ?_)
        obtain ⟨z36, rfl⟩ := q36
        have z36 := z36.symm
        subst z36
        refine kx_if_eq (pc := 39) C 58 dX9_passed_39 (by decide) (fun c39 => ?_) (fun c39 => ?_)
        · refine kx_iconst (pc := 58) C (v := -1) dX9_passed_58 (by decide) ?_
          exact hR dX9_passed_59 rfl ⟨by
            rw [sp_passed, if_neg (fun z => by
              first
                | exact kx_if0 c55 z.2.2.2.2
                | exact kx_if0 c39 z.2.2.2.1
                | exact kx_if0 c26 z.2.2.1
                | exact kx_if0 c17 z.2.1
                | exact kx_if0 c5 z.1)], fun d k _ _ => rfl⟩
        · refine kx_ild7 (pc := 42) C dX9_passed_42 ?_
          refine kx_i2l (pc := 44) C dX9_passed_44 ?_
          refine kx_ldc2 (pc := 45) C dX9_passed_45 cn_X9_117 ?_
          refine kx_ild2 (pc := 48) C dX9_passed_48 ?_
          refine kx_iconst (pc := 49) C (v := nI 1) dX9_passed_49 (by decide) ?_
          refine kx_isub (pc := 50) C dX9_passed_50 ?_
          refine kx_i2l (pc := 51) C dX9_passed_51 ?_
          refine kx_callSI3 (pc := 52) C cs_X9_52 (m_X9_in (p := -1) (q := _) (r := (nI k).toInt - 1) (by rfl) (kx_L _) (by rw [kx_L, kx_Ts (by omega) (by omega), kx_T (by omega)]; rfl)) (by decide) dX9_passed_52 (Nat.le_of_ble_eq_true rfl) (fun r52 h52 q52 => ?_)
          obtain ⟨z52, rfl⟩ := q52
          have z52 := z52.symm
          subst z52
          refine kx_if_ne (pc := 55) C 60 dX9_passed_55 (by decide) (fun c55 => ?_) (fun c55 => ?_)
          · have c5 := kx_if1 c5
            have c26 := kx_if1 c26
            have c39 := kx_if1 c39
            have c55 := kx_if1 c55
            obtain ⟨t, rfl, ht, ht2⟩ := kx_nat c5.1
            obtain ⟨v, rfl, hv, hv2⟩ := kx_nat c26.1.1
            obtain ⟨n, rfl, hn, hn2⟩ := kx_nat (x := tn) (by omega)
            refine kx_ald0 (pc := 60) C dX9_passed_60 ?_
            refine kx_ild3 (pc := 61) C dX9_passed_61 ?_
            refine kx_ild4 (pc := 62) C dX9_passed_62 ?_
            refine kx_ild5 (pc := 64) C dX9_passed_64 ?_
            refine kx_ild6 (pc := 66) C dX9_passed_66 ?_
            refine kx_bipush (pc := 68) C (v := nI 9) dX9_passed_68 (by decide) ?_
            refine kx_callVI5 (pc := 70) C cs_X9_148 ob_127 (m_X9_barred _ _ hs (show v < 4 by omega) (show n ≤ 16 by omega) (show 9 ≤ 99 by omega)) (by decide) dX9_passed_70 (Nat.le_of_ble_eq_true rfl) (fun r70 h70 q70 => ?_)
            obtain ⟨z70, rfl⟩ := q70
            have z70 := z70.symm
            subst z70
            refine kx_ist8 (pc := 73) C dX9_passed_73 (by decide) rfl ?_
            refine kx_ild8 (pc := 75) C dX9_passed_75 ?_
            refine kx_if_geI (pc := 77) C 83 dX9_passed_77 (by decide) (fun c77 => ?_) (fun c77 => ?_)
            · rw [sp_take_nn] at c77
              have rf := sp_take_0 c77
              have rf0 := sp_ref_0 rf.1
              obtain ⟨i, rfl, hi, hi2⟩ := kx_nat rf0.2.2.1
              rw [kx_n, kx_n_nI hi2] at rf
              rw [c77]
              have h3 := main t k v i n (by omega) (by omega) (by omega) (by omega) (by omega) (by have := rf0.2.2.2.2; have := (hs v (by omega)).2.1; omega) rf.2 (by omega) (by omega) (fun r er => by
                rw [sp_passed, if_pos ⟨c5, c17, c26, c39, c55⟩, kx_n, kx_n, kx_n, kx_n, kx_n, kx_n_nI ht2, kx_n_nI hk2, kx_n_nI hv2, kx_n_nI hn2, kx_n_nI hi2, if_pos c77]
                exact er)
              refine kx_ald0 (pc := 83) C dX9_passed_83 ?_
              refine kx_getr (pc := 84) C fl_X9_7 fd_127_0 dX9_passed_84 ?_
              refine kx_iconst (pc := 87) C (v := nI 1) dX9_passed_87 (by decide) ?_
              refine kx_iald (pc := 88) C ia_128 (by omega) (by first | assumption | exact hM _ (by omega) (by omega) (by omega) (by omega) | rfl) dX9_passed_88 ?_
              refine kx_ist9 (pc := 89) C dX9_passed_89 (by decide) rfl ?_
              refine kx_ild2 (pc := 91) C dX9_passed_91 ?_
              refine kx_iconst (pc := 92) C (v := nI 1) dX9_passed_92 (by decide) ?_
              refine kx_icmp_neN (pc := 93) C 101 (by omega) (by omega) dX9_passed_93 (by decide) (fun c93 => ?_) (fun c93 => ?_)
              · refine kx_ild2 (pc := 101) C dX9_passed_101 ?_
                refine kx_iconst (pc := 102) C (v := nI 2) dX9_passed_102 (by decide) ?_
                refine kx_icmp_neN (pc := 103) C 114 (by omega) (by omega) dX9_passed_103 (by decide) (fun c103 => ?_) (fun c103 => ?_)
                · refine kx_ild9 (pc := 114) C dX9_passed_114 ?_
                  refine kx_ild9 (pc := 116) C dX9_passed_116 ?_
                  first | refine kx_imulN (pc := 118) C dX9_passed_118 ?_ | refine kx_imul (pc := 118) C dX9_passed_118 ?_
                  refine kx_ild9 (pc := 119) C dX9_passed_119 ?_
                  first | refine kx_imulN (pc := 121) C dX9_passed_121 ?_ | refine kx_imul (pc := 121) C dX9_passed_121 ?_
                  refine kx_ist10 (pc := 122) C dX9_passed_122 (by decide) rfl ?_
                  first
                    | (have ek : k = 1 := by omega
                       subst ek
                       rw [Nat.pow_one] at h3
                       exact h3)
                    | (have ek : k = 2 := by omega
                       subst ek
                       rw [show (a 1) ^ 2 = a 1 * a 1 by rw [Nat.pow_succ, Nat.pow_one]] at h3
                       exact h3)
                    | (have ek : k = 3 := by omega
                       subst ek
                       rw [show (a 1) ^ 3 = a 1 * a 1 * a 1 by rw [Nat.pow_succ, Nat.pow_succ, Nat.pow_one]] at h3
                       exact h3)
                · refine kx_ild9 (pc := 106) C dX9_passed_106 ?_
                  refine kx_ild9 (pc := 108) C dX9_passed_108 ?_
                  first | refine kx_imulN (pc := 110) C dX9_passed_110 ?_ | refine kx_imul (pc := 110) C dX9_passed_110 ?_
                  refine kx_goto (pc := 111) C 122 dX9_passed_111 (by decide) ?_
                  refine kx_ist10 (pc := 122) C dX9_passed_122 (by decide) rfl ?_
                  first
                    | (have ek : k = 1 := by omega
                       subst ek
                       rw [Nat.pow_one] at h3
                       exact h3)
                    | (have ek : k = 2 := by omega
                       subst ek
                       rw [show (a 1) ^ 2 = a 1 * a 1 by rw [Nat.pow_succ, Nat.pow_one]] at h3
                       exact h3)
                    | (have ek : k = 3 := by omega
                       subst ek
                       rw [show (a 1) ^ 3 = a 1 * a 1 * a 1 by rw [Nat.pow_succ, Nat.pow_succ, Nat.pow_one]] at h3
                       exact h3)
              · refine kx_ild9 (pc := 96) C dX9_passed_96 ?_
                refine kx_goto (pc := 98) C 122 dX9_passed_98 (by decide) ?_
                refine kx_ist10 (pc := 122) C dX9_passed_122 (by decide) rfl ?_
                first
                  | (have ek : k = 1 := by omega
                     subst ek
                     rw [Nat.pow_one] at h3
                     exact h3)
                  | (have ek : k = 2 := by omega
                     subst ek
                     rw [show (a 1) ^ 2 = a 1 * a 1 by rw [Nat.pow_succ, Nat.pow_one]] at h3
                     exact h3)
                  | (have ek : k = 3 := by omega
                     subst ek
                     rw [show (a 1) ^ 3 = a 1 * a 1 * a 1 by rw [Nat.pow_succ, Nat.pow_succ, Nat.pow_one]] at h3
                     exact h3)
            · have rz : ¬ sp_take sl sn it v l ti n 9 = 0 := fun z => by rw [z] at c77; exact absurd c77 (by decide)
              refine kx_ild8 (pc := 80) C dX9_passed_80 ?_
              exact hR dX9_passed_82 rfl ⟨by rw [sp_passed, if_pos ⟨c5, c17, c26, c39, c55⟩, kx_n, kx_n, kx_n_nI hv2, kx_n_nI hn2, if_neg rz], fun d k _ _ => rfl⟩
          · refine kx_iconst (pc := 58) C (v := -1) dX9_passed_58 (by decide) ?_
            exact hR dX9_passed_59 rfl ⟨by
              rw [sp_passed, if_neg (fun z => by
                first
                  | exact kx_if0 c55 z.2.2.2.2
                  | exact kx_if0 c39 z.2.2.2.1
                  | exact kx_if0 c26 z.2.2.1
                  | exact kx_if0 c17 z.2.1
                  | exact kx_if0 c5 z.1)], fun d k _ _ => rfl⟩
