theorem kx_and (x y : Nat) : nI x &&& nI y = nI (x &&& y) := by
  show Int32.ofNat x &&& Int32.ofNat y = Int32.ofNat (x &&& y)
  apply Int32.toBitVec_inj.mp
  simp [Int32.toBitVec_ofNat', BitVec.ofNat_and]
def sp_on (a : Nat → Nat) (e t : Nat) : Prop := a 4 = t + 1 ∧ a 5 = e
def sp_fr (a : Nat → Nat) (e t : Nat) : Nat := if a 4 = t + 1 ∧ a 5 = e then a 6 else 0
def sp_to (a : Nat → Nat) (e t n : Nat) : Nat := min (sp_fr a e t + n) (a (81 + t))
def sp_wh (a : Nat → Nat) (e t w : Nat) : Nat := if a 4 = t + 1 ∧ a 5 = e then a 7 &&& w else w
def sp_m (a : Nat → Nat) (s t v : Nat) : Nat := if 0 < a (109 + 8 * s + t) ∧ v ≤ a (109 + 8 * s + t) + a 8 then 1 else 0
theorem sp_m_eq (a : Nat → Nat) (s t v : Nat) : (if 0 < a (109 + 8 * s + t) ∧ v ≤ a (109 + 8 * s + t) + a 8 then (1 : Int32) else 0) = nI (sp_m a s t v) := by unfold sp_m; split <;> rfl
theorem sp_m_le (a : Nat → Nat) (s t v : Nat) : sp_m a s t v ≤ 1 := by unfold sp_m; split <;> omega
/-- how many yards of a sort a spinner spins in an evening -/
def sp_yc (a : Nat → Nat) (e t n s k : Nat) : Nat := sp_cn (fun i => sp_so (sp_m a s t (a 3 + 1)) (sp_te a e t i)) k (sp_fr a e t) (sp_to a e t n - sp_fr a e t)
def sp_pop (w : Nat) : Nat := w % 2 + w / 2 % 2 + w / 4 % 2 + w / 8 % 2
/-- the hearth behind an evening -/
def sp_ev (a : Nat → Nat) (e t n w : Nat) (k : Nat) : Nat :=
  if k = 3 then a 3 + 1
  else if k = 4 then (if sp_to a e t n < a (81 + t) then t + 1 else 0)
  else if k = 5 then (if sp_to a e t n < a (81 + t) then e else 0)
  else if k = 6 then (if sp_to a e t n < a (81 + t) then sp_to a e t n else 0)
  else if k = 7 then (if sp_to a e t n < a (81 + t) then sp_wh a e t w else 0)
  else if 93 ≤ k ∧ k < 109 then a k + (if (k - 93) / 4 < a 2 ∧ w / 2 ^ ((k - 93) / 4) % 2 = 1 then sp_yc a e t n ((k - 93) / 4) ((k - 93) % 4) else 0)
  else if 109 ≤ k ∧ k < 141 then (if a (81 + t) ≤ sp_to a e t n ∧ (k - 109) % 8 = t ∧ (k - 109) / 8 < a 2 ∧ sp_wh a e t w / 2 ^ ((k - 109) / 8) % 2 = 1 then a 3 + 1 else a k)
  else a k
theorem sp_ev_o {a : Nat → Nat} {e t n w k : Nat} (h : k < 3 ∨ (7 < k ∧ k < 93) ∨ 141 ≤ k) : sp_ev a e t n w k = a k := by
  unfold sp_ev
  rw [if_neg (by omega), if_neg (by omega), if_neg (by omega), if_neg (by omega), if_neg (by omega), if_neg (by omega), if_neg (by omega)]
theorem sp_ev_y {a : Nat → Nat} {e t n w s k : Nat} (hs : s < 4) (hk : k < 4) : sp_ev a e t n w (93 + 4 * s + k) = a (93 + 4 * s + k) + (if s < a 2 ∧ w / 2 ^ s % 2 = 1 then sp_yc a e t n s k else 0) := by
  unfold sp_ev
  rw [if_neg (by omega), if_neg (by omega), if_neg (by omega), if_neg (by omega), if_neg (by omega), if_pos (by omega), show (93 + 4 * s + k - 93) / 4 = s by omega, show (93 + 4 * s + k - 93) % 4 = k by omega]
theorem sp_ev_h {a : Nat → Nat} {e t n w s u : Nat} (hs : s < 4) (hu : u < 8) : sp_ev a e t n w (109 + 8 * s + u) = (if a (81 + t) ≤ sp_to a e t n ∧ u = t ∧ s < a 2 ∧ sp_wh a e t w / 2 ^ s % 2 = 1 then a 3 + 1 else a (109 + 8 * s + u)) := by
  unfold sp_ev
  rw [if_neg (by omega), if_neg (by omega), if_neg (by omega), if_neg (by omega), if_neg (by omega), if_neg (by omega), if_pos (by omega), show (109 + 8 * s + u - 109) / 8 = s by omega, show (109 + 8 * s + u - 109) % 8 = u by omega]
theorem sp_fr_lt {a : Nat → Nat} (hB : st_B a) {e t : Nat} (ht : t < a 0) : sp_fr a e t < a (81 + t) := by
  obtain ⟨-, -, b1, -, -, -, b2⟩ := hB
  unfold sp_fr
  split
  · next q =>
    have h1 := b2 (by omega)
    rw [show t = a 4 - 1 by omega]
    exact h1.2.2.2.1
  · exact b1 t ht
theorem sp_wh_lt {a : Nat → Nat} (hB : st_B a) {e t w : Nat} (hw : w < 16) : sp_wh a e t w < 16 := by
  unfold sp_wh
  split
  · exact Nat.lt_of_le_of_lt Nat.and_le_right hw
  · exact hw
theorem st_HD.kept {d0 : Nat} {h g : kx_H} {a : Nat → Nat} (hh : st_HD d0 h a) (hg : ∀ d j, d0 ≤ d → d < d0 + 4 → g d j = h d j) : st_HD d0 g a := fun s t hs ht => by rw [hg (d0 + s) t (by omega) (by omega)]; exact hh s t hs ht
theorem st_RD.kept2 {l t0 k0 : Nat} {h g : kx_H} {a : Nat → Nat} (hr : st_RD l t0 k0 h a) (h1 : ∀ j, g l j = h l j) (h2 : ∀ d j, t0 ≤ d → d < t0 + 8 → g d j = h d j) (h3 : ∀ j, g k0 j = h k0 j) : st_RD l t0 k0 g a :=
  ⟨fun t ht => by rw [h1]; exact hr.1 t ht, fun t i ht hi => by rw [h2 (t0 + t) i (by omega) (by omega)]; exact hr.2.1 t i ht hi, fun e he => by rw [h3]; exact hr.2.2 e he⟩
set_option maxHeartbeats 4000000 in
set_option maxRecDepth 100000 in
theorem m_X2_spend {h : kx_H} {a : Nat → Nat} {e t n w : Nat} (hC : st_CH h a) (hB : st_B a) (he : e < a 1) (ht : t < a 0) (hn1 : 1 ≤ n) (hn9 : n ≤ 9) (hw : w < 2 ^ a 2) (hev9 : a 3 < 9999) : kx_MI 6 yX2_spend cX2_spend 9 .int [.ref 1, .int (nI e), .int (nI t), .int (nI n), .int (nI w)] h (fun r h1 => r = nI ((sp_to a e t n - sp_fr a e t) * sp_pop w) ∧ st_CH h1 (sp_ev a e t n w) ∧ ∀ d j, (d = 0 ∨ 23 ≤ d) → h1 d j = h d j) := by
  refine kx_mkI (own := RX2) (L0 := [some (.ref 1), some (.int (nI e)), some (.int (nI t)), some (.int (nI n)), some (.int (nI w)), none, none, none, none]) rfl (by decide +kernel) (Nat.le_of_ble_eq_true rfl) rfl (fun F C hR => ?_)
  obtain ⟨⟨hT, hE, hS, hev, hme⟩, hRD, hYD, hHD, hBR⟩ := id hC
  obtain ⟨⟨b0, b1, b2, b3, b8, b8'⟩, hRB, bl, by_, bh, bz, bb⟩ := id hB
  have hfl := sp_fr_lt hB (e := e) ht
  have hl9 := hRB.1 t (by omega)
  have h16 : 2 ^ a 2 ≤ 2 ^ 4 := Nat.pow_le_pow_right (by decide) b2
  have hwh : sp_wh a e t w < 16 := sp_wh_lt hB (by omega)
  have hto : sp_to a e t n = min (sp_fr a e t + n) (a (81 + t)) := rfl
  have hlen : h 2 t = nI (a (81 + t)) := hRD.1 t (by omega)
  have lend : ∀ (on : Nat) (g : kx_H), (∀ u k, u < 4 → k < 4 → g (14 + u) k = nI (sp_ev a e t n w (93 + 4 * u + k))) → g 1 3 = nI (a 3 + 1) → g 1 13 = nI (sp_wh a e t w) → (∀ j, j ≠ 3 → j ≠ 13 → g 1 j = h 1 j) → (∀ d j, d ≠ 1 → (d < 14 ∨ 18 ≤ d) → g d j = h d j) → F 140 [some (.ref 1), some (.int (nI e)), some (.int (nI t)), some (.int (nI n)), some (.int (nI w)), some (.int (nI on)), some (.int (nI (sp_fr a e t))), some (.int (nI (sp_to a e t n))), some (.int (nI (a 2)))] [] g := by
    intro on g hy g3 g13 gj gd
    have fin : ∀ (g2 : kx_H), st_CH g2 (sp_ev a e t n w) → (∀ d j, (d = 0 ∨ 23 ≤ d) → g2 d j = h d j) → F 184 [some (.ref 1), some (.int (nI e)), some (.int (nI t)), some (.int (nI n)), some (.int (nI w)), some (.int (nI on)), some (.int (nI (sp_fr a e t))), some (.int (nI (sp_to a e t n))), some (.int (nI (a 2)))] [] g2 := by
      intro g2 hc2 hf2
      refine kx_ild7 (pc := 184) C dX2_spend_184 ?_
      refine kx_ild6 (pc := 186) C dX2_spend_186 ?_
      refine kx_isubN (pc := 188) C (by omega) dX2_spend_188 ?_
      refine kx_ild4 (pc := 189) C dX2_spend_189 ?_
      refine kx_callSI1 (pc := 191) C cs_X2_94 (m_J6_bitCount_0f7a4 (by omega)) (by decide) dX2_spend_191 (Nat.le_of_ble_eq_true rfl) (fun r191 h191 q191 => ?_)
      obtain ⟨rfl, rfl⟩ := q191
      first | refine kx_imulN (pc := 194) C dX2_spend_194 ?_ | refine kx_imul (pc := 194) C dX2_spend_194 ?_
      exact hR dX2_spend_195 rfl ⟨rfl, hc2, hf2⟩
    have hl2 : g 2 t = nI (a (81 + t)) := by rw [gd 2 t (by omega) (by omega)]; exact hlen
    have hsc : ∀ g2 : kx_H, (∀ j, j < 5 → g2 1 j = g 1 j) → st_SC 1 g2 (sp_ev a e t n w) := by
      intro g2 hg2
      refine ⟨?_, ?_, ?_, ?_, ?_⟩
      · rw [hg2 0 (by omega), gj 0 (by omega) (by omega), sp_ev_o (by omega)]; exact hT
      · rw [hg2 1 (by omega), gj 1 (by omega) (by omega), sp_ev_o (by omega)]; exact hE
      · rw [hg2 2 (by omega), gj 2 (by omega) (by omega), sp_ev_o (by omega)]; exact hS
      · rw [hg2 3 (by omega), g3]; rfl
      · rw [hg2 4 (by omega), gj 4 (by omega) (by omega), sp_ev_o (by omega)]; exact hme
    have hrd : ∀ g2 : kx_H, (∀ d j, 2 ≤ d → d < 13 → g2 d j = g d j) → st_RD 2 4 12 g2 (sp_ev a e t n w) := by
      intro g2 hg2
      refine ⟨fun u hu => ?_, fun u i hu hi => ?_, fun u hu => ?_⟩
      · rw [hg2 2 u (by omega) (by omega), gd 2 u (by omega) (by omega), sp_ev_o (by omega)]; exact hRD.1 u hu
      · rw [hg2 (4 + u) i (by omega) (by omega), gd (4 + u) i (by omega) (by omega), sp_ev_o (by omega)]; exact hRD.2.1 u i hu hi
      · rw [hg2 12 u (by omega) (by omega), gd 12 u (by omega) (by omega), sp_ev_o (by omega)]; exact hRD.2.2 u hu
    refine kx_ild7 (pc := 140) C dX2_spend_140 ?_
    refine kx_ald0 (pc := 142) C dX2_spend_142 ?_
    refine kx_getr (pc := 143) C fl_X2_15 fd_1_5 dX2_spend_143 ?_
    refine kx_ild2 (pc := 146) C dX2_spend_146 ?_
    refine kx_iald (pc := 147) C ia_2 (by omega) (by first | assumption | rfl) dX2_spend_147 ?_
    refine kx_icmp_geN (pc := 148) C 170 (by omega) (by omega) dX2_spend_148 (by decide) (fun c148 => ?_) (fun c148 => ?_)
    · refine kx_ald0 (pc := 170) C dX2_spend_170 ?_
      refine kx_iconst (pc := 171) C (v := -1) dX2_spend_171 (by decide) ?_
      refine kx_puti (pc := 172) C fl_X2_33 fp_X2_10 fd_1_10 rfl rfl dX2_spend_172 ?_
      refine kx_ald0 (pc := 175) C dX2_spend_175 ?_
      refine kx_ild2 (pc := 176) C dX2_spend_176 ?_
      refine kx_ald0 (pc := 177) C dX2_spend_177 ?_
      refine kx_geti (pc := 178) C fl_X2_77 fd_1_13 (show _ = nI (sp_wh a e t w) by rw [kx_up, if_neg (by omega)]; exact g13) dX2_spend_178 ?_
      refine kx_callVV2 (pc := 181) C cs_X2_90 ob_1 (m_X2_keepInMind (n := a 2) (ev := a 3 + 1) (by rw [kx_up, if_neg (by omega), gj 2 (by omega) (by omega)]; exact hS) (by omega) (by rw [kx_up, if_neg (by omega)]; exact g3) (by omega) hwh) (by decide) dX2_spend_181 (Nat.le_of_ble_eq_true rfl) (fun h181 q181 => ?_)
      obtain ⟨k1, k2⟩ := q181
      first
        | (have e1 : ¬ sp_to a e t n < a (81 + t) := by omega
           refine fin _ ⟨hsc _ (fun j hj => by rw [k2 1 j (by omega), kx_up, if_neg (by omega)]), hrd _ (fun d j h1 h2 => by rw [k2 d j (by omega), kx_up, if_neg (by omega)]), fun s k hs hk => ?_, fun s u hs hu => ?_, Or.inl ⟨?_, ?_⟩⟩ (fun d j hd => by rw [k2 d j (by omega), kx_up, if_neg (by omega), gd d j (by omega) (by omega)])
           · rw [k2 (14 + s) k (by omega), kx_up, if_neg (by omega)]
             exact hy s k hs hk
           · rw [k1 s u hs, sp_ev_h hs hu]
             by_cases hc : u = t ∧ s < a 2 ∧ sp_wh a e t w / 2 ^ s % 2 = 1
             · rw [if_pos hc, if_pos ⟨by omega, hc⟩]
             · rw [if_neg hc, if_neg (fun z => hc z.2), kx_up, if_neg (by omega), gd (19 + s) u (by omega) (by omega)]
               exact hHD s u hs hu
           · show sp_ev a e t n w 4 = 0
             simp [sp_ev, e1]
           · rw [k2 1 10 (by omega), kx_up, if_pos ⟨rfl, rfl⟩])
        | (refine fin _ ⟨hsc _ (fun j hj => by simp only [kx_up]; rw [if_neg (by omega), if_neg (by omega), if_neg (by omega)]), hrd _ (fun d j h1 h2 => by simp only [kx_up]; rw [if_neg (by omega), if_neg (by omega), if_neg (by omega)]), fun s k hs hk => ?_, fun s u hs hu => ?_, Or.inr ⟨?_, ?_, ?_, ?_, ?_⟩⟩ (fun d j hd => by simp only [kx_up]; rw [if_neg (by omega), if_neg (by omega), if_neg (by omega), gd d j (by omega) (by omega)])
           · simp only [kx_up]
             rw [if_neg (by omega), if_neg (by omega), if_neg (by omega)]
             exact hy s k hs hk
           · simp only [kx_up]
             rw [if_neg (by omega), if_neg (by omega), if_neg (by omega), sp_ev_h hs hu, if_neg (by omega), gd (19 + s) u (by omega) (by omega)]
             exact hHD s u hs hu
           · simp [sp_ev, c148]
           · simp [sp_ev, kx_up, c148]
           · simp [sp_ev, kx_up, c148]
           · simp [sp_ev, kx_up, c148]
           · simp [sp_ev, kx_up, c148, g13])
    · refine kx_ald0 (pc := 151) C dX2_spend_151 ?_
      refine kx_ild2 (pc := 152) C dX2_spend_152 ?_
      refine kx_puti (pc := 153) C fl_X2_33 fp_X2_10 fd_1_10 rfl rfl dX2_spend_153 ?_
      refine kx_ald0 (pc := 156) C dX2_spend_156 ?_
      refine kx_ild1 (pc := 157) C dX2_spend_157 ?_
      refine kx_puti (pc := 158) C fl_X2_66 fp_X2_11 fd_1_11 rfl rfl dX2_spend_158 ?_
      refine kx_ald0 (pc := 161) C dX2_spend_161 ?_
      refine kx_ild7 (pc := 162) C dX2_spend_162 ?_
      refine kx_puti (pc := 164) C fl_X2_69 fp_X2_12 fd_1_12 rfl rfl dX2_spend_164 ?_
      refine kx_goto (pc := 167) C 184 dX2_spend_167 (by decide) ?_
      first
        | (have e1 : ¬ sp_to a e t n < a (81 + t) := by omega
           refine fin _ ⟨hsc _ (fun j hj => by rw [k2 1 j (by omega), kx_up, if_neg (by omega)]), hrd _ (fun d j h1 h2 => by rw [k2 d j (by omega), kx_up, if_neg (by omega)]), fun s k hs hk => ?_, fun s u hs hu => ?_, Or.inl ⟨?_, ?_⟩⟩ (fun d j hd => by rw [k2 d j (by omega), kx_up, if_neg (by omega), gd d j (by omega) (by omega)])
           · rw [k2 (14 + s) k (by omega), kx_up, if_neg (by omega)]
             exact hy s k hs hk
           · rw [k1 s u hs, sp_ev_h hs hu]
             by_cases hc : u = t ∧ s < a 2 ∧ sp_wh a e t w / 2 ^ s % 2 = 1
             · rw [if_pos hc, if_pos ⟨by omega, hc⟩]
             · rw [if_neg hc, if_neg (fun z => hc z.2), kx_up, if_neg (by omega), gd (19 + s) u (by omega) (by omega)]
               exact hHD s u hs hu
           · show sp_ev a e t n w 4 = 0
             simp [sp_ev, e1]
           · rw [k2 1 10 (by omega), kx_up, if_pos ⟨rfl, rfl⟩])
        | (refine fin _ ⟨hsc _ (fun j hj => by simp only [kx_up]; rw [if_neg (by omega), if_neg (by omega), if_neg (by omega)]), hrd _ (fun d j h1 h2 => by simp only [kx_up]; rw [if_neg (by omega), if_neg (by omega), if_neg (by omega)]), fun s k hs hk => ?_, fun s u hs hu => ?_, Or.inr ⟨?_, ?_, ?_, ?_, ?_⟩⟩ (fun d j hd => by simp only [kx_up]; rw [if_neg (by omega), if_neg (by omega), if_neg (by omega), gd d j (by omega) (by omega)])
           · simp only [kx_up]
             rw [if_neg (by omega), if_neg (by omega), if_neg (by omega)]
             exact hy s k hs hk
           · simp only [kx_up]
             rw [if_neg (by omega), if_neg (by omega), if_neg (by omega), sp_ev_h hs hu, if_neg (by omega), gd (19 + s) u (by omega) (by omega)]
             exact hHD s u hs hu
           · simp [sp_ev, c148]
           · simp [sp_ev, kx_up, c148]
           · simp [sp_ev, kx_up, c148]
           · simp [sp_ev, kx_up, c148]
           · simp [sp_ev, kx_up, c148, g13])
  have loop : ∀ (q s on : Nat) (g : kx_H), a 2 - s = q → s ≤ a 2 → (∀ u k, u < 4 → k < 4 → g (14 + u) k = nI (a (93 + 4 * u + k) + if u < s ∧ w / 2 ^ u % 2 = 1 then sp_yc a e t n u k else 0)) → g 1 3 = nI (a 3 + 1) → g 1 13 = nI (sp_wh a e t w) → (∀ j, j ≠ 3 → j ≠ 13 → g 1 j = h 1 j) → (∀ d j, d ≠ 1 → (d < 14 ∨ 18 ≤ d) → g d j = h d j) → F 87 [some (.ref 1), some (.int (nI e)), some (.int (nI t)), some (.int (nI n)), some (.int (nI w)), some (.int (nI on)), some (.int (nI (sp_fr a e t))), some (.int (nI (sp_to a e t n))), some (.int (nI s))] [] g := by
    intro q
    induction q with
    | zero =>
      intro s on g hq hs hy g3 g13 gj gd
      have hS2 : g 1 2 = nI (a 2) := by rw [gj 2 (by omega) (by omega)]; exact hS
      have es : s = a 2 := by omega
      subst es
      refine kx_ild8 (pc := 87) C dX2_spend_87 ?_
      refine kx_ald0 (pc := 89) C dX2_spend_89 ?_
      refine kx_geti (pc := 90) C fl_X2_50 fd_1_2 (by first | assumption | rfl) dX2_spend_90 ?_
      refine kx_icmp_geN (pc := 93) C 140 (by omega) (by omega) dX2_spend_93 (by decide) (fun c93 => ?_) (fun c93 => ?_)
      · exact lend on g (fun u k hu hk => by rw [hy u k hu hk, sp_ev_y hu hk]) g3 g13 gj gd
      · omega
    | succ q ih =>
      intro s on g hq hs hy g3 g13 gj gd
      have hS2 : g 1 2 = nI (a 2) := by rw [gj 2 (by omega) (by omega)]; exact hS
      have hm2 : g 1 4 = nI (a 8) := by rw [gj 4 (by omega) (by omega)]; exact hme
      have hh2 : st_HD 19 g a := hHD.kept (fun d j h1 h2 => gd d j (by omega) (by omega))
      have hr2 : st_RD 2 4 12 g a := hRD.kept2 (fun j => gd 2 j (by omega) (by omega)) (fun d j h1 h2 => gd d j (by omega) (by omega)) (fun j => gd 12 j (by omega) (by omega))
      have hb2 := bh s t (by omega) (by omega)
      refine kx_ild8 (pc := 87) C dX2_spend_87 ?_
      refine kx_ald0 (pc := 89) C dX2_spend_89 ?_
      refine kx_geti (pc := 90) C fl_X2_50 fd_1_2 (by first | assumption | rfl) dX2_spend_90 ?_
      refine kx_icmp_geN (pc := 93) C 140 (by omega) (by omega) dX2_spend_93 (by decide) (fun c93 => ?_) (fun c93 => ?_)
      · omega
      · refine kx_ild4 (pc := 96) C dX2_spend_96 ?_
        refine kx_ild8 (pc := 98) C dX2_spend_98 ?_
        refine kx_ishr (pc := 100) C dX2_spend_100 ?_
        refine kx_iconst (pc := 101) C (v := nI 1) dX2_spend_101 (by decide) ?_
        refine kx_iand (pc := 102) C dX2_spend_102 ?_
        rw [kx_bit (by omega) (by omega)]
        refine kx_if_eqN (pc := 103) C 134 (by omega) dX2_spend_103 (by decide) (fun c103 => ?_) (fun c103 => ?_)
        · first | refine kx_inc8 (pc := 134) C (v := nI (_ + 1)) dX2_spend_134 (by decide) rfl (nI_1 _) ?_ | refine kx_inc8 (pc := 134) C dX2_spend_134 (by decide) rfl rfl ?_
          refine kx_goto (pc := 137) C 87 dX2_spend_137 (by decide) ?_
          first
            | (refine ih (s + 1) on _ (by omega) (by omega) (fun u k hu hk => ?_) g3 g13 gj gd
               rw [hy u k hu hk]
               congr 2
               exact kx_ifx (by by_cases z : u = s; subst z; omega; omega) _ _)
            | (refine ih (s + 1) on _ (by omega) (by omega) (fun u k hu hk => ?_) (by rw [k2 1 3 (by omega)]; exact g3) (by rw [k2 1 13 (by omega)]; exact g13) (fun j h1 h2 => by rw [k2 1 j (by omega)]; exact gj j h1 h2) (fun d j h1 h2 => by rw [k2 d j (by omega)]; exact gd d j h1 h2)
               by_cases z : u = s
               · subst z
                 rw [k1 k hk, hy u k hu hk, if_neg (by omega), if_pos (by omega), nI_add]
                 rfl
               · rw [k2 (14 + u) k (by omega), hy u k hu hk]
                 congr 2
                 exact kx_ifx (by omega) _ _)
        · refine kx_ald0 (pc := 106) C dX2_spend_106 ?_
          refine kx_ald0 (pc := 107) C dX2_spend_107 ?_
          refine kx_getr (pc := 108) C fl_X2_27 fd_1_8 dX2_spend_108 ?_
          refine kx_ild8 (pc := 111) C dX2_spend_111 ?_
          refine kx_aald1 (pc := 113) C ra_13 (by omega) dX2_spend_113 ?_
          refine kx_ild1 (pc := 114) C dX2_spend_114 ?_
          refine kx_ild2 (pc := 115) C dX2_spend_115 ?_
          refine kx_ild6 (pc := 116) C dX2_spend_116 ?_
          refine kx_ild7 (pc := 118) C dX2_spend_118 ?_
          refine kx_ald0 (pc := 120) C dX2_spend_120 ?_
          refine kx_ild8 (pc := 121) C dX2_spend_121 ?_
          refine kx_ild2 (pc := 123) C dX2_spend_123 ?_
          refine kx_ald0 (pc := 124) C dX2_spend_124 ?_
          refine kx_geti (pc := 125) C fl_X2_80 fd_1_3 (by first | assumption | rfl) dX2_spend_125 ?_
          refine kx_callVI3 (pc := 128) C cs_X2_83 ob_1 (m_X2_isInMind hm2 (by omega) hh2 (by omega) (by omega) (by omega) (by omega)) (by decide) dX2_spend_128 (Nat.le_of_ble_eq_true rfl) (fun r128 h128 q128 => ?_)
          obtain ⟨rfl, rfl⟩ := q128
          rw [sp_m_eq]
          refine kx_callVV6 (pc := 131) C cs_X2_86 ob_1 (m_X2_spin hr2 hRB (if_yds s (by omega)) (by omega) (by omega) (by omega) (by omega) (by omega) (sp_m_le a s t _)) (by decide) dX2_spend_131 (Nat.le_of_ble_eq_true rfl) (fun h131 q131 => ?_)
          obtain ⟨k1, k2⟩ := q131
          first | refine kx_inc8 (pc := 134) C (v := nI (_ + 1)) dX2_spend_134 (by decide) rfl (nI_1 _) ?_ | refine kx_inc8 (pc := 134) C dX2_spend_134 (by decide) rfl rfl ?_
          refine kx_goto (pc := 137) C 87 dX2_spend_137 (by decide) ?_
          first
            | (refine ih (s + 1) on _ (by omega) (by omega) (fun u k hu hk => ?_) g3 g13 gj gd
               rw [hy u k hu hk]
               congr 2
               exact kx_ifx (by by_cases z : u = s; subst z; omega; omega) _ _)
            | (refine ih (s + 1) on _ (by omega) (by omega) (fun u k hu hk => ?_) (by rw [k2 1 3 (by omega)]; exact g3) (by rw [k2 1 13 (by omega)]; exact g13) (fun j h1 h2 => by rw [k2 1 j (by omega)]; exact gj j h1 h2) (fun d j h1 h2 => by rw [k2 d j (by omega)]; exact gd d j h1 h2)
               by_cases z : u = s
               · subst z
                 rw [k1 k hk, hy u k hu hk, if_neg (by omega), if_pos (by omega), nI_add]
                 rfl
               · rw [k2 (14 + u) k (by omega), hy u k hu hk]
                 congr 2
                 exact kx_ifx (by omega) _ _)
  by_cases hon : a 4 = t + 1 ∧ a 5 = e
  · have hbr : h 1 10 = nI t ∧ h 1 11 = nI e ∧ h 1 12 = nI (a 6) ∧ h 1 13 = nI (a 7) := by
      rcases hBR with ⟨z, -⟩ | ⟨z, q1, q2, q3, q4⟩
      · omega
      · rw [show a 4 - 1 = t by omega] at q1
        rw [hon.2] at q2
        exact ⟨q1, q2, q3, q4⟩
    obtain ⟨r1, r2, r3, r4⟩ := hbr
    have f1 : sp_fr a e t = a 6 := if_pos hon
    have f2 : sp_wh a e t w = a 7 &&& w := if_pos hon
    have e6 := hfl
    rw [f1] at e6
    refine kx_ald0 (pc := 0) C dX2_spend_0 ?_
    refine kx_geti (pc := 1) C fl_X2_33 fd_1_10 (by first | assumption | rfl) dX2_spend_1 ?_
    refine kx_ild2 (pc := 4) C dX2_spend_4 ?_
    refine kx_icmp_neN (pc := 5) C 20 (by omega) (by omega) dX2_spend_5 (by decide) (fun c5 => ?_) (fun c5 => ?_)
    · omega
    · refine kx_ald0 (pc := 8) C dX2_spend_8 ?_
      refine kx_geti (pc := 9) C fl_X2_66 fd_1_11 (by first | assumption | rfl) dX2_spend_9 ?_
      refine kx_ild1 (pc := 12) C dX2_spend_12 ?_
      refine kx_icmp_neN (pc := 13) C 20 (by omega) (by omega) dX2_spend_13 (by decide) (fun c13 => ?_) (fun c13 => ?_)
      · omega
      · refine kx_iconst (pc := 16) C (v := nI 1) dX2_spend_16 (by decide) ?_
        refine kx_goto (pc := 17) C 21 dX2_spend_17 (by decide) ?_
        refine kx_ist5 (pc := 21) C dX2_spend_21 (by decide) rfl ?_
        refine kx_ild5 (pc := 23) C dX2_spend_23 ?_
        refine kx_if_eqN (pc := 25) C 35 (by omega) dX2_spend_25 (by decide) (fun c25 => ?_) (fun c25 => ?_)
        · omega
        · refine kx_ald0 (pc := 28) C dX2_spend_28 ?_
          refine kx_geti (pc := 29) C fl_X2_69 fd_1_12 (by first | assumption | rfl) dX2_spend_29 ?_
          refine kx_goto (pc := 32) C 36 dX2_spend_32 (by decide) ?_
          refine kx_ist6 (pc := 36) C dX2_spend_36 (by decide) rfl ?_
          refine kx_ild6 (pc := 38) C dX2_spend_38 ?_
          refine kx_ild3 (pc := 40) C dX2_spend_40 ?_
          first | refine kx_iaddN (pc := 41) C dX2_spend_41 ?_ | refine kx_iadd (pc := 41) C dX2_spend_41 ?_
          refine kx_ald0 (pc := 42) C dX2_spend_42 ?_
          refine kx_getr (pc := 43) C fl_X2_15 fd_1_5 dX2_spend_43 ?_
          refine kx_ild2 (pc := 46) C dX2_spend_46 ?_
          refine kx_iald (pc := 47) C ia_2 (by omega) hlen dX2_spend_47 ?_
          refine kx_min (pc := 48) C mm_X2_72 (by decide) (Nat.le_of_ble_eq_true rfl) (sp_min (by omega) (by omega)) dX2_spend_48 ?_
          rw [← f1, ← hto]
          refine kx_ist7 (pc := 51) C dX2_spend_51 (by decide) rfl ?_
          refine kx_ald0 (pc := 53) C dX2_spend_53 ?_
          refine kx_ild5 (pc := 54) C dX2_spend_54 ?_
          refine kx_if_eqN (pc := 56) C 69 (by omega) dX2_spend_56 (by decide) (fun c56 => ?_) (fun c56 => ?_)
          · omega
          · refine kx_ald0 (pc := 59) C dX2_spend_59 ?_
            refine kx_geti (pc := 60) C fl_X2_77 fd_1_13 (by first | assumption | rfl) dX2_spend_60 ?_
            refine kx_ild4 (pc := 63) C dX2_spend_63 ?_
            skip
            refine kx_iand (pc := 65) C dX2_spend_65 ?_
            refine kx_goto (pc := 66) C 71 dX2_spend_66 (by decide) ?_
            refine kx_puti (pc := 71) C fl_X2_77 fp_X2_13 fd_1_13 rfl rfl dX2_spend_71 ?_
            refine kx_ald0 (pc := 74) C dX2_spend_74 ?_
            refine kx_dup (pc := 75) C dX2_spend_75 rfl ?_
            refine kx_geti (pc := 76) C fl_X2_80 fd_1_3 (show _ = nI (a 3) by rw [kx_up, if_neg (by omega)]; exact hev) dX2_spend_76 ?_
            refine kx_iconst (pc := 79) C (v := nI 1) dX2_spend_79 (by decide) ?_
            first | refine kx_iaddN (pc := 80) C dX2_spend_80 ?_ | refine kx_iadd (pc := 80) C dX2_spend_80 ?_
            refine kx_puti (pc := 81) C fl_X2_80 fp_X2_3 fd_1_3 rfl rfl dX2_spend_81 ?_
            refine kx_iconst (pc := 84) C (v := nI 0) dX2_spend_84 (by decide) ?_
            refine kx_ist8 (pc := 85) C dX2_spend_85 (by decide) rfl ?_
            refine loop (a 2) 0 1 _ (by omega) (by omega) (fun u k hu hk => ?_) (by simp [kx_up]) (by simp [kx_up, kx_and, f2]) (fun j h1 h2 => by simp [kx_up, h1, h2]) (fun d j h1 h2 => by simp [kx_up, h1])
            rw [if_neg (by omega)]
            simp only [kx_up]
            rw [if_neg (by omega), if_neg (by omega)]
            exact hYD u k hu hk
  · have f1 : sp_fr a e t = 0 := if_neg hon
    have f2 : sp_wh a e t w = w := if_neg hon
    have e0 : nI 0 = nI (sp_fr a e t) := by rw [f1]
    refine kx_ald0 (pc := 0) C dX2_spend_0 ?_
    refine kx_geti (pc := 1) C fl_X2_33 fd_1_10 (by first | assumption | rfl) dX2_spend_1 ?_
    refine kx_ild2 (pc := 4) C dX2_spend_4 ?_
    refine kx_icmp_ne (pc := 5) C 20 dX2_spend_5 (by decide) (fun c5 => ?_) (fun c5 => ?_)
    · refine kx_iconst (pc := 20) C (v := nI 0) dX2_spend_20 (by decide) ?_
      refine kx_ist5 (pc := 21) C dX2_spend_21 (by decide) rfl ?_
      refine kx_ild5 (pc := 23) C dX2_spend_23 ?_
      refine kx_if_eqN (pc := 25) C 35 (by omega) dX2_spend_25 (by decide) (fun c25 => ?_) (fun c25 => ?_)
      · refine kx_iconst (pc := 35) C (v := nI 0) dX2_spend_35 (by decide) ?_
        refine kx_top C e0 ?_
        refine kx_ist6 (pc := 36) C dX2_spend_36 (by decide) rfl ?_
        refine kx_ild6 (pc := 38) C dX2_spend_38 ?_
        refine kx_ild3 (pc := 40) C dX2_spend_40 ?_
        first | refine kx_iaddN (pc := 41) C dX2_spend_41 ?_ | refine kx_iadd (pc := 41) C dX2_spend_41 ?_
        refine kx_ald0 (pc := 42) C dX2_spend_42 ?_
        refine kx_getr (pc := 43) C fl_X2_15 fd_1_5 dX2_spend_43 ?_
        refine kx_ild2 (pc := 46) C dX2_spend_46 ?_
        refine kx_iald (pc := 47) C ia_2 (by omega) hlen dX2_spend_47 ?_
        refine kx_min (pc := 48) C mm_X2_72 (by decide) (Nat.le_of_ble_eq_true rfl) (sp_min (by omega) (by omega)) dX2_spend_48 ?_
        rw [← hto]
        refine kx_ist7 (pc := 51) C dX2_spend_51 (by decide) rfl ?_
        refine kx_ald0 (pc := 53) C dX2_spend_53 ?_
        refine kx_ild5 (pc := 54) C dX2_spend_54 ?_
        refine kx_if_eqN (pc := 56) C 69 (by omega) dX2_spend_56 (by decide) (fun c56 => ?_) (fun c56 => ?_)
        · refine kx_ild4 (pc := 69) C dX2_spend_69 ?_
          refine kx_puti (pc := 71) C fl_X2_77 fp_X2_13 fd_1_13 rfl rfl dX2_spend_71 ?_
          refine kx_ald0 (pc := 74) C dX2_spend_74 ?_
          refine kx_dup (pc := 75) C dX2_spend_75 rfl ?_
          refine kx_geti (pc := 76) C fl_X2_80 fd_1_3 (show _ = nI (a 3) by rw [kx_up, if_neg (by omega)]; exact hev) dX2_spend_76 ?_
          refine kx_iconst (pc := 79) C (v := nI 1) dX2_spend_79 (by decide) ?_
          first | refine kx_iaddN (pc := 80) C dX2_spend_80 ?_ | refine kx_iadd (pc := 80) C dX2_spend_80 ?_
          refine kx_puti (pc := 81) C fl_X2_80 fp_X2_3 fd_1_3 rfl rfl dX2_spend_81 ?_
          refine kx_iconst (pc := 84) C (v := nI 0) dX2_spend_84 (by decide) ?_
          refine kx_ist8 (pc := 85) C dX2_spend_85 (by decide) rfl ?_
          refine loop (a 2) 0 0 _ (by omega) (by omega) (fun u k hu hk => ?_) (by simp [kx_up]) (by simp [kx_up, f2]) (fun j h1 h2 => by simp [kx_up, h1, h2]) (fun d j h1 h2 => by simp [kx_up, h1])
          rw [if_neg (by omega)]
          simp only [kx_up]
          rw [if_neg (by omega), if_neg (by omega)]
          exact hYD u k hu hk
        · omega
      · omega
    · refine kx_ald0 (pc := 8) C dX2_spend_8 ?_
      refine kx_geti (pc := 9) C fl_X2_66 fd_1_11 (by first | assumption | rfl) dX2_spend_9 ?_
      refine kx_ild1 (pc := 12) C dX2_spend_12 ?_
      refine kx_icmp_ne (pc := 13) C 20 dX2_spend_13 (by decide) (fun c13 => ?_) (fun c13 => ?_)
      · refine kx_iconst (pc := 20) C (v := nI 0) dX2_spend_20 (by decide) ?_
        refine kx_ist5 (pc := 21) C dX2_spend_21 (by decide) rfl ?_
        refine kx_ild5 (pc := 23) C dX2_spend_23 ?_
        refine kx_if_eqN (pc := 25) C 35 (by omega) dX2_spend_25 (by decide) (fun c25 => ?_) (fun c25 => ?_)
        · refine kx_iconst (pc := 35) C (v := nI 0) dX2_spend_35 (by decide) ?_
          refine kx_top C e0 ?_
          refine kx_ist6 (pc := 36) C dX2_spend_36 (by decide) rfl ?_
          refine kx_ild6 (pc := 38) C dX2_spend_38 ?_
          refine kx_ild3 (pc := 40) C dX2_spend_40 ?_
          first | refine kx_iaddN (pc := 41) C dX2_spend_41 ?_ | refine kx_iadd (pc := 41) C dX2_spend_41 ?_
          refine kx_ald0 (pc := 42) C dX2_spend_42 ?_
          refine kx_getr (pc := 43) C fl_X2_15 fd_1_5 dX2_spend_43 ?_
          refine kx_ild2 (pc := 46) C dX2_spend_46 ?_
          refine kx_iald (pc := 47) C ia_2 (by omega) hlen dX2_spend_47 ?_
          refine kx_min (pc := 48) C mm_X2_72 (by decide) (Nat.le_of_ble_eq_true rfl) (sp_min (by omega) (by omega)) dX2_spend_48 ?_
          rw [← hto]
          refine kx_ist7 (pc := 51) C dX2_spend_51 (by decide) rfl ?_
          refine kx_ald0 (pc := 53) C dX2_spend_53 ?_
          refine kx_ild5 (pc := 54) C dX2_spend_54 ?_
          refine kx_if_eqN (pc := 56) C 69 (by omega) dX2_spend_56 (by decide) (fun c56 => ?_) (fun c56 => ?_)
          · refine kx_ild4 (pc := 69) C dX2_spend_69 ?_
            refine kx_puti (pc := 71) C fl_X2_77 fp_X2_13 fd_1_13 rfl rfl dX2_spend_71 ?_
            refine kx_ald0 (pc := 74) C dX2_spend_74 ?_
            refine kx_dup (pc := 75) C dX2_spend_75 rfl ?_
            refine kx_geti (pc := 76) C fl_X2_80 fd_1_3 (show _ = nI (a 3) by rw [kx_up, if_neg (by omega)]; exact hev) dX2_spend_76 ?_
            refine kx_iconst (pc := 79) C (v := nI 1) dX2_spend_79 (by decide) ?_
            first | refine kx_iaddN (pc := 80) C dX2_spend_80 ?_ | refine kx_iadd (pc := 80) C dX2_spend_80 ?_
            refine kx_puti (pc := 81) C fl_X2_80 fp_X2_3 fd_1_3 rfl rfl dX2_spend_81 ?_
            refine kx_iconst (pc := 84) C (v := nI 0) dX2_spend_84 (by decide) ?_
            refine kx_ist8 (pc := 85) C dX2_spend_85 (by decide) rfl ?_
            refine loop (a 2) 0 0 _ (by omega) (by omega) (fun u k hu hk => ?_) (by simp [kx_up]) (by simp [kx_up, f2]) (fun j h1 h2 => by simp [kx_up, h1, h2]) (fun d j h1 h2 => by simp [kx_up, h1])
            rw [if_neg (by omega)]
            simp only [kx_up]
            rw [if_neg (by omega), if_neg (by omega)]
            exact hYD u k hu hk
          · omega
        · omega
      · exfalso
        apply hon
        rcases hBR with ⟨z, q0⟩ | ⟨z, q1, q2, q3, q4⟩
        · rw [q0] at c5
          exact absurd c5 (by rw [kx_eqI, kx_T (by omega)]; show ¬ ((-1 : Int32).toInt = _); rw [show (-1 : Int32).toInt = -1 from rfl]; omega)
        · have i1 := bb z
          rw [q1, nI_eq (by omega) (by omega)] at c5
          rw [q2, nI_eq (by omega) (by omega)] at c13
          omega
