/-! the reference's reading -/
def sp_ss (g : Nat → Nat) : Nat → Nat → Nat
  | _, 0 => 0
  | t, j + 1 => g t + sp_ss g (t + 1) j
theorem sp_ss_sg {g : Nat → Nat} : ∀ {j t : Nat}, sp_sg g (t + j) = sp_sg g t + sp_ss g t j
  | 0, t => rfl
  | j + 1, t => by
    rw [show t + (j + 1) = (t + 1) + j by omega, sp_ss_sg (j := j) (t := t + 1)]
    show sp_sg g t + g t + sp_ss g (t + 1) j = sp_sg g t + (g t + sp_ss g (t + 1) j)
    omega
theorem sp_ss_0 {g : Nat → Nat} {T : Nat} : sp_ss g 0 T = sp_sg g T := by
  have := sp_ss_sg (g := g) (j := T) (t := 0)
  rw [Nat.zero_add] at this
  rw [this]
  show _ = 0 + _
  omega
theorem sp_m1a (t : Nat) : nI t + Int32.ofInt (-1) + nI 1 = nI t := by
  rw [Int32.add_assoc, show Int32.ofInt (-1) + nI 1 = 0 from rfl, Int32.add_zero]
theorem sp_clr : ∀ u, u < 256 → ∀ t, t < 8 → u / 2 ^ t % 2 = 0 → nI (u ||| 2 ^ t) &&& (nI (2 ^ t) ^^^ (-1)) = nI u := by decide +kernel
theorem sp_W_sg {a v : Nat → Nat} {n u : Nat} (h0 : a 0 ≤ 8) (hu : u < 256) (hL : ¬ sp_L a u = n) : sp_W a v n u = sp_sg (sp_g a v n u) (a 0) := by
  rw [sp_W_rec h0 hu, if_neg hL]; rfl
theorem sp_W_full {a v : Nat → Nat} {n u : Nat} (h0 : a 0 ≤ 8) (hu : u < 256) (hL : ¬ sp_L a u = n) (h8 : sp_p8 u = 8) : sp_W a v n u = 0 := by
  rw [sp_W_rec h0 hu, if_neg hL]
  have : sp_sg (fun t => if u / 2 ^ t % 2 = 0 ∧ sp_ft a v n t (sp_L a u) = true then sp_W a v n (u ||| 2 ^ t) else 0) (a 0) ≤ a 0 * 0 := sp_sg_le (fun t ht => by
    have := sp_p8_all u hu h8 t (by omega)
    rw [if_neg (by omega)]; exact Nat.le_refl _)
  omega
/-- what is found of the first way -/
def sp_fr1 (a v : Nat → Nat) (n : Nat) (k : Int32) : Int32 := if k.toInt < 0 then 0 else if kx_n k < sp_rm a v n then nI (sp_nx a v n (sp_sq a v n (kx_n k))) else -4
def st_fO (a v : Nat → Nat) (n : Nat) (k : Int32) (c : Nat) (f : Int32) : Prop := (c = 0 → f = -4) ∧ (0 < c → f = sp_fr1 a v n k)
def st_In (a v : Nat → Nat) (n d u t c : Nat) (p : Nat → Nat) : Prop := c = 0 → 0 < sp_W a v n u → u = sp_sq a v n d ∧ (∀ i, i < d → p i = sp_nx a v n (sp_sq a v n i)) ∧ (∀ i, i ≤ d → ¬ sp_L a (sp_sq a v n i) = n) ∧ ∀ t', t' < t → sp_g a v n u t' = 0
theorem sp_nx_at {a v : Nat → Nat} {n u t : Nat} (ht : t < a 0) (h1 : 0 < sp_g a v n u t) (h2 : ∀ t', t' < t → sp_g a v n u t' = 0) : sp_nx a v n u = t :=
  sp_fst_at (p := fun t => decide (0 < sp_g a v n u t)) (decide_eq_true h1) (fun i hi => decide_eq_false (by rw [h2 i hi]; omega)) ht
theorem sp_g_W {a v : Nat → Nat} {n u t : Nat} (h0 : a 0 ≤ 8) (hu : u < 256) (hL : ¬ sp_L a u = n) (ht : t < a 0) (h : 0 < sp_g a v n u t) : 0 < sp_W a v n u := by
  rw [sp_W_sg h0 hu hL]
  exact Nat.lt_of_lt_of_le h (sp_sg_part ht)
set_option maxHeartbeats 4000000 in
set_option maxRecDepth 100000 in
theorem m_X9_read {h : kx_H} {a sl sn : Nat → Nat} {it : kx_H} (tv l ti tn k : Int32) (hH : st_MH 128 h a) (hB : st_B a) (hs : st_MS h sl sn it) : kx_MI 3 yX9_read cX9_read 14 .int [.ref 127, .int tv, .int l, .int ti, .int tn, .int k] h (fun r h1 => r = sp_read a sl sn it tv l ti tn k ∧ ∀ d j, d ≠ 134 → h1 d j = h d j) := by
  refine kx_mkI (own := RX9) (L0 := [some (.ref 127), some (.int tv), some (.int l), some (.int ti), some (.int tn), some (.int k), none, none, none, none, none, none, none, none]) rfl (by decide +kernel) (Nat.le_of_ble_eq_true rfl) rfl (fun F C hR => ?_)
  obtain ⟨hM, hMB⟩ := id hH
  obtain ⟨⟨b0, b1, b2, b3, b8, b8'⟩, hRB, bl, byy, bh, bz, bb⟩ := id hB
  have hl9 := hRB.1
  have hT : h 128 0 = nI (a 0) := hM 0 (by omega) (by omega) (by omega) (by omega)
  have hE : h 128 1 = nI (a 1) := hM 1 (by omega) (by omega) (by omega) (by omega)
  have hS : h 128 2 = nI (a 2) := hM 2 (by omega) (by omega) (by omega) (by omega)
  have hev : h 128 3 = nI (a 3) := hM 3 (by omega) (by omega) (by omega) (by omega)
  have hme : h 128 8 = nI (a 8) := hM 8 (by omega) (by omega) (by omega) (by omega)
  have main : ∀ (j i n : Nat) (v : Nat → Nat), j < 4 → i + n ≤ 24 → n ≤ 16 → -1 ≤ k.toInt → k.toInt ≤ 7 → (∀ e, e < n → h 133 (24 * j + i + e) = nI (v e)) → (∀ e, e < n → v e ≤ 9) → ∀ D d : Nat, d + D = 7 → ∀ q : Nat, ∀ (u t c : Nat) (f : Int32) (p : Nat → Nat) (g : kx_H) (o : Option Value), a 0 - t = q → t ≤ a 0 → u < 2 ^ a 0 → sp_p8 u = d → ¬ sp_L a u = n → sp_L a u ≤ n → (∀ x, x < d → g 134 x = nI (p x)) → g 134 d = nI t + Int32.ofInt (-1) → st_In a v n d u t c p → st_fO a v n k c f → c + sp_ss (sp_g a v n u) t q ≤ 2 ^ 30 → (∀ e x, e ≠ 134 → g e x = h e x) → (∀ f' g', st_fO a v n k (c + sp_ss (sp_g a v n u) t q) f' → (∀ x, x < d → g' 134 x = nI (p x)) → (∀ e x, e ≠ 134 → g' e x = h e x) → F 126 [some (.ref 127), some (.int (nI j)), some (.int l), some (.int (nI i)), some (.int (nI n)), some (.int k), some (.int 0), some (.int (nI (c + sp_ss (sp_g a v n u) t q))), some (.int f'), some (.int (nI (24 * j + i + sp_L a u))), some (.int (nI (n - sp_L a u))), some (.int (nI u)), some (.int (nI d)), some (.int (nI (a 0)))] [] g') → F 90 [some (.ref 127), some (.int (nI j)), some (.int l), some (.int (nI i)), some (.int (nI n)), some (.int k), some (.int 0), some (.int (nI c)), some (.int f), some (.int (nI (24 * j + i + sp_L a u))), some (.int (nI (n - sp_L a u))), some (.int (nI u)), some (.int (nI d)), o] [] g := by
    intro j i n v hj hin hn16 hk1 hk7 hvv hv9 D
    induction D with
    | zero =>
      intro d hd q
      induction q with
      | zero =>
        intro u t c f p g o hq ht hu hp8 hLn hLe hrow hrd hIn hfO hB30 hg hcont
        have q0 : g 128 0 = nI (a 0) := by rw [hg _ _ (by omega)]; exact hT
        have et : t = a 0 := by omega
        subst et
        refine kx_ild12 (pc := 90) C dX9_read_90 ?_
        refine kx_if_ltI (pc := 92) C 332 dX9_read_92 (by decide) (fun c92 => ?_) (fun c92 => ?_)
        · rw [kx_T (by omega)] at c92
          omega
        · refine kx_ald0 (pc := 95) C dX9_read_95 ?_
          refine kx_getr (pc := 96) C fl_X9_28 fd_127_8 dX9_read_96 ?_
          refine kx_ild12 (pc := 99) C dX9_read_99 ?_
          refine kx_dup2 (pc := 101) C dX9_read_101 rfl rfl ?_
          refine kx_iald (pc := 102) C ia_134 (by omega) hrd dX9_read_102 ?_
          refine kx_iconst (pc := 103) C (v := nI 1) dX9_read_103 (by decide) ?_
          refine kx_iadd (pc := 104) C dX9_read_104 ?_
          rw [sp_m1a]
          refine kx_iast (pc := 105) C ia_134 (by omega) dX9_read_105 ?_
          refine kx_ald0 (pc := 106) C dX9_read_106 ?_
          refine kx_getr (pc := 107) C fl_X9_28 fd_127_8 dX9_read_107 ?_
          refine kx_ild12 (pc := 110) C dX9_read_110 ?_
          refine kx_iald (pc := 112) C ia_134 (by omega) (show _ = nI (a 0) by rw [kx_up, if_pos ⟨rfl, rfl⟩]) dX9_read_112 ?_
          refine kx_ist13 (pc := 113) C dX9_read_113 (by decide) rfl ?_
          refine kx_ild13 (pc := 115) C dX9_read_115 ?_
          refine kx_ald0 (pc := 117) C dX9_read_117 ?_
          refine kx_getr (pc := 118) C fl_X9_7 fd_127_0 dX9_read_118 ?_
          refine kx_iconst (pc := 121) C (v := nI 0) dX9_read_121 (by decide) ?_
          refine kx_iald (pc := 122) C ia_128 (by omega) (show _ = nI (a 0) by rw [kx_up, if_neg (by omega)]; exact q0) dX9_read_122 ?_
          refine kx_icmp_ltN (pc := 123) C 193 (by omega) (by omega) dX9_read_123 (by decide) (fun c123 => ?_) (fun c123 => ?_)
          · omega
          · exact hcont f _ hfO (fun x hx => by rw [kx_up, if_neg (by omega)]; exact hrow x hx) (fun e x he => by rw [kx_up, if_neg (by omega)]; exact hg e x he)
      | succ q ih =>
        intro u t c f p g o hq ht hu hp8 hLn hLe hrow hrd hIn hfO hB30 hg hcont
        have h2T := sp_2T b0
        have hu256 : u < 256 := by omega
        have q0 : g 128 0 = nI (a 0) := by rw [hg _ _ (by omega)]; exact hT
        have hMg : ∀ k, k < 141 → k ≠ 4 → k ≠ 5 → k ≠ 6 → g 128 k = nI (a k) := fun k h1 h2 h3 h4 => by rw [hg _ _ (by omega)]; exact hM k h1 h2 h3 h4
        have hvg : ∀ e, e < n → g 133 (24 * j + i + e) = nI (v e) := fun e he => by rw [hg _ _ (by omega)]; exact hvv e he
        have hl := hl9 t (by omega)
        have eL : g 128 (81 + t) = nI (a (81 + t)) := hMg _ (by omega) (by omega) (by omega) (by omega)
        have ess : sp_ss (sp_g a v n u) t (q + 1) = sp_g a v n u t + sp_ss (sp_g a v n u) (t + 1) q := rfl
        rw [ess] at hB30 hcont
        rw [← Nat.add_assoc] at hcont
        have hr2 : ∀ x, x < d → kx_up g 134 d (nI t) 134 x = nI (p x) := fun x hx => by rw [kx_up, if_neg (by omega)]; exact hrow x hx
        have hg2 : ∀ e x, e ≠ 134 → kx_up g 134 d (nI t) e x = h e x := fun e x he => by rw [kx_up, if_neg (by omega)]; exact hg e x he
        have hrt : kx_up g 134 d (nI t) 134 d = nI t := by rw [kx_up, if_pos ⟨rfl, rfl⟩]
        have bk : nI (t + 1) + Int32.ofInt (-1) = nI t := sp_m1 t
        -- nothing at t
        have skip : sp_g a v n u t = 0 → F 90 [some (.ref 127), some (.int (nI j)), some (.int l), some (.int (nI i)), some (.int (nI n)), some (.int k), some (.int 0), some (.int (nI c)), some (.int f), some (.int (nI (24 * j + i + sp_L a u))), some (.int (nI (n - sp_L a u))), some (.int (nI u)), some (.int (nI d)), some (.int (nI t))] [] (kx_up g 134 d (nI t)) := by
          intro hz
          rw [hz, Nat.zero_add] at hB30
          rw [hz, Nat.add_zero] at hcont
          refine ih u (t + 1) c f p _ _ (by omega) (by omega) hu hp8 hLn hLe hr2 (by rw [hrt, bk]) (fun c0 w0 => ?_) hfO hB30 hg2 hcont
          obtain ⟨i1, i2, i3, i4⟩ := hIn c0 w0
          refine ⟨i1, i2, i3, fun t' ht' => ?_⟩
          rcases Nat.lt_or_ge t' t with z | z
          · exact i4 t' z
          · rw [show t' = t by omega]; exact hz
        have live : u / 2 ^ t % 2 = 0 → sp_ft a v n t (sp_L a u) = true → sp_g a v n u t = sp_W a v n (u ||| 2 ^ t) := fun h1 h2 => if_pos ⟨h1, h2⟩
        -- a whole reading ends with t
        have leaf : u / 2 ^ t % 2 = 0 → sp_ft a v n t (sp_L a u) = true → n - sp_L a u = a (81 + t) → sp_g a v n u t = 1 ∧ (c = 0 → t = sp_nx a v n u ∧ u = sp_sq a v n d ∧ (∀ i, i < d → p i = sp_nx a v n (sp_sq a v n i)) ∧ sp_rm a v n = d + 1) := by
          intro h1 h2 h3
          have hor := sp_L_or b0 hu256 (show t < a 0 by omega) h1
          have hW1 : sp_W a v n (u ||| 2 ^ t) = 1 := by
            rw [sp_W_rec b0 (sp_bits8 u hu256 t (by omega) h1).1.2.1, if_pos (by omega)]
          have hg1 : sp_g a v n u t = 1 := by rw [live h1 h2, hW1]
          refine ⟨hg1, fun c0 => ?_⟩
          obtain ⟨i1, i2, i3, i4⟩ := hIn c0 (sp_g_W b0 hu256 hLn (show t < a 0 by omega) (by omega))
          have hnx := sp_nx_at (show t < a 0 by omega) (by omega) i4
          refine ⟨hnx.symm, i1, i2, ?_⟩
          unfold sp_rm
          refine sp_fst_at (decide_eq_true ?_) (fun x hx => decide_eq_false (i3 x (by omega))) (by omega)
          show sp_L a (sp_sq a v n d ||| 2 ^ sp_nx a v n (sp_sq a v n d)) = n
          rw [← i1, hnx]; omega
        have more : u / 2 ^ t % 2 = 0 → sp_ft a v n t (sp_L a u) = true → n - sp_L a u = a (81 + t) → ∀ f', st_fO a v n k (c + 1) f' → F 266 [some (.ref 127), some (.int (nI j)), some (.int l), some (.int (nI i)), some (.int (nI n)), some (.int k), some (.int 0), some (.int (nI c)), some (.int f'), some (.int (nI (24 * j + i + sp_L a u))), some (.int (nI (n - sp_L a u))), some (.int (nI u)), some (.int (nI d)), some (.int (nI t))] [] (kx_up g 134 d (nI t)) := by
          intro h1 h2 h3 f' hf'
          obtain ⟨hg1, -⟩ := leaf h1 h2 h3
          rw [hg1] at hB30 hcont
          first | refine kx_inc7 (pc := 266) C (v := nI (_ + 1)) dX9_read_266 (by decide) rfl (nI_1 _) ?_ | refine kx_inc7 (pc := 266) C dX9_read_266 (by decide) rfl rfl ?_
          refine kx_goto (pc := 269) C 329 dX9_read_269 (by decide) ?_
          refine kx_goto (pc := 329) C 90 dX9_read_329 (by decide) ?_
          exact ih u (t + 1) (c + 1) f' p _ _ (by omega) (by omega) hu hp8 hLn hLe hr2 (by rw [hrt, bk]) (fun c0 => absurd c0 (by omega)) hf' (by omega) hg2 hcont
        have ft1 : sp_ft a v n t (sp_L a u) = true → sp_L a u + a (81 + t) ≤ n := fun z => by
          unfold sp_ft at z
          rw [Bool.and_eq_true] at z
          exact of_decide_eq_true z.1
        have deep : u / 2 ^ t % 2 = 0 → sp_ft a v n t (sp_L a u) = true → ¬ n - sp_L a u = a (81 + t) → sp_g a v n u t = 0 := by
          intro h1 h2 h3
          have hb8 := sp_bits8 u hu256 t (by omega) h1
          have hor := sp_L_or b0 hu256 (show t < a 0 by omega) h1
          have hle := ft1 h2
          rw [live h1 h2, sp_W_full b0 hb8.1.2.1 (by omega) (by rw [hb8.1.1, hp8]; omega)]
        refine kx_ild12 (pc := 90) C dX9_read_90 ?_
        refine kx_if_ltI (pc := 92) C 332 dX9_read_92 (by decide) (fun c92 => ?_) (fun c92 => ?_)
        · rw [kx_T (by omega)] at c92
          omega
        · refine kx_ald0 (pc := 95) C dX9_read_95 ?_
          refine kx_getr (pc := 96) C fl_X9_28 fd_127_8 dX9_read_96 ?_
          refine kx_ild12 (pc := 99) C dX9_read_99 ?_
          refine kx_dup2 (pc := 101) C dX9_read_101 rfl rfl ?_
          refine kx_iald (pc := 102) C ia_134 (by omega) hrd dX9_read_102 ?_
          refine kx_iconst (pc := 103) C (v := nI 1) dX9_read_103 (by decide) ?_
          refine kx_iadd (pc := 104) C dX9_read_104 ?_
          rw [sp_m1a]
          refine kx_iast (pc := 105) C ia_134 (by omega) dX9_read_105 ?_
          refine kx_ald0 (pc := 106) C dX9_read_106 ?_
          refine kx_getr (pc := 107) C fl_X9_28 fd_127_8 dX9_read_107 ?_
          refine kx_ild12 (pc := 110) C dX9_read_110 ?_
          refine kx_iald (pc := 112) C ia_134 (by omega) hrt dX9_read_112 ?_
          refine kx_ist13 (pc := 113) C dX9_read_113 (by decide) rfl ?_
          refine kx_ild13 (pc := 115) C dX9_read_115 ?_
          refine kx_ald0 (pc := 117) C dX9_read_117 ?_
          refine kx_getr (pc := 118) C fl_X9_7 fd_127_0 dX9_read_118 ?_
          refine kx_iconst (pc := 121) C (v := nI 0) dX9_read_121 (by decide) ?_
          refine kx_iald (pc := 122) C ia_128 (by omega) (show _ = nI (a 0) by rw [kx_up, if_neg (by omega)]; exact q0) dX9_read_122 ?_
          refine kx_icmp_ltN (pc := 123) C 193 (by omega) (by omega) dX9_read_123 (by decide) (fun c123 => ?_) (fun c123 => ?_)
          · refine kx_ild11 (pc := 193) C dX9_read_193 ?_
            refine kx_ild13 (pc := 195) C dX9_read_195 ?_
            refine kx_ishr (pc := 197) C dX9_read_197 ?_
            refine kx_iconst (pc := 198) C (v := nI 1) dX9_read_198 (by decide) ?_
            refine kx_iand (pc := 199) C dX9_read_199 ?_
            rw [kx_bit (by omega) (by omega)]
            refine kx_if_neN (pc := 200) C 329 (by omega) dX9_read_200 (by decide) (fun c200 => ?_) (fun c200 => ?_)
            · refine kx_goto (pc := 329) C 90 dX9_read_329 (by decide) ?_
              first
                | exact skip (if_neg (fun z => by have := z.1; omega))
                | exact skip (if_neg (fun z => kx_if0 c213 z.2))
                | exact skip (deep c200 (kx_if1 c213) c228)
            · refine kx_ald0 (pc := 203) C dX9_read_203 ?_
              refine kx_ild13 (pc := 204) C dX9_read_204 ?_
              refine kx_ild9 (pc := 206) C dX9_read_206 ?_
              refine kx_ild10 (pc := 208) C dX9_read_208 ?_
              refine kx_callVI3 (pc := 210) C cs_X9_160 ob_127 (m_X9_isSo (fun k h1 h2 h3 h4 => by rw [kx_up, if_neg (by omega)]; exact hMg k h1 h2 h3 h4) hRB (by omega) hLe hn16 (by omega) (fun e he => by rw [kx_up, if_neg (by omega)]; exact hvg e he) hv9) (by decide) dX9_read_210 (Nat.le_of_ble_eq_true rfl) (fun r210 h210 q210 => ?_)
              obtain ⟨z210, rfl⟩ := q210
              have z210 := z210.symm
              subst z210
              refine kx_if_eq (pc := 213) C 329 dX9_read_213 (by decide) (fun c213 => ?_) (fun c213 => ?_)
              · refine kx_goto (pc := 329) C 90 dX9_read_329 (by decide) ?_
                first
                  | exact skip (if_neg (fun z => by have := z.1; omega))
                  | exact skip (if_neg (fun z => kx_if0 c213 z.2))
                  | exact skip (deep c200 (kx_if1 c213) c228)
              · have fit := kx_if1 c213
                have hle := ft1 fit
                refine kx_ild10 (pc := 216) C dX9_read_216 ?_
                refine kx_ald0 (pc := 218) C dX9_read_218 ?_
                refine kx_getr (pc := 219) C fl_X9_7 fd_127_0 dX9_read_219 ?_
                refine kx_bipush (pc := 222) C (v := nI 81) dX9_read_222 (by decide) ?_
                refine kx_ild13 (pc := 224) C dX9_read_224 ?_
                first | refine kx_iaddN (pc := 226) C dX9_read_226 ?_ | refine kx_iadd (pc := 226) C dX9_read_226 ?_
                refine kx_iald (pc := 227) C ia_128 (by omega) (show _ = nI (a (81 + t)) by rw [kx_up, if_neg (by omega)]; exact eL) dX9_read_227 ?_
                refine kx_icmp_neN (pc := 228) C 272 (by omega) (by omega) dX9_read_228 (by decide) (fun c228 => ?_) (fun c228 => ?_)
                · refine kx_ild12 (pc := 272) C dX9_read_272 ?_
                  refine kx_bipush (pc := 274) C (v := nI 7) dX9_read_274 (by decide) ?_
                  refine kx_icmp_geN (pc := 276) C 329 (by omega) (by omega) dX9_read_276 (by decide) (fun c276 => ?_) (fun c276 => ?_)
                  · refine kx_goto (pc := 329) C 90 dX9_read_329 (by decide) ?_
                    first
                      | exact skip (if_neg (fun z => by have := z.1; omega))
                      | exact skip (if_neg (fun z => kx_if0 c213 z.2))
                      | exact skip (deep c200 (kx_if1 c213) c228)
                  · omega
                · refine kx_ild7 (pc := 231) C dX9_read_231 ?_
                  refine kx_if_neN (pc := 233) C 266 (by omega) dX9_read_233 (by decide) (fun c233 => ?_) (fun c233 => ?_)
                  · obtain ⟨lf1, -⟩ := leaf c200 fit c228
                    first
                      | exact more c200 fit c228 f ⟨fun z => absurd z (by omega), fun _ => hfO.2 c233⟩
                      | exact more c200 fit c228 _ ⟨fun z => absurd z (by omega), fun _ => by unfold sp_fr1; rw [if_neg (by omega), kx_n, kx_n_nI hz2, if_pos (by omega)]⟩
                      | exact more c200 fit c228 _ ⟨fun z => absurd z (by omega), fun _ => by unfold sp_fr1; rw [if_pos (by omega)]; rfl⟩
                      | exact more c200 fit c228 _ ⟨fun z => absurd z (by omega), fun _ => by
                          rw [kx_T (by omega)] at c240
                          obtain ⟨z, rfl, hz, hz2⟩ := kx_nat (x := k) (by omega)
                          unfold sp_fr1; rw [if_neg (by omega), kx_n, kx_n_nI hz2, if_neg (by omega)]⟩
                  · obtain ⟨lf1, lf2⟩ := leaf c200 fit c228
                    obtain ⟨x1, x2, x3, x4⟩ := lf2 c233
                    refine kx_ild5 (pc := 236) C dX9_read_236 ?_
                    refine kx_ild12 (pc := 238) C dX9_read_238 ?_
                    refine kx_icmp_leI (pc := 240) C 248 dX9_read_240 (by decide) (fun c240 => ?_) (fun c240 => ?_)
                    · refine kx_ild5 (pc := 248) C dX9_read_248 ?_
                      refine kx_if_geI (pc := 250) C 257 dX9_read_250 (by decide) (fun c250 => ?_) (fun c250 => ?_)
                      · obtain ⟨z, rfl, hz, hz2⟩ := kx_nat c250
                        have c240 : z ≤ d := by rw [kx_T (by omega), kx_T (by omega)] at c240; omega
                        have er : kx_up g 134 d (nI t) 134 z = nI (sp_nx a v n (sp_sq a v n z)) := by
                          by_cases y : z = d
                          · rw [y, hrt, ← x2, x1]
                          · rw [hr2 z (by omega), x3 z (by omega)]
                        refine kx_ald0 (pc := 257) C dX9_read_257 ?_
                        refine kx_getr (pc := 258) C fl_X9_28 fd_127_8 dX9_read_258 ?_
                        refine kx_ild5 (pc := 261) C dX9_read_261 ?_
                        refine kx_iald (pc := 263) C ia_134 (by omega) er dX9_read_263 ?_
                        refine kx_ist8 (pc := 264) C dX9_read_264 (by decide) rfl ?_
                        first
                          | exact more c200 fit c228 f ⟨fun z => absurd z (by omega), fun _ => hfO.2 c233⟩
                          | exact more c200 fit c228 _ ⟨fun z => absurd z (by omega), fun _ => by unfold sp_fr1; rw [if_neg (by omega), kx_n, kx_n_nI hz2, if_pos (by omega)]⟩
                          | exact more c200 fit c228 _ ⟨fun z => absurd z (by omega), fun _ => by unfold sp_fr1; rw [if_pos (by omega)]; rfl⟩
                          | exact more c200 fit c228 _ ⟨fun z => absurd z (by omega), fun _ => by
                              rw [kx_T (by omega)] at c240
                              obtain ⟨z, rfl, hz, hz2⟩ := kx_nat (x := k) (by omega)
                              unfold sp_fr1; rw [if_neg (by omega), kx_n, kx_n_nI hz2, if_neg (by omega)]⟩
                      · refine kx_iconst (pc := 253) C (v := nI 0) dX9_read_253 (by decide) ?_
                        refine kx_goto (pc := 254) C 264 dX9_read_254 (by decide) ?_
                        refine kx_ist8 (pc := 264) C dX9_read_264 (by decide) rfl ?_
                        first
                          | exact more c200 fit c228 f ⟨fun z => absurd z (by omega), fun _ => hfO.2 c233⟩
                          | exact more c200 fit c228 _ ⟨fun z => absurd z (by omega), fun _ => by unfold sp_fr1; rw [if_neg (by omega), kx_n, kx_n_nI hz2, if_pos (by omega)]⟩
                          | exact more c200 fit c228 _ ⟨fun z => absurd z (by omega), fun _ => by unfold sp_fr1; rw [if_pos (by omega)]; rfl⟩
                          | exact more c200 fit c228 _ ⟨fun z => absurd z (by omega), fun _ => by
                              rw [kx_T (by omega)] at c240
                              obtain ⟨z, rfl, hz, hz2⟩ := kx_nat (x := k) (by omega)
                              unfold sp_fr1; rw [if_neg (by omega), kx_n, kx_n_nI hz2, if_neg (by omega)]⟩
                    · refine kx_bipush (pc := 243) C (v := -4) dX9_read_243 (by decide) ?_
                      refine kx_goto (pc := 245) C 264 dX9_read_245 (by decide) ?_
                      refine kx_ist8 (pc := 264) C dX9_read_264 (by decide) rfl ?_
                      first
                        | exact more c200 fit c228 f ⟨fun z => absurd z (by omega), fun _ => hfO.2 c233⟩
                        | exact more c200 fit c228 _ ⟨fun z => absurd z (by omega), fun _ => by unfold sp_fr1; rw [if_neg (by omega), kx_n, kx_n_nI hz2, if_pos (by omega)]⟩
                        | exact more c200 fit c228 _ ⟨fun z => absurd z (by omega), fun _ => by unfold sp_fr1; rw [if_pos (by omega)]; rfl⟩
                        | exact more c200 fit c228 _ ⟨fun z => absurd z (by omega), fun _ => by
                            rw [kx_T (by omega)] at c240
                            obtain ⟨z, rfl, hz, hz2⟩ := kx_nat (x := k) (by omega)
                            unfold sp_fr1; rw [if_neg (by omega), kx_n, kx_n_nI hz2, if_neg (by omega)]⟩
          · omega
    | succ D ihD0 =>
      intro d hd q
      have ihD := fun q => ihD0 (d + 1) (by omega) q
      induction q with
      | zero =>
        intro u t c f p g o hq ht hu hp8 hLn hLe hrow hrd hIn hfO hB30 hg hcont
        have q0 : g 128 0 = nI (a 0) := by rw [hg _ _ (by omega)]; exact hT
        have et : t = a 0 := by omega
        subst et
        refine kx_ild12 (pc := 90) C dX9_read_90 ?_
        refine kx_if_ltI (pc := 92) C 332 dX9_read_92 (by decide) (fun c92 => ?_) (fun c92 => ?_)
        · rw [kx_T (by omega)] at c92
          omega
        · refine kx_ald0 (pc := 95) C dX9_read_95 ?_
          refine kx_getr (pc := 96) C fl_X9_28 fd_127_8 dX9_read_96 ?_
          refine kx_ild12 (pc := 99) C dX9_read_99 ?_
          refine kx_dup2 (pc := 101) C dX9_read_101 rfl rfl ?_
          refine kx_iald (pc := 102) C ia_134 (by omega) hrd dX9_read_102 ?_
          refine kx_iconst (pc := 103) C (v := nI 1) dX9_read_103 (by decide) ?_
          refine kx_iadd (pc := 104) C dX9_read_104 ?_
          rw [sp_m1a]
          refine kx_iast (pc := 105) C ia_134 (by omega) dX9_read_105 ?_
          refine kx_ald0 (pc := 106) C dX9_read_106 ?_
          refine kx_getr (pc := 107) C fl_X9_28 fd_127_8 dX9_read_107 ?_
          refine kx_ild12 (pc := 110) C dX9_read_110 ?_
          refine kx_iald (pc := 112) C ia_134 (by omega) (show _ = nI (a 0) by rw [kx_up, if_pos ⟨rfl, rfl⟩]) dX9_read_112 ?_
          refine kx_ist13 (pc := 113) C dX9_read_113 (by decide) rfl ?_
          refine kx_ild13 (pc := 115) C dX9_read_115 ?_
          refine kx_ald0 (pc := 117) C dX9_read_117 ?_
          refine kx_getr (pc := 118) C fl_X9_7 fd_127_0 dX9_read_118 ?_
          refine kx_iconst (pc := 121) C (v := nI 0) dX9_read_121 (by decide) ?_
          refine kx_iald (pc := 122) C ia_128 (by omega) (show _ = nI (a 0) by rw [kx_up, if_neg (by omega)]; exact q0) dX9_read_122 ?_
          refine kx_icmp_ltN (pc := 123) C 193 (by omega) (by omega) dX9_read_123 (by decide) (fun c123 => ?_) (fun c123 => ?_)
          · omega
          · exact hcont f _ hfO (fun x hx => by rw [kx_up, if_neg (by omega)]; exact hrow x hx) (fun e x he => by rw [kx_up, if_neg (by omega)]; exact hg e x he)
      | succ q ih =>
        intro u t c f p g o hq ht hu hp8 hLn hLe hrow hrd hIn hfO hB30 hg hcont
        have h2T := sp_2T b0
        have hu256 : u < 256 := by omega
        have q0 : g 128 0 = nI (a 0) := by rw [hg _ _ (by omega)]; exact hT
        have hMg : ∀ k, k < 141 → k ≠ 4 → k ≠ 5 → k ≠ 6 → g 128 k = nI (a k) := fun k h1 h2 h3 h4 => by rw [hg _ _ (by omega)]; exact hM k h1 h2 h3 h4
        have hvg : ∀ e, e < n → g 133 (24 * j + i + e) = nI (v e) := fun e he => by rw [hg _ _ (by omega)]; exact hvv e he
        have hl := hl9 t (by omega)
        have eL : g 128 (81 + t) = nI (a (81 + t)) := hMg _ (by omega) (by omega) (by omega) (by omega)
        have ess : sp_ss (sp_g a v n u) t (q + 1) = sp_g a v n u t + sp_ss (sp_g a v n u) (t + 1) q := rfl
        rw [ess] at hB30 hcont
        rw [← Nat.add_assoc] at hcont
        have hr2 : ∀ x, x < d → kx_up g 134 d (nI t) 134 x = nI (p x) := fun x hx => by rw [kx_up, if_neg (by omega)]; exact hrow x hx
        have hg2 : ∀ e x, e ≠ 134 → kx_up g 134 d (nI t) e x = h e x := fun e x he => by rw [kx_up, if_neg (by omega)]; exact hg e x he
        have hrt : kx_up g 134 d (nI t) 134 d = nI t := by rw [kx_up, if_pos ⟨rfl, rfl⟩]
        have bk : nI (t + 1) + Int32.ofInt (-1) = nI t := sp_m1 t
        -- nothing at t
        have skip : sp_g a v n u t = 0 → F 90 [some (.ref 127), some (.int (nI j)), some (.int l), some (.int (nI i)), some (.int (nI n)), some (.int k), some (.int 0), some (.int (nI c)), some (.int f), some (.int (nI (24 * j + i + sp_L a u))), some (.int (nI (n - sp_L a u))), some (.int (nI u)), some (.int (nI d)), some (.int (nI t))] [] (kx_up g 134 d (nI t)) := by
          intro hz
          rw [hz, Nat.zero_add] at hB30
          rw [hz, Nat.add_zero] at hcont
          refine ih u (t + 1) c f p _ _ (by omega) (by omega) hu hp8 hLn hLe hr2 (by rw [hrt, bk]) (fun c0 w0 => ?_) hfO hB30 hg2 hcont
          obtain ⟨i1, i2, i3, i4⟩ := hIn c0 w0
          refine ⟨i1, i2, i3, fun t' ht' => ?_⟩
          rcases Nat.lt_or_ge t' t with z | z
          · exact i4 t' z
          · rw [show t' = t by omega]; exact hz
        have live : u / 2 ^ t % 2 = 0 → sp_ft a v n t (sp_L a u) = true → sp_g a v n u t = sp_W a v n (u ||| 2 ^ t) := fun h1 h2 => if_pos ⟨h1, h2⟩
        -- a whole reading ends with t
        have leaf : u / 2 ^ t % 2 = 0 → sp_ft a v n t (sp_L a u) = true → n - sp_L a u = a (81 + t) → sp_g a v n u t = 1 ∧ (c = 0 → t = sp_nx a v n u ∧ u = sp_sq a v n d ∧ (∀ i, i < d → p i = sp_nx a v n (sp_sq a v n i)) ∧ sp_rm a v n = d + 1) := by
          intro h1 h2 h3
          have hor := sp_L_or b0 hu256 (show t < a 0 by omega) h1
          have hW1 : sp_W a v n (u ||| 2 ^ t) = 1 := by
            rw [sp_W_rec b0 (sp_bits8 u hu256 t (by omega) h1).1.2.1, if_pos (by omega)]
          have hg1 : sp_g a v n u t = 1 := by rw [live h1 h2, hW1]
          refine ⟨hg1, fun c0 => ?_⟩
          obtain ⟨i1, i2, i3, i4⟩ := hIn c0 (sp_g_W b0 hu256 hLn (show t < a 0 by omega) (by omega))
          have hnx := sp_nx_at (show t < a 0 by omega) (by omega) i4
          refine ⟨hnx.symm, i1, i2, ?_⟩
          unfold sp_rm
          refine sp_fst_at (decide_eq_true ?_) (fun x hx => decide_eq_false (i3 x (by omega))) (by omega)
          show sp_L a (sp_sq a v n d ||| 2 ^ sp_nx a v n (sp_sq a v n d)) = n
          rw [← i1, hnx]; omega
        have more : u / 2 ^ t % 2 = 0 → sp_ft a v n t (sp_L a u) = true → n - sp_L a u = a (81 + t) → ∀ f', st_fO a v n k (c + 1) f' → F 266 [some (.ref 127), some (.int (nI j)), some (.int l), some (.int (nI i)), some (.int (nI n)), some (.int k), some (.int 0), some (.int (nI c)), some (.int f'), some (.int (nI (24 * j + i + sp_L a u))), some (.int (nI (n - sp_L a u))), some (.int (nI u)), some (.int (nI d)), some (.int (nI t))] [] (kx_up g 134 d (nI t)) := by
          intro h1 h2 h3 f' hf'
          obtain ⟨hg1, -⟩ := leaf h1 h2 h3
          rw [hg1] at hB30 hcont
          first | refine kx_inc7 (pc := 266) C (v := nI (_ + 1)) dX9_read_266 (by decide) rfl (nI_1 _) ?_ | refine kx_inc7 (pc := 266) C dX9_read_266 (by decide) rfl rfl ?_
          refine kx_goto (pc := 269) C 329 dX9_read_269 (by decide) ?_
          refine kx_goto (pc := 329) C 90 dX9_read_329 (by decide) ?_
          exact ih u (t + 1) (c + 1) f' p _ _ (by omega) (by omega) hu hp8 hLn hLe hr2 (by rw [hrt, bk]) (fun c0 => absurd c0 (by omega)) hf' (by omega) hg2 hcont
        have ft1 : sp_ft a v n t (sp_L a u) = true → sp_L a u + a (81 + t) ≤ n := fun z => by
          unfold sp_ft at z
          rw [Bool.and_eq_true] at z
          exact of_decide_eq_true z.1
        have deep : u / 2 ^ t % 2 = 0 → sp_ft a v n t (sp_L a u) = true → ¬ n - sp_L a u = a (81 + t) → F 90 [some (.ref 127), some (.int (nI j)), some (.int l), some (.int (nI i)), some (.int (nI n)), some (.int k), some (.int 0), some (.int (nI c)), some (.int f), some (.int (nI (24 * j + i + sp_L a (u ||| 2 ^ t)))), some (.int (nI (n - sp_L a (u ||| 2 ^ t)))), some (.int (nI (u ||| 2 ^ t))), some (.int (nI (d + 1))), some (.int (nI t))] [] (kx_up (kx_up g 134 d (nI t)) 134 (d + 1) (-1)) := by
          intro h1 h2 h3
          have hb8 := sp_bits8 u hu256 t (by omega) h1
          have hor := sp_L_or b0 hu256 (show t < a 0 by omega) h1
          have hle := ft1 h2
          have hgW := live h1 h2
          have hL2 : ¬ sp_L a (u ||| 2 ^ t) = n := by omega
          have hWs : sp_W a v n (u ||| 2 ^ t) = sp_ss (sp_g a v n (u ||| 2 ^ t)) 0 (a 0) := by rw [sp_ss_0, sp_W_sg b0 hb8.1.2.1 hL2]
          rw [hgW, hWs] at hB30 hcont
          have back : ∀ f' g', st_fO a v n k (c + sp_ss (sp_g a v n (u ||| 2 ^ t)) 0 (a 0)) f' → (∀ x, x < d + 1 → g' 134 x = nI (if x = d then t else p x)) → (∀ e x, e ≠ 134 → g' e x = h e x) → F 126 [some (.ref 127), some (.int (nI j)), some (.int l), some (.int (nI i)), some (.int (nI n)), some (.int k), some (.int 0), some (.int (nI (c + sp_ss (sp_g a v n (u ||| 2 ^ t)) 0 (a 0)))), some (.int f'), some (.int (nI (24 * j + i + sp_L a (u ||| 2 ^ t)))), some (.int (nI (n - sp_L a (u ||| 2 ^ t)))), some (.int (nI (u ||| 2 ^ t))), some (.int (nI (d + 1))), some (.int (nI (a 0)))] [] g' := by
            intro f' g' hf' hr' hg'
            have r1 : g' 134 d = nI t := by rw [hr' d (by omega), if_pos rfl]
            have l1 : g' 128 (81 + t) = nI (a (81 + t)) := by rw [hg' _ _ (by omega)]; exact hM _ (by omega) (by omega) (by omega) (by omega)
            have h5 := ih u (t + 1) (c + sp_ss (sp_g a v n (u ||| 2 ^ t)) 0 (a 0)) f' p g' (some (.int (nI (a 0)))) (by omega) (by omega) hu hp8 hLn hLe (fun x hx => by rw [hr' x (by omega), if_neg (by omega)]) (by rw [r1, bk]) (fun c0 w0 => ?_) hf' (by omega) hg' hcont
            · rw [hor]
              rw [show 24 * j + i + sp_L a u = 24 * j + i + (sp_L a u + a (81 + t)) - a (81 + t) by omega, show n - sp_L a u = n - (sp_L a u + a (81 + t)) + a (81 + t) by omega] at h5
              refine kx_inc12 (pc := 126) C dX9_read_126 (by decide) rfl rfl ?_
              rw [sp_m1]
              refine kx_ild12 (pc := 129) C dX9_read_129 ?_
              refine kx_if_ltI (pc := 131) C 329 dX9_read_131 (by decide) (fun c131 => ?_) (fun c131 => ?_)
              · rw [kx_T (by omega)] at c131
                omega
              · refine kx_ild11 (pc := 134) C dX9_read_134 ?_
                refine kx_iconst (pc := 136) C (v := nI 1) dX9_read_136 (by decide) ?_
                refine kx_ald0 (pc := 137) C dX9_read_137 ?_
                refine kx_getr (pc := 138) C fl_X9_28 fd_127_8 dX9_read_138 ?_
                refine kx_ild12 (pc := 141) C dX9_read_141 ?_
                refine kx_iald (pc := 143) C ia_134 (by omega) r1 dX9_read_143 ?_
                refine kx_ishl (pc := 144) C dX9_read_144 ?_
                rw [kx_sl1 (by omega)]
                refine kx_iconst (pc := 145) C (v := -1) dX9_read_145 (by decide) ?_
                refine kx_ixor (pc := 146) C dX9_read_146 ?_
                refine kx_iand (pc := 147) C dX9_read_147 ?_
                rw [sp_clr u hu256 t (by omega) h1]
                refine kx_ist11 (pc := 148) C dX9_read_148 (by decide) rfl ?_
                refine kx_ild9 (pc := 150) C dX9_read_150 ?_
                refine kx_ald0 (pc := 152) C dX9_read_152 ?_
                refine kx_getr (pc := 153) C fl_X9_7 fd_127_0 dX9_read_153 ?_
                refine kx_bipush (pc := 156) C (v := nI 81) dX9_read_156 (by decide) ?_
                refine kx_ald0 (pc := 158) C dX9_read_158 ?_
                refine kx_getr (pc := 159) C fl_X9_28 fd_127_8 dX9_read_159 ?_
                refine kx_ild12 (pc := 162) C dX9_read_162 ?_
                refine kx_iald (pc := 164) C ia_134 (by omega) r1 dX9_read_164 ?_
                first | refine kx_iaddN (pc := 165) C dX9_read_165 ?_ | refine kx_iadd (pc := 165) C dX9_read_165 ?_
                refine kx_iald (pc := 166) C ia_128 (by omega) l1 dX9_read_166 ?_
                refine kx_isubN (pc := 167) C (by omega) dX9_read_167 ?_
                refine kx_ist9 (pc := 168) C dX9_read_168 (by decide) rfl ?_
                refine kx_ild10 (pc := 170) C dX9_read_170 ?_
                refine kx_ald0 (pc := 172) C dX9_read_172 ?_
                refine kx_getr (pc := 173) C fl_X9_7 fd_127_0 dX9_read_173 ?_
                refine kx_bipush (pc := 176) C (v := nI 81) dX9_read_176 (by decide) ?_
                refine kx_ald0 (pc := 178) C dX9_read_178 ?_
                refine kx_getr (pc := 179) C fl_X9_28 fd_127_8 dX9_read_179 ?_
                refine kx_ild12 (pc := 182) C dX9_read_182 ?_
                refine kx_iald (pc := 184) C ia_134 (by omega) r1 dX9_read_184 ?_
                first | refine kx_iaddN (pc := 185) C dX9_read_185 ?_ | refine kx_iadd (pc := 185) C dX9_read_185 ?_
                refine kx_iald (pc := 186) C ia_128 (by omega) l1 dX9_read_186 ?_
                first | refine kx_iaddN (pc := 187) C dX9_read_187 ?_ | refine kx_iadd (pc := 187) C dX9_read_187 ?_
                refine kx_ist10 (pc := 188) C dX9_read_188 (by decide) rfl ?_
                refine kx_goto (pc := 190) C 329 dX9_read_190 (by decide) ?_
                refine kx_goto (pc := 329) C 90 dX9_read_329 (by decide) ?_
                exact h5
            · obtain ⟨i1, i2, i3, i4⟩ := hIn (by omega) w0
              refine ⟨i1, i2, i3, fun t' ht' => ?_⟩
              rcases Nat.lt_or_ge t' t with z | z
              · exact i4 t' z
              · rw [show t' = t by omega, hgW, hWs]; omega
          refine ihD (a 0) (u ||| 2 ^ t) 0 c f (fun x => if x = d then t else p x) _ _ (by omega) (by omega) (sp_or_lt _ b0 u hu t (by omega)) (by rw [hb8.1.1, hp8]) hL2 (by omega) (fun x hx => ?_) (by rw [kx_up, if_pos ⟨rfl, rfl⟩]; rfl) (fun c0 w0 => ?_) hfO (by omega) (fun e x he => by rw [kx_up, if_neg (by omega)]; exact hg2 e x he) back
          · by_cases z : x = d
            · rw [z, if_pos rfl, kx_up, if_neg (by omega), kx_up, if_pos ⟨rfl, rfl⟩]
            · rw [if_neg z, kx_up, if_neg (by omega)]; exact hr2 x (by omega)
          · have hgp : 0 < sp_g a v n u t := by rw [hgW]; exact w0
            obtain ⟨i1, i2, i3, i4⟩ := hIn c0 (sp_g_W b0 hu256 hLn (show t < a 0 by omega) hgp)
            have hnx := sp_nx_at (show t < a 0 by omega) hgp i4
            have esq : sp_sq a v n (d + 1) = u ||| 2 ^ t := by
              show sp_sq a v n d ||| 2 ^ sp_nx a v n (sp_sq a v n d) = _
              rw [← i1, hnx]
            refine ⟨esq.symm, fun x hx => ?_, fun x hx => ?_, fun t' ht' => absurd ht' (by omega)⟩
            · by_cases z : x = d
              · show (if x = d then t else p x) = _
                rw [if_pos z, z, ← i1, hnx]
              · show (if x = d then t else p x) = _
                rw [if_neg z]; exact i2 x (by omega)
            · by_cases z : x = d + 1
              · rw [z, esq]; exact hL2
              · exact i3 x (by omega)
        refine kx_ild12 (pc := 90) C dX9_read_90 ?_
        refine kx_if_ltI (pc := 92) C 332 dX9_read_92 (by decide) (fun c92 => ?_) (fun c92 => ?_)
        · rw [kx_T (by omega)] at c92
          omega
        · refine kx_ald0 (pc := 95) C dX9_read_95 ?_
          refine kx_getr (pc := 96) C fl_X9_28 fd_127_8 dX9_read_96 ?_
          refine kx_ild12 (pc := 99) C dX9_read_99 ?_
          refine kx_dup2 (pc := 101) C dX9_read_101 rfl rfl ?_
          refine kx_iald (pc := 102) C ia_134 (by omega) hrd dX9_read_102 ?_
          refine kx_iconst (pc := 103) C (v := nI 1) dX9_read_103 (by decide) ?_
          refine kx_iadd (pc := 104) C dX9_read_104 ?_
          rw [sp_m1a]
          refine kx_iast (pc := 105) C ia_134 (by omega) dX9_read_105 ?_
          refine kx_ald0 (pc := 106) C dX9_read_106 ?_
          refine kx_getr (pc := 107) C fl_X9_28 fd_127_8 dX9_read_107 ?_
          refine kx_ild12 (pc := 110) C dX9_read_110 ?_
          refine kx_iald (pc := 112) C ia_134 (by omega) hrt dX9_read_112 ?_
          refine kx_ist13 (pc := 113) C dX9_read_113 (by decide) rfl ?_
          refine kx_ild13 (pc := 115) C dX9_read_115 ?_
          refine kx_ald0 (pc := 117) C dX9_read_117 ?_
          refine kx_getr (pc := 118) C fl_X9_7 fd_127_0 dX9_read_118 ?_
          refine kx_iconst (pc := 121) C (v := nI 0) dX9_read_121 (by decide) ?_
          refine kx_iald (pc := 122) C ia_128 (by omega) (show _ = nI (a 0) by rw [kx_up, if_neg (by omega)]; exact q0) dX9_read_122 ?_
          refine kx_icmp_ltN (pc := 123) C 193 (by omega) (by omega) dX9_read_123 (by decide) (fun c123 => ?_) (fun c123 => ?_)
          · refine kx_ild11 (pc := 193) C dX9_read_193 ?_
            refine kx_ild13 (pc := 195) C dX9_read_195 ?_
            refine kx_ishr (pc := 197) C dX9_read_197 ?_
            refine kx_iconst (pc := 198) C (v := nI 1) dX9_read_198 (by decide) ?_
            refine kx_iand (pc := 199) C dX9_read_199 ?_
            rw [kx_bit (by omega) (by omega)]
            refine kx_if_neN (pc := 200) C 329 (by omega) dX9_read_200 (by decide) (fun c200 => ?_) (fun c200 => ?_)
            · refine kx_goto (pc := 329) C 90 dX9_read_329 (by decide) ?_
              first
                | exact deep c200 (kx_if1 c213) c228
                | exact skip (if_neg (fun z => by have := z.1; omega))
                | exact skip (if_neg (fun z => kx_if0 c213 z.2))
            · refine kx_ald0 (pc := 203) C dX9_read_203 ?_
              refine kx_ild13 (pc := 204) C dX9_read_204 ?_
              refine kx_ild9 (pc := 206) C dX9_read_206 ?_
              refine kx_ild10 (pc := 208) C dX9_read_208 ?_
              refine kx_callVI3 (pc := 210) C cs_X9_160 ob_127 (m_X9_isSo (fun k h1 h2 h3 h4 => by rw [kx_up, if_neg (by omega)]; exact hMg k h1 h2 h3 h4) hRB (by omega) hLe hn16 (by omega) (fun e he => by rw [kx_up, if_neg (by omega)]; exact hvg e he) hv9) (by decide) dX9_read_210 (Nat.le_of_ble_eq_true rfl) (fun r210 h210 q210 => ?_)
              obtain ⟨z210, rfl⟩ := q210
              have z210 := z210.symm
              subst z210
              refine kx_if_eq (pc := 213) C 329 dX9_read_213 (by decide) (fun c213 => ?_) (fun c213 => ?_)
              · refine kx_goto (pc := 329) C 90 dX9_read_329 (by decide) ?_
                first
                  | exact deep c200 (kx_if1 c213) c228
                  | exact skip (if_neg (fun z => by have := z.1; omega))
                  | exact skip (if_neg (fun z => kx_if0 c213 z.2))
              · have fit := kx_if1 c213
                have hle := ft1 fit
                refine kx_ild10 (pc := 216) C dX9_read_216 ?_
                refine kx_ald0 (pc := 218) C dX9_read_218 ?_
                refine kx_getr (pc := 219) C fl_X9_7 fd_127_0 dX9_read_219 ?_
                refine kx_bipush (pc := 222) C (v := nI 81) dX9_read_222 (by decide) ?_
                refine kx_ild13 (pc := 224) C dX9_read_224 ?_
                first | refine kx_iaddN (pc := 226) C dX9_read_226 ?_ | refine kx_iadd (pc := 226) C dX9_read_226 ?_
                refine kx_iald (pc := 227) C ia_128 (by omega) (show _ = nI (a (81 + t)) by rw [kx_up, if_neg (by omega)]; exact eL) dX9_read_227 ?_
                refine kx_icmp_neN (pc := 228) C 272 (by omega) (by omega) dX9_read_228 (by decide) (fun c228 => ?_) (fun c228 => ?_)
                · refine kx_ild12 (pc := 272) C dX9_read_272 ?_
                  refine kx_bipush (pc := 274) C (v := nI 7) dX9_read_274 (by decide) ?_
                  refine kx_icmp_geN (pc := 276) C 329 (by omega) (by omega) dX9_read_276 (by decide) (fun c276 => ?_) (fun c276 => ?_)
                  · omega
                  · refine kx_ild11 (pc := 279) C dX9_read_279 ?_
                    refine kx_iconst (pc := 281) C (v := nI 1) dX9_read_281 (by decide) ?_
                    refine kx_ild13 (pc := 282) C dX9_read_282 ?_
                    refine kx_ishl (pc := 284) C dX9_read_284 ?_
                    rw [kx_sl1 (by omega)]
                    refine kx_ior (pc := 285) C dX9_read_285 ?_
                    rw [kx_orn]
                    refine kx_ist11 (pc := 286) C dX9_read_286 (by decide) rfl ?_
                    refine kx_ild9 (pc := 288) C dX9_read_288 ?_
                    refine kx_ald0 (pc := 290) C dX9_read_290 ?_
                    refine kx_getr (pc := 291) C fl_X9_7 fd_127_0 dX9_read_291 ?_
                    refine kx_bipush (pc := 294) C (v := nI 81) dX9_read_294 (by decide) ?_
                    refine kx_ild13 (pc := 296) C dX9_read_296 ?_
                    first | refine kx_iaddN (pc := 298) C dX9_read_298 ?_ | refine kx_iadd (pc := 298) C dX9_read_298 ?_
                    refine kx_iald (pc := 299) C ia_128 (by omega) (show _ = nI (a (81 + t)) by rw [kx_up, if_neg (by omega)]; exact eL) dX9_read_299 ?_
                    first | refine kx_iaddN (pc := 300) C dX9_read_300 ?_ | refine kx_iadd (pc := 300) C dX9_read_300 ?_
                    rw [show 24 * j + i + sp_L a u + a (81 + t) = 24 * j + i + sp_L a (u ||| 2 ^ t) by rw [sp_L_or b0 hu256 (show t < a 0 by omega) c200]; omega]
                    refine kx_ist9 (pc := 301) C dX9_read_301 (by decide) rfl ?_
                    refine kx_ild10 (pc := 303) C dX9_read_303 ?_
                    refine kx_ald0 (pc := 305) C dX9_read_305 ?_
                    refine kx_getr (pc := 306) C fl_X9_7 fd_127_0 dX9_read_306 ?_
                    refine kx_bipush (pc := 309) C (v := nI 81) dX9_read_309 (by decide) ?_
                    refine kx_ild13 (pc := 311) C dX9_read_311 ?_
                    first | refine kx_iaddN (pc := 313) C dX9_read_313 ?_ | refine kx_iadd (pc := 313) C dX9_read_313 ?_
                    refine kx_iald (pc := 314) C ia_128 (by omega) (show _ = nI (a (81 + t)) by rw [kx_up, if_neg (by omega)]; exact eL) dX9_read_314 ?_
                    first | refine kx_isubN (pc := 315) C (by omega) dX9_read_315 ?_ | refine kx_isub (pc := 315) C dX9_read_315 ?_
                    rw [show n - sp_L a u - a (81 + t) = n - sp_L a (u ||| 2 ^ t) by rw [sp_L_or b0 hu256 (show t < a 0 by omega) c200]; omega]
                    refine kx_ist10 (pc := 316) C dX9_read_316 (by decide) rfl ?_
                    first | refine kx_inc12 (pc := 318) C (v := nI (_ + 1)) dX9_read_318 (by decide) rfl (nI_1 _) ?_ | refine kx_inc12 (pc := 318) C dX9_read_318 (by decide) rfl rfl ?_
                    refine kx_ald0 (pc := 321) C dX9_read_321 ?_
                    refine kx_getr (pc := 322) C fl_X9_28 fd_127_8 dX9_read_322 ?_
                    refine kx_ild12 (pc := 325) C dX9_read_325 ?_
                    refine kx_iconst (pc := 327) C (v := -1) dX9_read_327 (by decide) ?_
                    refine kx_iast (pc := 328) C ia_134 (by omega) dX9_read_328 ?_
                    refine kx_goto (pc := 329) C 90 dX9_read_329 (by decide) ?_
                    first
                      | exact deep c200 (kx_if1 c213) c228
                      | exact skip (if_neg (fun z => by have := z.1; omega))
                      | exact skip (if_neg (fun z => kx_if0 c213 z.2))
                · refine kx_ild7 (pc := 231) C dX9_read_231 ?_
                  refine kx_if_neN (pc := 233) C 266 (by omega) dX9_read_233 (by decide) (fun c233 => ?_) (fun c233 => ?_)
                  · obtain ⟨lf1, -⟩ := leaf c200 fit c228
                    first
                      | exact more c200 fit c228 f ⟨fun z => absurd z (by omega), fun _ => hfO.2 c233⟩
                      | exact more c200 fit c228 _ ⟨fun z => absurd z (by omega), fun _ => by unfold sp_fr1; rw [if_neg (by omega), kx_n, kx_n_nI hz2, if_pos (by omega)]⟩
                      | exact more c200 fit c228 _ ⟨fun z => absurd z (by omega), fun _ => by unfold sp_fr1; rw [if_pos (by omega)]; rfl⟩
                      | exact more c200 fit c228 _ ⟨fun z => absurd z (by omega), fun _ => by
                          rw [kx_T (by omega)] at c240
                          obtain ⟨z, rfl, hz, hz2⟩ := kx_nat (x := k) (by omega)
                          unfold sp_fr1; rw [if_neg (by omega), kx_n, kx_n_nI hz2, if_neg (by omega)]⟩
                  · obtain ⟨lf1, lf2⟩ := leaf c200 fit c228
                    obtain ⟨x1, x2, x3, x4⟩ := lf2 c233
                    refine kx_ild5 (pc := 236) C dX9_read_236 ?_
                    refine kx_ild12 (pc := 238) C dX9_read_238 ?_
                    refine kx_icmp_leI (pc := 240) C 248 dX9_read_240 (by decide) (fun c240 => ?_) (fun c240 => ?_)
                    · refine kx_ild5 (pc := 248) C dX9_read_248 ?_
                      refine kx_if_geI (pc := 250) C 257 dX9_read_250 (by decide) (fun c250 => ?_) (fun c250 => ?_)
                      · obtain ⟨z, rfl, hz, hz2⟩ := kx_nat c250
                        have c240 : z ≤ d := by rw [kx_T (by omega), kx_T (by omega)] at c240; omega
                        have er : kx_up g 134 d (nI t) 134 z = nI (sp_nx a v n (sp_sq a v n z)) := by
                          by_cases y : z = d
                          · rw [y, hrt, ← x2, x1]
                          · rw [hr2 z (by omega), x3 z (by omega)]
                        refine kx_ald0 (pc := 257) C dX9_read_257 ?_
                        refine kx_getr (pc := 258) C fl_X9_28 fd_127_8 dX9_read_258 ?_
                        refine kx_ild5 (pc := 261) C dX9_read_261 ?_
                        refine kx_iald (pc := 263) C ia_134 (by omega) er dX9_read_263 ?_
                        refine kx_ist8 (pc := 264) C dX9_read_264 (by decide) rfl ?_
                        first
                          | exact more c200 fit c228 f ⟨fun z => absurd z (by omega), fun _ => hfO.2 c233⟩
                          | exact more c200 fit c228 _ ⟨fun z => absurd z (by omega), fun _ => by unfold sp_fr1; rw [if_neg (by omega), kx_n, kx_n_nI hz2, if_pos (by omega)]⟩
                          | exact more c200 fit c228 _ ⟨fun z => absurd z (by omega), fun _ => by unfold sp_fr1; rw [if_pos (by omega)]; rfl⟩
                          | exact more c200 fit c228 _ ⟨fun z => absurd z (by omega), fun _ => by
                              rw [kx_T (by omega)] at c240
                              obtain ⟨z, rfl, hz, hz2⟩ := kx_nat (x := k) (by omega)
                              unfold sp_fr1; rw [if_neg (by omega), kx_n, kx_n_nI hz2, if_neg (by omega)]⟩
                      · refine kx_iconst (pc := 253) C (v := nI 0) dX9_read_253 (by decide) ?_
                        refine kx_goto (pc := 254) C 264 dX9_read_254 (by decide) ?_
                        refine kx_ist8 (pc := 264) C dX9_read_264 (by decide) rfl ?_
                        first
                          | exact more c200 fit c228 f ⟨fun z => absurd z (by omega), fun _ => hfO.2 c233⟩
                          | exact more c200 fit c228 _ ⟨fun z => absurd z (by omega), fun _ => by unfold sp_fr1; rw [if_neg (by omega), kx_n, kx_n_nI hz2, if_pos (by omega)]⟩
                          | exact more c200 fit c228 _ ⟨fun z => absurd z (by omega), fun _ => by unfold sp_fr1; rw [if_pos (by omega)]; rfl⟩
                          | exact more c200 fit c228 _ ⟨fun z => absurd z (by omega), fun _ => by
                              rw [kx_T (by omega)] at c240
                              obtain ⟨z, rfl, hz, hz2⟩ := kx_nat (x := k) (by omega)
                              unfold sp_fr1; rw [if_neg (by omega), kx_n, kx_n_nI hz2, if_neg (by omega)]⟩
                    · refine kx_bipush (pc := 243) C (v := -4) dX9_read_243 (by decide) ?_
                      refine kx_goto (pc := 245) C 264 dX9_read_245 (by decide) ?_
                      refine kx_ist8 (pc := 264) C dX9_read_264 (by decide) rfl ?_
                      first
                        | exact more c200 fit c228 f ⟨fun z => absurd z (by omega), fun _ => hfO.2 c233⟩
                        | exact more c200 fit c228 _ ⟨fun z => absurd z (by omega), fun _ => by unfold sp_fr1; rw [if_neg (by omega), kx_n, kx_n_nI hz2, if_pos (by omega)]⟩
                        | exact more c200 fit c228 _ ⟨fun z => absurd z (by omega), fun _ => by unfold sp_fr1; rw [if_pos (by omega)]; rfl⟩
                        | exact more c200 fit c228 _ ⟨fun z => absurd z (by omega), fun _ => by
                            rw [kx_T (by omega)] at c240
                            obtain ⟨z, rfl, hz, hz2⟩ := kx_nat (x := k) (by omega)
                            unfold sp_fr1; rw [if_neg (by omega), kx_n, kx_n_nI hz2, if_neg (by omega)]⟩
          · omega
  refine kx_ild1 (pc := 0) C dX9_read_0 ?_
  refine kx_ild2 (pc := 1) C dX9_read_1 ?_
  refine kx_callSI2 (pc := 2) C cs_X9_143 (m_X9_isSheet _ _) (by decide) dX9_read_2 (Nat.le_of_ble_eq_true rfl) (fun r2 h2 q2 => ?_)
  obtain ⟨z2, rfl⟩ := q2
  have z2 := z2.symm
  subst z2
  refine kx_if_eq (pc := 5) C 36 dX9_read_5 (by decide) (fun c5 => ?_) (fun c5 => ?_)
  · refine kx_iconst (pc := 36) C (v := -1) dX9_read_36 (by decide) ?_
    exact hR dX9_read_37 rfl ⟨by
      rw [sp_read, if_neg (fun z => by
        first
          | exact kx_if0 c33 z.2.2
          | exact kx_if0 c18 z.2.1
          | exact kx_if0 c5 z.1)], fun d j _ => rfl⟩
  · refine kx_ild4 (pc := 8) C dX9_read_8 ?_
    refine kx_i2l (pc := 10) C dX9_read_10 ?_
    refine kx_lconst (pc := 11) C (v := 1) dX9_read_11 (by decide) ?_
    refine kx_ldc2 (pc := 12) C dX9_read_12 cn_X9_158 ?_
    refine kx_callSI3 (pc := 15) C cs_X9_52 (m_X9_in (p := 1) (q := _) (r := 16) (by rfl) (kx_L _) (by rfl)) (by decide) dX9_read_15 (Nat.le_of_ble_eq_true rfl) (fun r15 h15 q15 => ?_)
    obtain ⟨z15, rfl⟩ := q15
    have z15 := z15.symm
    subst z15
    refine kx_if_eq (pc := 18) C 36 dX9_read_18 (by decide) (fun c18 => ?_) (fun c18 => ?_)
    · refine kx_iconst (pc := 36) C (v := -1) dX9_read_36 (by decide) ?_
      exact hR dX9_read_37 rfl ⟨by
        rw [sp_read, if_neg (fun z => by
          first
            | exact kx_if0 c33 z.2.2
            | exact kx_if0 c18 z.2.1
            | exact kx_if0 c5 z.1)], fun d j _ => rfl⟩
    · refine kx_ild5 (pc := 21) C dX9_read_21 ?_
      refine kx_i2l (pc := 23) C dX9_read_23 ?_
      refine kx_ldc2 (pc := 24) C dX9_read_24 cn_X9_117 ?_
      refine kx_ldc2 (pc := 27) C dX9_read_27 cn_X9_146 ?_
      refine kx_callSI3 (pc := 30) C cs_X9_52 (m_X9_in (p := -1) (q := _) (r := 7) (by rfl) (kx_L _) (by rfl)) (by decide) dX9_read_30 (Nat.le_of_ble_eq_true rfl) (fun r30 h30 q30 => ?_)
      obtain ⟨z30, rfl⟩ := q30
      have z30 := z30.symm
      subst z30
      refine kx_if_ne (pc := 33) C 38 dX9_read_33 (by decide) (fun c33 => ?_) (fun c33 => ?_)
      · have c5 := kx_if1 c5
        have c18 := kx_if1 c18
        have c33 := kx_if1 c33
        obtain ⟨j, rfl, hj, hj2⟩ := kx_nat c5.1.1
        obtain ⟨n, rfl, hn, hn2⟩ := kx_nat (x := tn) (by omega)
        refine kx_ald0 (pc := 38) C dX9_read_38 ?_
        refine kx_ild1 (pc := 39) C dX9_read_39 ?_
        refine kx_ild2 (pc := 40) C dX9_read_40 ?_
        refine kx_ild3 (pc := 41) C dX9_read_41 ?_
        refine kx_ild4 (pc := 42) C dX9_read_42 ?_
        refine kx_iconst (pc := 44) C (v := nI 3) dX9_read_44 (by decide) ?_
        refine kx_callVI5 (pc := 45) C cs_X9_148 ob_127 (m_X9_barred _ _ hs (show j < 4 by omega) (show n ≤ 16 by omega) (show 3 ≤ 99 by omega)) (by decide) dX9_read_45 (Nat.le_of_ble_eq_true rfl) (fun r45 h45 q45 => ?_)
        obtain ⟨z45, rfl⟩ := q45
        have z45 := z45.symm
        subst z45
        refine kx_ist6 (pc := 48) C dX9_read_48 (by decide) rfl ?_
        refine kx_ild6 (pc := 50) C dX9_read_50 ?_
        refine kx_if_geI (pc := 52) C 58 dX9_read_52 (by decide) (fun c52 => ?_) (fun c52 => ?_)
        · rw [sp_take_nn] at c52
          have rf := sp_take_0 c52
          have rf0 := sp_ref_0 rf.1
          obtain ⟨i, rfl, hi, hi2⟩ := kx_nat rf0.2.2.1
          rw [kx_n, kx_n_nI hi2] at rf
          rw [c52]
          refine kx_iconst (pc := 58) C (v := nI 0) dX9_read_58 (by decide) ?_
          refine kx_ist7 (pc := 59) C dX9_read_59 (by decide) rfl ?_
          refine kx_bipush (pc := 61) C (v := -4) dX9_read_61 (by decide) ?_
          refine kx_ist8 (pc := 63) C dX9_read_63 (by decide) rfl ?_
          refine kx_bipush (pc := 65) C (v := nI 24) dX9_read_65 (by decide) ?_
          refine kx_ild1 (pc := 67) C dX9_read_67 ?_
          first | refine kx_imulN (pc := 68) C dX9_read_68 ?_ | refine kx_imul (pc := 68) C dX9_read_68 ?_
          refine kx_ild3 (pc := 69) C dX9_read_69 ?_
          first | refine kx_iaddN (pc := 70) C dX9_read_70 ?_ | refine kx_iadd (pc := 70) C dX9_read_70 ?_
          refine kx_ist9 (pc := 71) C dX9_read_71 (by decide) rfl ?_
          refine kx_ild4 (pc := 73) C dX9_read_73 ?_
          refine kx_ist10 (pc := 75) C dX9_read_75 (by decide) rfl ?_
          refine kx_iconst (pc := 77) C (v := nI 0) dX9_read_77 (by decide) ?_
          refine kx_ist11 (pc := 78) C dX9_read_78 (by decide) rfl ?_
          refine kx_iconst (pc := 80) C (v := nI 0) dX9_read_80 (by decide) ?_
          refine kx_ist12 (pc := 81) C dX9_read_81 (by decide) rfl ?_
          refine kx_ald0 (pc := 83) C dX9_read_83 ?_
          refine kx_getr (pc := 84) C fl_X9_28 fd_127_8 dX9_read_84 ?_
          refine kx_iconst (pc := 87) C (v := nI 0) dX9_read_87 (by decide) ?_
          refine kx_iconst (pc := 88) C (v := -1) dX9_read_88 (by decide) ?_
          refine kx_iast (pc := 89) C ia_134 (by omega) dX9_read_89 ?_
          have hin : i + n ≤ 24 := by have := rf0.2.2.2.2; have := (hs j (by omega)).2.1; omega
          have hvv : ∀ e, e < n → it j (i + e) = nI (sp_val it j i e) ∧ sp_val it j i e ≤ 3 := fun e he => sp_okI_v rf.2 he
          have hW := sp_W_le (v := sp_val it j i) (n := n) b0 0
          have hL0 := sp_L_0 a
          have hnL : ¬ sp_L a 0 = n := by omega
          have eW : sp_W a (sp_val it j i) n 0 = sp_ss (sp_g a (sp_val it j i) n 0) 0 (a 0) := by rw [sp_ss_0, sp_W_sg b0 (by omega) hnL]
          have h3 := main j i n (sp_val it j i) (by omega) hin (by omega) c33.1 c33.2 (fun e he => by rw [hs.at (by omega) (by omega)]; exact (hvv e he).1) (fun e he => by have := (hvv e he).2; omega) 7 0 rfl (a 0) 0 0 0 (-4) (fun _ => 0) (kx_up h 134 0 (-1)) none rfl (by omega) (Nat.pow_pos (by decide)) rfl hnL (by omega) (fun x hx => absurd hx (by omega)) (by rw [kx_up, if_pos ⟨rfl, rfl⟩]; rfl) (fun _ _ => ⟨rfl, fun x hx => absurd hx (by omega), fun x hx => by rw [show x = 0 by omega]; exact hnL, fun t' ht' => absurd ht' (by omega)⟩) ⟨fun _ => rfl, fun z => absurd z (by omega)⟩ (by rw [← eW]; omega) (fun e x he => by rw [kx_up, if_neg (by omega)]) (fun f' g' hf' _ hg' => ?_)
          · rw [hL0, Nat.add_zero, Nat.sub_zero] at h3
            exact h3
          · rw [← eW, Nat.zero_add] at hf' ⊢
            have cc : ((0 ≤ (nI j).toInt ∧ (nI j).toInt ≤ 3) ∧ 0 ≤ l.toInt ∧ l.toInt ≤ 2) ∧ (1 ≤ (nI n).toInt ∧ (nI n).toInt ≤ 16) ∧ -1 ≤ k.toInt ∧ k.toInt ≤ 7 := ⟨c5, c18, c33⟩
            refine kx_inc12 (pc := 126) C dX9_read_126 (by decide) rfl rfl ?_
            
            refine kx_ild12 (pc := 129) C dX9_read_129 ?_
            refine kx_if_ltI (pc := 131) C 329 dX9_read_131 (by decide) (fun c131 => ?_) (fun c131 => ?_)
            · refine kx_goto (pc := 329) C 90 dX9_read_329 (by decide) ?_
              refine kx_ild12 (pc := 90) C dX9_read_90 ?_
              refine kx_if_ltI (pc := 92) C 332 dX9_read_92 (by decide) (fun c92 => ?_) (fun c92 => ?_)
              · refine kx_ild5 (pc := 332) C dX9_read_332 ?_
                refine kx_if_geI (pc := 334) C 342 dX9_read_334 (by decide) (fun c334 => ?_) (fun c334 => ?_)
                · refine kx_ild8 (pc := 342) C dX9_read_342 ?_
                  first
                    | (obtain ⟨z, rfl, hz, hz2⟩ := kx_nat c334
                       refine hR dX9_read_344 rfl ⟨?_, hg'⟩
                       rw [sp_read, if_pos cc, kx_n, kx_n, kx_n, kx_n, kx_n_nI hj2, kx_n_nI hn2, kx_n_nI hi2, kx_n_nI hz2, if_pos c52, if_neg (kx_m1 hz2)]
                       by_cases y : 0 < sp_W a (sp_val it j i) n 0
                       · rw [hf'.2 y]
                         unfold sp_fr1
                         rw [if_neg (by omega), kx_n, kx_n_nI hz2]
                         exact kx_ifx (by omega) _ _
                       · rw [hf'.1 (by omega), if_neg (by omega)])
                    | exact hR dX9_read_344 rfl ⟨by rw [sp_read, if_pos cc, kx_n, kx_n, kx_n, kx_n_nI hj2, kx_n_nI hn2, kx_n_nI hi2, if_pos c52, if_pos (kx_eqI.mpr (by rw [show (-1 : Int32).toInt = -1 from rfl]; omega))], hg'⟩
                · refine kx_ild7 (pc := 337) C dX9_read_337 ?_
                  refine kx_goto (pc := 339) C 344 dX9_read_339 (by decide) ?_
                  first
                    | (obtain ⟨z, rfl, hz, hz2⟩ := kx_nat c334
                       refine hR dX9_read_344 rfl ⟨?_, hg'⟩
                       rw [sp_read, if_pos cc, kx_n, kx_n, kx_n, kx_n, kx_n_nI hj2, kx_n_nI hn2, kx_n_nI hi2, kx_n_nI hz2, if_pos c52, if_neg (kx_m1 hz2)]
                       by_cases y : 0 < sp_W a (sp_val it j i) n 0
                       · rw [hf'.2 y]
                         unfold sp_fr1
                         rw [if_neg (by omega), kx_n, kx_n_nI hz2]
                         exact kx_ifx (by omega) _ _
                       · rw [hf'.1 (by omega), if_neg (by omega)])
                    | exact hR dX9_read_344 rfl ⟨by rw [sp_read, if_pos cc, kx_n, kx_n, kx_n, kx_n_nI hj2, kx_n_nI hn2, kx_n_nI hi2, if_pos c52, if_pos (kx_eqI.mpr (by rw [show (-1 : Int32).toInt = -1 from rfl]; omega))], hg'⟩
              · exact absurd c92 (by decide)
            · exact absurd c131 (by decide)
        · have rz : ¬ sp_take sl sn it j l ti n 3 = 0 := fun z => by rw [z] at c52; exact absurd c52 (by decide)
          refine kx_ild6 (pc := 55) C dX9_read_55 ?_
          exact hR dX9_read_57 rfl ⟨by rw [sp_read, if_pos ⟨c5, c18, c33⟩, kx_n, kx_n, kx_n_nI hj2, kx_n_nI hn2, if_neg rz], fun d j _ => rfl⟩
      · refine kx_iconst (pc := 36) C (v := -1) dX9_read_36 (by decide) ?_
        exact hR dX9_read_37 rfl ⟨by
          rw [sp_read, if_neg (fun z => by
            first
              | exact kx_if0 c33 z.2.2
              | exact kx_if0 c18 z.2.1
              | exact kx_if0 c5 z.1)], fun d j _ => rfl⟩
