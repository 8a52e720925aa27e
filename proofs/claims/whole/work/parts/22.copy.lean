def sp_copy (sl sn : Nat → Nat) (v i w j n : Int32) : Int32 := if (0 ≤ v.toInt ∧ v.toInt ≤ 3) ∧ 0 ≤ w.toInt ∧ w.toInt ≤ 3 then (if sl (kx_n v) = 0 ∨ sl (kx_n w) = 0 then -11 else if ¬ sl (kx_n v) = sl (kx_n w) then -12 else if (0 ≤ i.toInt ∧ 0 ≤ n.toInt ∧ i.toInt + n.toInt ≤ (sn (kx_n v) : Int)) ∧ 0 ≤ j.toInt ∧ 0 ≤ n.toInt ∧ j.toInt + n.toInt ≤ (sn (kx_n w) : Int) then n else -13) else -1
def sp_copyC (sl sn : Nat → Nat) (v i w j n : Int32) : Prop := ((0 ≤ v.toInt ∧ v.toInt ≤ 3) ∧ 0 ≤ w.toInt ∧ w.toInt ≤ 3) ∧ 0 < sl (kx_n v) ∧ 0 < sl (kx_n w) ∧ sl (kx_n v) = sl (kx_n w) ∧ (0 ≤ i.toInt ∧ 0 ≤ n.toInt ∧ i.toInt + n.toInt ≤ (sn (kx_n v) : Int)) ∧ 0 ≤ j.toInt ∧ 0 ≤ n.toInt ∧ j.toInt + n.toInt ≤ (sn (kx_n w) : Int)
def sp_copyI (it : kx_H) (v i w j n : Int32) : kx_H := upI it (kx_n w) (fun k => if kx_n j ≤ k ∧ k < kx_n j + kx_n n then it (kx_n v) (kx_n i + (k - kx_n j)) else it (kx_n w) k)
theorem st_SH.lane {h : kx_H} {sl sn : Nat → Nat} {it : kx_H} (hs : st_SH h sl sn it) {i j : Nat} (hi : i < 4) (hj : j < 4) (zi : 0 < sl i) (zj : 0 < sl j) : h (48 + 2 * i) 0 = h (48 + 2 * j) 0 ↔ sl i = sl j := by
  rcases (hs i hi).1 with ⟨z, q⟩ | ⟨z, z2, q⟩
  · omega
  · rcases (hs j hj).1 with ⟨y, p⟩ | ⟨y, y2, p⟩
    · omega
    · rw [q, p, nI_eq (by omega) (by omega)]
      omega
set_option maxHeartbeats 4000000 in
set_option maxRecDepth 100000 in
theorem m_X8_copy {h : kx_H} {sl sn : Nat → Nat} {it : kx_H} (v i w j n : Int32) (hs : st_SH h sl sn it) : kx_MI 4 yX8_copy cX8_copy 8 .int [.ref 0, .int v, .int i, .int w, .int j, .int n] h (fun r h1 => r = sp_copy sl sn v i w j n ∧ (¬ sp_copyC sl sn v i w j n → h1 = h) ∧ (sp_copyC sl sn v i w j n → st_SH h1 sl sn (sp_copyI it v i w j n)) ∧ ∀ d k, (d < 48 ∨ 56 ≤ d) → h1 d k = h d k) := by
  refine kx_mkI (own := RX8) (L0 := [some (.ref 0), some (.int v), some (.int i), some (.int w), some (.int j), some (.int n), none, none]) rfl (by decide +kernel) (Nat.le_of_ble_eq_true rfl) rfl (fun F C hR => ?_)
  refine kx_ild1 (pc := 0) C dX8_copy_0 ?_
  refine kx_callSI1 (pc := 1) C cs_X8_260 (m_X8_isSheet _) (by decide) dX8_copy_1 (Nat.le_of_ble_eq_true rfl) (fun r1 h1 q1 => ?_)
  obtain ⟨z1, rfl⟩ := q1
  have z1 := z1.symm
  subst z1
  refine kx_if_eq (pc := 4) C 14 dX8_copy_4 (by decide) (fun c4 => ?_) (fun c4 => ?_)
  · refine kx_iconst (pc := 14) C (v := -1) dX8_copy_14 (by decide) ?_
    have nc : ¬ ((0 ≤ v.toInt ∧ v.toInt ≤ 3) ∧ 0 ≤ w.toInt ∧ w.toInt ≤ 3) := fun z => by
      first
        | exact kx_if0 c11 z.2
        | exact kx_if0 c4 z.1
    exact hR dX8_copy_15 rfl ⟨by rw [sp_copy, if_neg nc], fun _ => rfl, fun z => absurd z.1 nc, fun d k _ => rfl⟩
  · refine kx_ild3 (pc := 7) C dX8_copy_7 ?_
    refine kx_callSI1 (pc := 8) C cs_X8_260 (m_X8_isSheet _) (by decide) dX8_copy_8 (Nat.le_of_ble_eq_true rfl) (fun r8 h8 q8 => ?_)
    obtain ⟨z8, rfl⟩ := q8
    have z8 := z8.symm
    subst z8
    refine kx_if_ne (pc := 11) C 16 dX8_copy_11 (by decide) (fun c11 => ?_) (fun c11 => ?_)
    · have c4 := kx_if1 c4
      have c11 := kx_if1 c11
      obtain ⟨x, rfl, hx, hx2⟩ := kx_nat c4.1
      obtain ⟨y, rfl, hy, hy2⟩ := kx_nat c11.1
      have nx := hs.null (j := x) (by omega)
      have ny := hs.null (j := y) (by omega)
      obtain ⟨s1, ⟨s2, s3⟩, s4⟩ := hs x (by omega)
      obtain ⟨t1, ⟨t2, t3⟩, t4⟩ := hs y (by omega)
      refine kx_ald0 (pc := 16) C dX8_copy_16 ?_
      refine kx_getr (pc := 17) C fl_X8_28 fd_0_4 dX8_copy_17 ?_
      refine kx_ild1 (pc := 20) C dX8_copy_20 ?_
      refine kx_aald (pc := 21) C ra_47 (by omega) dX8_copy_21 ?_
      refine kx_ast6 (pc := 22) C dX8_copy_22 (by decide) rfl ?_
      refine kx_ald0 (pc := 24) C dX8_copy_24 ?_
      refine kx_getr (pc := 25) C fl_X8_28 fd_0_4 dX8_copy_25 ?_
      refine kx_ild3 (pc := 28) C dX8_copy_28 ?_
      refine kx_aald (pc := 29) C ra_47 (by omega) dX8_copy_29 ?_
      refine kx_ast7 (pc := 30) C dX8_copy_30 (by decide) rfl ?_
      refine kx_ald6 (pc := 32) C dX8_copy_32 ?_
      refine kx_geti (pc := 34) C fl_X8_263 (fs_0 _ (by omega)) rfl dX8_copy_34 ?_
      refine kx_iconst (pc := 37) C (v := -1) dX8_copy_37 (by decide) ?_
      refine kx_icmp_eq (pc := 38) C 50 dX8_copy_38 (by decide) (fun c38 => ?_) (fun c38 => ?_)
      · refine kx_bipush (pc := 50) C (v := -11) dX8_copy_50 (by decide) ?_
        have e0 : sl x = 0 ∨ sl y = 0 := by
          first
            | exact Or.inl (nx.mp c38)
            | exact Or.inr (ny.mp c47)
        exact hR dX8_copy_52 rfl ⟨by rw [sp_copy, if_pos ⟨c4, c11⟩, kx_n, kx_n, kx_n_nI hx2, kx_n_nI hy2, if_pos e0], fun _ => rfl, fun z => by unfold sp_copyC at z; rw [kx_n, kx_n, kx_n_nI hx2, kx_n_nI hy2] at z; omega, fun d k _ => rfl⟩
      · refine kx_ald7 (pc := 41) C dX8_copy_41 ?_
        refine kx_geti (pc := 43) C fl_X8_263 (fs_0 _ (by omega)) rfl dX8_copy_43 ?_
        refine kx_iconst (pc := 46) C (v := -1) dX8_copy_46 (by decide) ?_
        refine kx_icmp_ne (pc := 47) C 53 dX8_copy_47 (by decide) (fun c47 => ?_) (fun c47 => ?_)
        · have zx : 0 < sl x := Nat.pos_of_ne_zero (fun z => c38 (nx.mpr z))
          have zy : 0 < sl y := Nat.pos_of_ne_zero (fun z => c47 (ny.mpr z))
          have hl := hs.lane (i := x) (j := y) (by omega) (by omega) zx zy
          refine kx_ald6 (pc := 53) C dX8_copy_53 ?_
          refine kx_geti (pc := 55) C fl_X8_263 (fs_0 _ (by omega)) rfl dX8_copy_55 ?_
          refine kx_ald7 (pc := 58) C dX8_copy_58 ?_
          refine kx_geti (pc := 60) C fl_X8_263 (fs_0 _ (by omega)) rfl dX8_copy_60 ?_
          refine kx_icmp_eq (pc := 63) C 69 dX8_copy_63 (by decide) (fun c63 => ?_) (fun c63 => ?_)
          · refine kx_ald6 (pc := 69) C dX8_copy_69 ?_
            refine kx_ild2 (pc := 71) C dX8_copy_71 ?_
            refine kx_ild5 (pc := 72) C dX8_copy_72 ?_
            refine kx_callVI2 (pc := 74) C cs_X8_267 (fs_o _ (by omega)) (m_X5_hasItems _ _ (show x < 4 by omega) s2 s3) (by decide) dX8_copy_74 (Nat.le_of_ble_eq_true rfl) (fun r74 h74 q74 => ?_)
            obtain ⟨z74, rfl⟩ := q74
            have z74 := z74.symm
            subst z74
            refine kx_if_eq (pc := 77) C 92 dX8_copy_77 (by decide) (fun c77 => ?_) (fun c77 => ?_)
            · refine kx_bipush (pc := 92) C (v := -13) dX8_copy_92 (by decide) ?_
              have nc : ¬ ((0 ≤ i.toInt ∧ 0 ≤ n.toInt ∧ i.toInt + n.toInt ≤ (sn x : Int)) ∧ 0 ≤ j.toInt ∧ 0 ≤ n.toInt ∧ j.toInt + n.toInt ≤ (sn y : Int)) := fun z => by
                first
                  | exact kx_if0 c89 z.2
                  | exact kx_if0 c77 z.1
              exact hR dX8_copy_94 rfl ⟨by rw [sp_copy, if_pos ⟨c4, c11⟩, kx_n, kx_n, kx_n_nI hx2, kx_n_nI hy2, if_neg (by omega), if_neg (fun z => z (hl.mp c63)), if_neg nc], fun _ => rfl, fun z => by unfold sp_copyC at z; rw [kx_n, kx_n, kx_n_nI hx2, kx_n_nI hy2] at z; exact absurd z.2.2.2.2 nc, fun d k _ => rfl⟩
            · have c77 := kx_if1 c77
              refine kx_ald7 (pc := 80) C dX8_copy_80 ?_
              refine kx_ild4 (pc := 82) C dX8_copy_82 ?_
              refine kx_ild5 (pc := 84) C dX8_copy_84 ?_
              refine kx_callVI2 (pc := 86) C cs_X8_267 (fs_o _ (by omega)) (m_X5_hasItems _ _ (show y < 4 by omega) t2 t3) (by decide) dX8_copy_86 (Nat.le_of_ble_eq_true rfl) (fun r86 h86 q86 => ?_)
              obtain ⟨z86, rfl⟩ := q86
              have z86 := z86.symm
              subst z86
              refine kx_if_ne (pc := 89) C 95 dX8_copy_89 (by decide) (fun c89 => ?_) (fun c89 => ?_)
              · have c89 := kx_if1 c89
                obtain ⟨p, rfl, hp, hp2⟩ := kx_nat c77.1
                obtain ⟨q, rfl, hq, hq2⟩ := kx_nat c89.1
                obtain ⟨m, rfl, hm, hm2⟩ := kx_nat c89.2.1
                refine kx_ald6 (pc := 95) C dX8_copy_95 ?_
                refine kx_getr (pc := 97) C fl_X8_270 (fs_2 _ (by omega)) dX8_copy_97 ?_
                refine kx_ild2 (pc := 100) C dX8_copy_100 ?_
                refine kx_ald7 (pc := 101) C dX8_copy_101 ?_
                refine kx_getr (pc := 103) C fl_X8_270 (fs_2 _ (by omega)) dX8_copy_103 ?_
                refine kx_ild4 (pc := 106) C dX8_copy_106 ?_
                refine kx_ild5 (pc := 108) C dX8_copy_108 ?_
                refine kx_cpy (pc := 110) C ac_X8_273 (fs_i _ (by omega)) (fs_i _ (by omega)) (by decide) (by omega) (by omega) (Nat.le_of_ble_eq_true rfl) dX8_copy_110 ?_
                refine kx_ild5 (pc := 113) C dX8_copy_113 ?_
                have ok : sp_copyC sl sn (nI x) (nI p) (nI y) (nI q) (nI m) := by
                  unfold sp_copyC
                  rw [kx_n, kx_n, kx_n_nI hx2, kx_n_nI hy2]
                  exact ⟨⟨c4, c11⟩, zx, zy, hl.mp c63, c77, c89⟩
                refine hR dX8_copy_115 rfl ⟨by rw [sp_copy, if_pos ⟨c4, c11⟩, kx_n, kx_n, kx_n_nI hx2, kx_n_nI hy2, if_neg (by omega), if_neg (fun z => z (hl.mp c63)), if_pos ⟨c77, c89⟩], fun z => absurd ok z, fun _ => ?_, fun d k hd => by rw [kx_cp, if_neg (by omega)]⟩
                rw [sp_copyI, kx_n, kx_n, kx_n, kx_n, kx_n, kx_n_nI hx2, kx_n_nI hy2, kx_n_nI hp2, kx_n_nI hq2, kx_n_nI hm2]
                have := hs.one (g := kx_cp h (49 + 2 * x) (49 + 2 * y) p q m) (x := sl y) (y := sn y) (f := fun k => if q ≤ k ∧ k < q + m then it x (p + (k - q)) else it y k) (show y < 4 by omega) (by rw [kx_cp, if_neg (by omega)]; exact t1) (by rw [kx_cp, if_neg (by omega)]; exact t2) t3 (fun k hk => by
                  by_cases z : q ≤ k ∧ k < q + m
                  · rw [kx_cp, if_pos ⟨rfl, z⟩, if_pos z]; exact s4 _ (by omega)
                  · rw [kx_cp, if_neg (fun y => z y.2), if_neg z]; exact t4 k hk) (fun d k h1 h2 _ _ => by rw [kx_cp, if_neg (by omega)])
                rw [up_id, up_id] at this
                exact this
              · refine kx_bipush (pc := 92) C (v := -13) dX8_copy_92 (by decide) ?_
                have nc : ¬ ((0 ≤ i.toInt ∧ 0 ≤ n.toInt ∧ i.toInt + n.toInt ≤ (sn x : Int)) ∧ 0 ≤ j.toInt ∧ 0 ≤ n.toInt ∧ j.toInt + n.toInt ≤ (sn y : Int)) := fun z => by
                  first
                    | exact kx_if0 c89 z.2
                    | exact kx_if0 c77 z.1
                exact hR dX8_copy_94 rfl ⟨by rw [sp_copy, if_pos ⟨c4, c11⟩, kx_n, kx_n, kx_n_nI hx2, kx_n_nI hy2, if_neg (by omega), if_neg (fun z => z (hl.mp c63)), if_neg nc], fun _ => rfl, fun z => by unfold sp_copyC at z; rw [kx_n, kx_n, kx_n_nI hx2, kx_n_nI hy2] at z; exact absurd z.2.2.2.2 nc, fun d k _ => rfl⟩
          · refine kx_bipush (pc := 66) C (v := -12) dX8_copy_66 (by decide) ?_
            exact hR dX8_copy_68 rfl ⟨by rw [sp_copy, if_pos ⟨c4, c11⟩, kx_n, kx_n, kx_n_nI hx2, kx_n_nI hy2, if_neg (by omega), if_pos (fun z => c63 (hl.mpr z))], fun _ => rfl, fun z => by unfold sp_copyC at z; rw [kx_n, kx_n, kx_n_nI hx2, kx_n_nI hy2] at z; exact absurd (hl.mpr z.2.2.2.1) c63, fun d k _ => rfl⟩
        · refine kx_bipush (pc := 50) C (v := -11) dX8_copy_50 (by decide) ?_
          have e0 : sl x = 0 ∨ sl y = 0 := by
            first
              | exact Or.inl (nx.mp c38)
              | exact Or.inr (ny.mp c47)
          exact hR dX8_copy_52 rfl ⟨by rw [sp_copy, if_pos ⟨c4, c11⟩, kx_n, kx_n, kx_n_nI hx2, kx_n_nI hy2, if_pos e0], fun _ => rfl, fun z => by unfold sp_copyC at z; rw [kx_n, kx_n, kx_n_nI hx2, kx_n_nI hy2] at z; omega, fun d k _ => rfl⟩
    · refine kx_iconst (pc := 14) C (v := -1) dX8_copy_14 (by decide) ?_
      have nc : ¬ ((0 ≤ v.toInt ∧ v.toInt ≤ 3) ∧ 0 ≤ w.toInt ∧ w.toInt ≤ 3) := fun z => by
        first
          | exact kx_if0 c11 z.2
          | exact kx_if0 c4 z.1
      exact hR dX8_copy_15 rfl ⟨by rw [sp_copy, if_neg nc], fun _ => rfl, fun z => absurd z.1 nc, fun d k _ => rfl⟩
theorem sp_cut9 : ∀ v, v ≤ 9 → ∀ l, l < 3 → sp_cut (nI l) (nI v).toInt64 = nI v := by
  have : ∀ v, v < 10 → ∀ l, l < 3 → sp_cut (nI l) (nI v).toInt64 = nI v := by decide +kernel
  intro v hv l hl
  exact this v (by omega) l hl
def sp_tg (a : Nat → Nat) (x y p : Nat) : Nat := sp_tv (a (81 + x)) (a (81 + y)) (fun i => a (9 + 9 * x + i)) (fun i => a (9 + 9 * y + i)) p
theorem sp_tg_le {a : Nat → Nat} (hB : st_RB a) {x y p : Nat} (hx : x < 8) (hy : y < 8) (hp : p < a (81 + x) + a (81 + y)) : sp_tg a x y p ≤ 9 := by
  have h1 := hB.1 x hx
  have h2 := hB.1 y hy
  unfold sp_tg sp_tv
  split
  · split
    · exact hB.2.1 x _ hx (by omega)
    · exact hB.2.1 y _ hy (by omega)
  · split
    · exact hB.2.1 x _ hx (by omega)
    · exact hB.2.1 y _ hy (by omega)
def sp_tangle (a sl sn : Nat → Nat) (x y v l i : Int32) : Int32 := if (0 ≤ x.toInt ∧ x.toInt < (a 0 : Int)) ∧ (0 ≤ y.toInt ∧ y.toInt < (a 0 : Int)) ∧ ¬ x = y ∧ (0 ≤ v.toInt ∧ v.toInt ≤ 3) ∧ 0 ≤ l.toInt ∧ l.toInt ≤ 2 then (if sp_ref sl sn (kx_n v) l i ((a (81 + kx_n x) + a (81 + kx_n y) : Nat) : Int) = 0 then nI (a (81 + kx_n x) + a (81 + kx_n y)) else sp_ref sl sn (kx_n v) l i ((a (81 + kx_n x) + a (81 + kx_n y) : Nat) : Int)) else -1
def sp_tangleI (a sl sn : Nat → Nat) (it : kx_H) (x y v l i : Int32) : kx_H := if ((0 ≤ x.toInt ∧ x.toInt < (a 0 : Int)) ∧ (0 ≤ y.toInt ∧ y.toInt < (a 0 : Int)) ∧ ¬ x = y ∧ (0 ≤ v.toInt ∧ v.toInt ≤ 3) ∧ 0 ≤ l.toInt ∧ l.toInt ≤ 2) ∧ sp_ref sl sn (kx_n v) l i ((a (81 + kx_n x) + a (81 + kx_n y) : Nat) : Int) = 0 then upI it (kx_n v) (fun k => if kx_n i ≤ k ∧ k < kx_n i + (a (81 + kx_n x) + a (81 + kx_n y)) then nI (sp_tg a (kx_n x) (kx_n y) (k - kx_n i)) else it (kx_n v) k) else it
set_option maxHeartbeats 4000000 in
set_option maxRecDepth 100000 in
theorem m_X8_tangle {h : kx_H} {a sl sn : Nat → Nat} {it : kx_H} (tx ty tv tl ti : Int32) (hC : st_CH h a) (hB : st_B a) (hs : st_SH h sl sn it) : kx_MI 4 yX8_tangle cX8_tangle 9 .int [.ref 0, .int tx, .int ty, .int tv, .int tl, .int ti] h (fun r h1 => r = sp_tangle a sl sn tx ty tv tl ti ∧ st_SH h1 sl sn (sp_tangleI a sl sn it tx ty tv tl ti) ∧ ∀ d k, (d < 48 ∨ 56 ≤ d) → d ≠ 57 → h1 d k = h d k) := by
  refine kx_mkI (own := RX8) (L0 := [some (.ref 0), some (.int tx), some (.int ty), some (.int tv), some (.int tl), some (.int ti), none, none, none]) rfl (by decide +kernel) (Nat.le_of_ble_eq_true rfl) rfl (fun F C hR => ?_)
  obtain ⟨⟨hT, hE, hS, hev, hme⟩, ⟨hlen, hten, hkd⟩, hYD, hHD, hBR⟩ := id hC
  obtain ⟨⟨b0, b1, b2, b3, b8, b8'⟩, hRB, bl, byy, bh, bz, bb⟩ := id hB
  have hl9 := hRB.1
  refine kx_ald0 (pc := 0) C dX8_tangle_0 ?_
  refine kx_getr (pc := 1) C fl_X8_10 fd_0_0 dX8_tangle_1 ?_
  refine kx_ild1 (pc := 4) C dX8_tangle_4 ?_
  refine kx_callVI1 (pc := 5) C cs_X8_125 ob_1 (m_X2_hasTale _ (by assumption) (by omega)) (by decide) dX8_tangle_5 (Nat.le_of_ble_eq_true rfl) (fun r5 h5 q5 => ?_)
  obtain ⟨z5, rfl⟩ := q5
  have z5 := z5.symm
  subst z5
  refine kx_if_eq (pc := 8) C 36 dX8_tangle_8 (by decide) (fun c8 => ?_) (fun c8 => ?_)
  · refine kx_iconst (pc := 36) C (v := -1) dX8_tangle_36 (by decide) ?_
    have nc : ¬ ((0 ≤ tx.toInt ∧ tx.toInt < (a 0 : Int)) ∧ (0 ≤ ty.toInt ∧ ty.toInt < (a 0 : Int)) ∧ ¬ tx = ty ∧ (0 ≤ tv.toInt ∧ tv.toInt ≤ 3) ∧ 0 ≤ tl.toInt ∧ tl.toInt ≤ 2) := fun z => by
      first
        | exact kx_if0 c33 z.2.2.2
        | exact z.2.2.1 c24
        | exact kx_if0 c19 z.2.1
        | exact kx_if0 c8 z.1
    exact hR dX8_tangle_37 rfl ⟨by rw [sp_tangle, if_neg nc], by rw [sp_tangleI, if_neg (fun z => nc z.1)]; exact hs, fun d k _ _ => rfl⟩
  · refine kx_ald0 (pc := 11) C dX8_tangle_11 ?_
    refine kx_getr (pc := 12) C fl_X8_10 fd_0_0 dX8_tangle_12 ?_
    refine kx_ild2 (pc := 15) C dX8_tangle_15 ?_
    refine kx_callVI1 (pc := 16) C cs_X8_125 ob_1 (m_X2_hasTale _ (by assumption) (by omega)) (by decide) dX8_tangle_16 (Nat.le_of_ble_eq_true rfl) (fun r16 h16 q16 => ?_)
    obtain ⟨z16, rfl⟩ := q16
    have z16 := z16.symm
    subst z16
    refine kx_if_eq (pc := 19) C 36 dX8_tangle_19 (by decide) (fun c19 => ?_) (fun c19 => ?_)
    · refine kx_iconst (pc := 36) C (v := -1) dX8_tangle_36 (by decide) ?_
      have nc : ¬ ((0 ≤ tx.toInt ∧ tx.toInt < (a 0 : Int)) ∧ (0 ≤ ty.toInt ∧ ty.toInt < (a 0 : Int)) ∧ ¬ tx = ty ∧ (0 ≤ tv.toInt ∧ tv.toInt ≤ 3) ∧ 0 ≤ tl.toInt ∧ tl.toInt ≤ 2) := fun z => by
        first
          | exact kx_if0 c33 z.2.2.2
          | exact z.2.2.1 c24
          | exact kx_if0 c19 z.2.1
          | exact kx_if0 c8 z.1
      exact hR dX8_tangle_37 rfl ⟨by rw [sp_tangle, if_neg nc], by rw [sp_tangleI, if_neg (fun z => nc z.1)]; exact hs, fun d k _ _ => rfl⟩
    · refine kx_ild1 (pc := 22) C dX8_tangle_22 ?_
      refine kx_ild2 (pc := 23) C dX8_tangle_23 ?_
      refine kx_icmp_eq (pc := 24) C 36 dX8_tangle_24 (by decide) (fun c24 => ?_) (fun c24 => ?_)
      · refine kx_iconst (pc := 36) C (v := -1) dX8_tangle_36 (by decide) ?_
        have nc : ¬ ((0 ≤ tx.toInt ∧ tx.toInt < (a 0 : Int)) ∧ (0 ≤ ty.toInt ∧ ty.toInt < (a 0 : Int)) ∧ ¬ tx = ty ∧ (0 ≤ tv.toInt ∧ tv.toInt ≤ 3) ∧ 0 ≤ tl.toInt ∧ tl.toInt ≤ 2) := fun z => by
          first
            | exact kx_if0 c33 z.2.2.2
            | exact z.2.2.1 c24
            | exact kx_if0 c19 z.2.1
            | exact kx_if0 c8 z.1
        exact hR dX8_tangle_37 rfl ⟨by rw [sp_tangle, if_neg nc], by rw [sp_tangleI, if_neg (fun z => nc z.1)]; exact hs, fun d k _ _ => rfl⟩
      · refine kx_ild3 (pc := 27) C dX8_tangle_27 ?_
        refine kx_ild4 (pc := 28) C dX8_tangle_28 ?_
        refine kx_callSI2 (pc := 30) C cs_X8_208 (m_X8_isSheetOfLane _ _) (by decide) dX8_tangle_30 (Nat.le_of_ble_eq_true rfl) (fun r30 h30 q30 => ?_)
        obtain ⟨z30, rfl⟩ := q30
        have z30 := z30.symm
        subst z30
        refine kx_if_ne (pc := 33) C 38 dX8_tangle_33 (by decide) (fun c33 => ?_) (fun c33 => ?_)
        · have c8 := kx_if1 c8
          have c19 := kx_if1 c19
          have c33 := kx_if1 c33
          obtain ⟨x, rfl, hx, hx2⟩ := kx_nat c8.1
          obtain ⟨y, rfl, hy, hy2⟩ := kx_nat c19.1
          obtain ⟨j, rfl, hj, hj2⟩ := kx_nat c33.1.1
          obtain ⟨s1, ⟨s2, s3⟩, s4⟩ := hs j (by omega)
          have lx := hl9 x (by omega)
          have ly := hl9 y (by omega)
          refine kx_ald0 (pc := 38) C dX8_tangle_38 ?_
          refine kx_getr (pc := 39) C fl_X8_10 fd_0_0 dX8_tangle_39 ?_
          refine kx_ald0 (pc := 42) C dX8_tangle_42 ?_
          refine kx_getr (pc := 43) C fl_X8_36 fd_0_6 dX8_tangle_43 ?_
          refine kx_ild1 (pc := 46) C dX8_tangle_46 ?_
          refine kx_ild2 (pc := 47) C dX8_tangle_47 ?_
          refine kx_callVI3 (pc := 48) C cs_X8_241 ob_1 (m_X2_tangleInto ⟨hlen, hten, hkd⟩ hRB (by omega) (by omega)) (by decide) dX8_tangle_48 (Nat.le_of_ble_eq_true rfl) (fun r48 h48 q48 => ?_)
          obtain ⟨rfl, k1, k2⟩ := q48
          have s2b : h48 (48 + 2 * j) 1 = nI (sn j) := by rw [k2 _ _ (by omega)]; exact s2
          have hs2 : st_SH h48 sl sn it := hs.kept (fun d p h1 h2 => k2 d p (by omega))
          refine kx_ist6 (pc := 51) C dX8_tangle_51 (by decide) rfl ?_
          refine kx_ald0 (pc := 53) C dX8_tangle_53 ?_
          refine kx_getr (pc := 54) C fl_X8_28 fd_0_4 dX8_tangle_54 ?_
          refine kx_ild3 (pc := 57) C dX8_tangle_57 ?_
          refine kx_aald (pc := 58) C ra_47 (by omega) dX8_tangle_58 ?_
          refine kx_ild4 (pc := 59) C dX8_tangle_59 ?_
          refine kx_ild5 (pc := 61) C dX8_tangle_61 ?_
          refine kx_ild6 (pc := 63) C dX8_tangle_63 ?_
          refine kx_callVI3 (pc := 65) C cs_X8_245 (fs_o _ (by omega)) (m_X5_refusal _ _ _ (show j < 4 by omega) s2b s3) (by decide) dX8_tangle_65 (Nat.le_of_ble_eq_true rfl) (fun r65 h65 q65 => ?_)
          obtain ⟨z65, e65⟩ := q65
          subst z65
          rw [hs2.ref (by omega), kx_T (show a (81 + x) + a (81 + y) < 2 ^ 31 by omega)] at e65
          subst e65
          refine kx_ist7 (pc := 68) C dX8_tangle_68 (by decide) rfl ?_
          refine kx_ild7 (pc := 70) C dX8_tangle_70 ?_
          refine kx_if_eq (pc := 72) C 78 dX8_tangle_72 (by decide) (fun c72 => ?_) (fun c72 => ?_)
          · have rf := sp_ref_0 c72
            obtain ⟨i, rfl, hi, hi2⟩ := kx_nat rf.2.2.1
            obtain ⟨l, rfl, hl, hl2⟩ := kx_nat c33.2.1
            have rf5 := rf.2.2.2.2
            have tgl := fun p (hp : p < a (81 + x) + a (81 + y)) => sp_tg_le hRB (x := x) (y := y) (p := p) (by omega) (by omega) hp
            have eln : h (48 + 2 * j) 0 = nI l := by
              rcases s1 with ⟨z, q⟩ | ⟨z, z2, q⟩
              · have := rf.1; omega
              · rw [q]; exact rf.2.1
            rw [c72]
            have cok : ((0 ≤ (nI x).toInt ∧ (nI x).toInt < (a 0 : Int)) ∧ (0 ≤ (nI y).toInt ∧ (nI y).toInt < (a 0 : Int)) ∧ ¬ nI x = nI y ∧ (0 ≤ (nI j).toInt ∧ (nI j).toInt ≤ 3) ∧ 0 ≤ (nI l).toInt ∧ (nI l).toInt ≤ 2) ∧ sp_ref sl sn j (nI l) (nI i) ((a (81 + x) + a (81 + y) : Nat) : Int) = 0 := ⟨⟨c8, c19, c24, c33.1, c33.2⟩, c72⟩
            have loop : ∀ (q k : Nat) (g : kx_H), a (81 + x) + a (81 + y) - k = q → k ≤ a (81 + x) + a (81 + y) → (∀ p, p < a (81 + x) + a (81 + y) → g 57 p = nI (sp_tg a x y p)) → (∀ p, p < 24 → g (49 + 2 * j) p = if i ≤ p ∧ p < i + k then nI (sp_tg a x y (p - i)) else it j p) → (∀ d p, d ≠ 49 + 2 * j → d ≠ 57 → g d p = h d p) → F 81 [some (.ref 0), some (.int (nI x)), some (.int (nI y)), some (.int (nI j)), some (.int (nI l)), some (.int (nI i)), some (.int (nI (a (81 + x) + a (81 + y)))), some (.int 0), some (.int (nI k))] [] g := by
              intro q
              induction q with
              | zero =>
                intro k g hq hk g1 g2 g3
                refine kx_ild8 (pc := 81) C dX8_tangle_81 ?_
                refine kx_ild6 (pc := 83) C dX8_tangle_83 ?_
                refine kx_icmp_geN (pc := 85) C 116 (by omega) (by omega) dX8_tangle_85 (by decide) (fun c85 => ?_) (fun c85 => ?_)
                · refine kx_ild6 (pc := 116) C dX8_tangle_116 ?_
                  refine hR dX8_tangle_118 rfl ⟨by rw [sp_tangle, if_pos cok.1, kx_n, kx_n, kx_n, kx_n_nI hx2, kx_n_nI hy2, kx_n_nI hj2, if_pos c72], ?_, fun d p h1 h2 => g3 d p (by omega) h2⟩
                  rw [sp_tangleI, kx_n, kx_n, kx_n, kx_n, kx_n_nI hx2, kx_n_nI hy2, kx_n_nI hj2, kx_n_nI hi2, if_pos cok]
                  have := hs.one (g := g) (x := sl j) (y := sn j) (f := fun p => if i ≤ p ∧ p < i + (a (81 + x) + a (81 + y)) then nI (sp_tg a x y (p - i)) else it j p) (show j < 4 by omega) (by rw [g3 _ _ (by omega) (by omega)]; exact s1) (by rw [g3 _ _ (by omega) (by omega)]; exact s2) s3 (fun p hp => by rw [g2 p hp, show k = a (81 + x) + a (81 + y) by omega]) (fun d p h1 h2 _ _ => g3 d p h2 (by omega))
                  rw [up_id, up_id] at this
                  exact this
                · omega
              | succ q ih =>
                intro k g hq hk g1 g2 g3
                have e57 := g1 k (by omega)
                have tk := tgl k (by omega)
                have el2 : g (48 + 2 * j) 0 = nI l := by rw [g3 _ _ (by omega) (by omega)]; exact eln
                refine kx_ild8 (pc := 81) C dX8_tangle_81 ?_
                refine kx_ild6 (pc := 83) C dX8_tangle_83 ?_
                refine kx_icmp_geN (pc := 85) C 116 (by omega) (by omega) dX8_tangle_85 (by decide) (fun c85 => ?_) (fun c85 => ?_)
                · omega
                · refine kx_ald0 (pc := 88) C dX8_tangle_88 ?_
                  refine kx_getr (pc := 89) C fl_X8_28 fd_0_4 dX8_tangle_89 ?_
                  refine kx_ild3 (pc := 92) C dX8_tangle_92 ?_
                  refine kx_aald (pc := 93) C ra_47 (by omega) dX8_tangle_93 ?_
                  refine kx_ild5 (pc := 94) C dX8_tangle_94 ?_
                  refine kx_ild8 (pc := 96) C dX8_tangle_96 ?_
                  refine kx_iaddN (pc := 98) C dX8_tangle_98 ?_
                  refine kx_ald0 (pc := 99) C dX8_tangle_99 ?_
                  refine kx_getr (pc := 100) C fl_X8_36 fd_0_6 dX8_tangle_100 ?_
                  refine kx_ild8 (pc := 103) C dX8_tangle_103 ?_
                  refine kx_iald (pc := 105) C ia_57 (by omega) e57 dX8_tangle_105 ?_
                  refine kx_i2l (pc := 106) C dX8_tangle_106 ?_
                  refine kx_callVV2 (pc := 107) C cs_X8_248 (fs_o _ (by omega)) (m_X5_put _ (show j < 4 by omega) (by omega)) (by decide) dX8_tangle_107 (Nat.le_of_ble_eq_true rfl) (fun h107 q107 => ?_)
                  rw [el2, sp_cut9 _ tk _ (by omega)] at q107
                  subst q107
                  first | refine kx_inc8 (pc := 110) C (v := nI (_ + 1)) dX8_tangle_110 (by decide) rfl (nI_1 _) ?_ | refine kx_inc8 (pc := 110) C dX8_tangle_110 (by decide) rfl rfl ?_
                  refine kx_goto (pc := 113) C 81 dX8_tangle_113 (by decide) ?_
                  refine ih (k + 1) _ (by omega) (by omega) (fun p hp => by rw [kx_up, if_neg (by omega)]; exact g1 p hp) (fun p hp => ?_) (fun d p h1 h2 => by rw [kx_up, if_neg (by omega)]; exact g3 d p h1 h2)
                  by_cases z : p = i + k
                  · rw [kx_up, if_pos ⟨rfl, z⟩, if_pos (by omega), show p - i = k by omega]
                  · rw [kx_up, if_neg (fun y => z y.2), g2 p hp]
                    exact kx_ifx (by omega) _ _
            refine kx_iconst (pc := 78) C (v := nI 0) dX8_tangle_78 (by decide) ?_
            refine kx_ist8 (pc := 79) C dX8_tangle_79 (by decide) rfl ?_
            exact loop _ 0 _ rfl (by omega) k1 (fun p hp => by rw [if_neg (by omega), k2 _ _ (by omega)]; exact s4 p hp) (fun d p h1 h2 => k2 d p h2)
          · refine kx_ild7 (pc := 75) C dX8_tangle_75 ?_
            exact hR dX8_tangle_77 rfl ⟨by rw [sp_tangle, if_pos ⟨c8, c19, c24, c33.1, c33.2⟩, kx_n, kx_n, kx_n, kx_n_nI hx2, kx_n_nI hy2, kx_n_nI hj2, if_neg c72], by rw [sp_tangleI, kx_n, kx_n, kx_n, kx_n_nI hx2, kx_n_nI hy2, kx_n_nI hj2, if_neg (fun z => c72 z.2)]; exact hs2, fun d k h1 h2 => k2 d k h2⟩
        · refine kx_iconst (pc := 36) C (v := -1) dX8_tangle_36 (by decide) ?_
          have nc : ¬ ((0 ≤ tx.toInt ∧ tx.toInt < (a 0 : Int)) ∧ (0 ≤ ty.toInt ∧ ty.toInt < (a 0 : Int)) ∧ ¬ tx = ty ∧ (0 ≤ tv.toInt ∧ tv.toInt ≤ 3) ∧ 0 ≤ tl.toInt ∧ tl.toInt ≤ 2) := fun z => by
            first
              | exact kx_if0 c33 z.2.2.2
              | exact z.2.2.1 c24
              | exact kx_if0 c19 z.2.1
              | exact kx_if0 c8 z.1
          exact hR dX8_tangle_37 rfl ⟨by rw [sp_tangle, if_neg nc], by rw [sp_tangleI, if_neg (fun z => nc z.1)]; exact hs, fun d k _ _ => rfl⟩
