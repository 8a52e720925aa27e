def ct_post (h g : kx_H) (size : Nat) (pre : Nat → Nat) (x : Option (Nat × List Nat)) : Prop := match x with
  | none => g 64 8 = h 64 8 ∧ ∀ j, g 111 j = h 111 j
  | some (m, l) => g 64 8 = nI (size + m) ∧ l.length = m ∧ ∀ j, j < size + m → g 111 j = nI (if j < size then pre j else l.getD (j - size) 0)
def ct_b (x : Option (Nat × List Nat)) (b : Nat) : Nat := match x with
  | none => b
  | some (m, _) => m
theorem ct_nx_eq {x : Option (Nat × List Nat)} {K : Nat → Option (List Nat)} {b : Nat} : ct_nx x K b = match ct_rs K (ct_b x b) with
    | some z => some z
    | none => x := by
  cases x with
  | none =>
    show ct_rs K b = (match ct_rs K b with | some z => some z | none => none)
    cases ct_rs K b <;> rfl
  | some z => rfl
/-- the post behind one more tale taken -/
theorem ct_post_take {h g g2 : kx_H} {size c b : Nat} {pre : Nat → Nat} {x : Option (Nat × List Nat)} {G : Nat → Option (List Nat)} (h1 : ct_post h g size pre x) (h2 : ct_post g g2 (size + 1) (fun j => if j = size then c else pre j) (ct_rs G (ct_b x b - 1))) : ct_post h g2 size pre (ct_nx x (fun m => if m = 0 then none else (G (m - 1)).map (fun l => c :: l)) b) := by
  rw [ct_nx_eq, ct_rs_shift]
  cases q : ct_rs G (ct_b x b - 1) with
  | none =>
    rw [q] at h2
    show ct_post h g2 size pre x
    cases x with
    | none => exact ⟨h2.1.trans h1.1, fun j => (h2.2 j).trans (h1.2 j)⟩
    | some z => exact ⟨h2.1.trans h1.1, h1.2.1, fun j hj => (h2.2 j).trans (h1.2.2 j hj)⟩
  | some z =>
    obtain ⟨m, l⟩ := z
    rw [q] at h2
    obtain ⟨a1, a2, a3⟩ := h2
    refine ⟨by rw [a1]; congr 1; omega, by simp [a2], fun j hj => ?_⟩
    rw [a3 j (by omega)]
    congr 1
    by_cases w : j < size
    · rw [if_pos (by omega), if_pos w]
      show (if j = size then c else pre j) = _
      rw [if_neg (by omega)]
    · rw [if_neg w]
      by_cases v : j = size
      · rw [if_pos (by omega), v, Nat.sub_self]
        show (if size = size then c else pre size) = c
        rw [if_pos rfl]
      · rw [if_neg (by omega), show j - size = (j - (size + 1)) + 1 by omega]; rfl
theorem ct_post_skip {h g g2 : kx_H} {size b : Nat} {pre : Nat → Nat} {x : Option (Nat × List Nat)} {G : Nat → Option (List Nat)} (h1 : ct_post h g size pre x) (h2 : ct_post g g2 size pre (ct_rs G (ct_b x b))) : ct_post h g2 size pre (ct_nx x G b) := by
  rw [ct_nx_eq]
  cases q : ct_rs G (ct_b x b) with
  | none =>
    rw [q] at h2
    show ct_post h g2 size pre x
    cases x with
    | none => exact ⟨h2.1.trans h1.1, fun j => (h2.2 j).trans (h1.2 j)⟩
    | some z => exact ⟨h2.1.trans h1.1, h1.2.1, fun j hj => (h2.2 j).trans (h1.2.2 j hj)⟩
  | some z =>
    rw [q] at h2
    exact h2
theorem ct_hp_le {E : Nat} {y : Nat → Nat → Nat → Nat} {k : Nat} (hy : ∀ t e, y t e k ≤ 9) : ∀ {r t : Nat}, ct_hp E y r t k ≤ 9 * r
  | 0, t => by simp [ct_hp]
  | r + 1, t => by
    have h1 := ct_hp_le (E := E) (y := y) (k := k) hy (r := r) (t := t + 1)
    have h2 : sp_mx (fun e => y t e k) E ≤ 9 := sp_mx_le (fun i _ => hy t i)
    unfold ct_hp
    omega
theorem ct_fn_m0 {E : Nat} {y : Nat → Nat → Nat → Nat} {r t : Nat} {need : Nat → Int} : ct_fn E y r 0 t need = if ct_cov need = true then some [] else none := by
  cases r with
  | zero => unfold ct_fn; simp
  | succ r => unfold ct_fn; simp
set_option maxHeartbeats 4000000 in
set_option maxRecDepth 100000 in
theorem m_X0_search {T E : Nat} {y : Nat → Nat → Nat → Nat} (hT8 : T ≤ 8) (hE4 : E ≤ 4) (hy9 : ∀ t e k, y t e k ≤ 9) : ∀ (r t size bs : Nat) (h : kx_H) (need : Nat → Int) (pre : Nat → Nat), t + r = T → size ≤ t → bs ≤ 9 → (st_CS h T E y) → (∀ k, k < 4 → h 109 k = iI (need k)) → (∀ k, k < 4 → -(9 * t : Int) ≤ need k ∧ need k ≤ 99) → (∀ j, j < size → h 110 j = nI (pre j)) → (h 64 8 = nI bs) → kx_MV (3 + r) yX0_search cX0_search 4 [.ref 64, .int (nI t), .int (nI size)] h (fun h1 => ct_post h h1 size pre (ct_rs (fun m => ct_fn E y r m t need) (bs - size)) ∧ (∀ k, k < 4 → h1 109 k = h 109 k) ∧ (∀ j, j < size → h1 110 j = h 110 j) ∧ (∀ j, j ≠ 8 → h1 64 j = h 64 j) ∧ ∀ d j, d ≠ 64 → (d < 109 ∨ 111 < d) → h1 d j = h d j) := by
  intro r
  induction r with
  | zero =>
    intro t size bs h need pre htr hsz hbs9 hCS hm hnb hrow hbs
    obtain ⟨p1, p2, p3, p4, p5⟩ := id hCS
    have none_ : (∀ m, ct_fn E y 0 m t need = none) → ct_post h h size pre (ct_rs (fun m => ct_fn E y 0 m t need) (bs - size)) := fun z => by
      rw [ct_rs_none.mpr (fun m _ => z m)]
      exact ⟨rfl, fun j => rfl⟩
    have hpt : ∀ k, k < 4 → h (100 + t) k = nI (ct_hp E y 0 t k) := fun k hk => by have := p4 t k (by omega) hk; rwa [show T - t = 0 by omega] at this
    have hpT : ∀ k, k < 4 → h (100 + T) k = nI 0 := fun k hk => by have := p4 T k (by omega) hk; rwa [Nat.sub_self] at this
    have hcovT : ct_cv need (fun _ => 0) = ct_cov need := rfl
    have hopeno : ct_cv need (fun k => ct_hp E y 0 t k) = false → ∀ m, ct_fn E y 0 m t need = none := fun z m => by
      cases q : ct_fn E y 0 m t need with
      | none => rfl
      | some l =>
        have := (ct_cv_iff (b := fun k => ct_hp E y 0 t k)).mpr (ct_fn_hope q).1
        rw [z] at this
        exact absurd this (by decide)
    have hmb : ∀ k, k < 4 → -1000 ≤ need k ∧ need k ≤ 1000 := fun k hk => by have := hnb k hk; omega
    have hhb : ∀ k, k < 4 → ct_hp E y 0 t k ≤ 1000 := fun k hk => by have := ct_hp_le (E := E) (y := y) (k := k) (fun t e => hy9 t e k) (r := 0) (t := t); omega
    have et : t = T := by omega
    refine kx_mkV (own := RX0) (L0 := [some (.ref 64), some (.int (nI t)), some (.int (nI size)), none]) rfl (by decide +kernel) (Nat.le_of_ble_eq_true rfl) rfl (fun F C hR => ?_)
    refine kx_ild2 (pc := 0) C dX0_search_0 ?_
    refine kx_ald0 (pc := 1) C dX0_search_1 ?_
    refine kx_geti (pc := 2) C fl_X0_44 fd_64_8 (by first | assumption | rfl) dX0_search_2 ?_
    refine kx_icmp_geN (pc := 5) C 21 (by omega) (by omega) dX0_search_5 (by decide) (fun c5 => ?_) (fun c5 => ?_)
    · refine hR dX0_search_21 ⟨?_, fun k _ => rfl, fun j _ => rfl, fun j _ => rfl, fun d j _ _ => rfl⟩
      first
        | exact none_ (hopeno (Bool.eq_false_iff.mpr (kx_if0 c18)))
        | (rw [show bs - size = 0 by omega]; exact ⟨rfl, fun j => rfl⟩)
    · refine kx_ald0 (pc := 8) C dX0_search_8 ?_
      refine kx_ald0 (pc := 9) C dX0_search_9 ?_
      refine kx_getr (pc := 10) C fl_X0_20 fd_64_2 dX0_search_10 ?_
      refine kx_ild1 (pc := 13) C dX0_search_13 ?_
      refine kx_aald1 (pc := 14) C ra_99 (by omega) dX0_search_14 ?_
      refine kx_callVI1 (pc := 15) C cs_X0_90 ob_64 (m_X0_isCovered (need := need) (b := fun k => ct_hp E y 0 t k) (if_hope t (by omega)) hm hmb hpt hhb) (by omega) dX0_search_15 (Nat.le_of_ble_eq_true rfl) (fun r15 h15 q15 => ?_)
      obtain ⟨z15, rfl⟩ := q15
      have z15 := z15.symm
      subst z15
      refine kx_if_ne (pc := 18) C 22 dX0_search_18 (by decide) (fun c18 => ?_) (fun c18 => ?_)
      · refine kx_ald0 (pc := 22) C dX0_search_22 ?_
        refine kx_ald0 (pc := 23) C dX0_search_23 ?_
        refine kx_getr (pc := 24) C fl_X0_20 fd_64_2 dX0_search_24 ?_
        refine kx_ald0 (pc := 27) C dX0_search_27 ?_
        refine kx_geti (pc := 28) C fl_X0_39 fd_64_6 (by first | assumption | rfl) dX0_search_28 ?_
        refine kx_aald1 (pc := 31) C ra_99 (by omega) dX0_search_31 ?_
        refine kx_callVI1 (pc := 32) C cs_X0_90 ob_64 (m_X0_isCovered (need := need) (b := fun _ => 0) (if_hope T (by omega)) hm hmb hpT (fun k _ => by omega)) (by omega) dX0_search_32 (Nat.le_of_ble_eq_true rfl) (fun r32 h32 q32 => ?_)
        obtain ⟨z32, rfl⟩ := q32
        have z32 := z32.symm
        subst z32
        refine kx_if_eq (pc := 35) C 58 dX0_search_35 (by decide) (fun c35 => ?_) (fun c35 => ?_)
        · refine kx_ild1 (pc := 58) C dX0_search_58 ?_
          refine kx_ald0 (pc := 59) C dX0_search_59 ?_
          refine kx_geti (pc := 60) C fl_X0_39 fd_64_6 (by first | assumption | rfl) dX0_search_60 ?_
          refine kx_icmp_geN (pc := 63) C 76 (by omega) (by omega) dX0_search_63 (by decide) (fun c63 => ?_) (fun c63 => ?_)
          · refine hR dX0_search_76 ⟨?_, fun k _ => rfl, fun j _ => rfl, fun j _ => rfl, fun d j _ _ => rfl⟩
            exact none_ (fun m => by
              unfold ct_fn
              rw [if_neg (fun z => kx_if0 c35 z.2)])
          · omega
        · refine kx_ald0 (pc := 38) C dX0_search_38 ?_
          refine kx_ild2 (pc := 39) C dX0_search_39 ?_
          refine kx_puti (pc := 40) C fl_X0_44 fp_X0_8 fd_64_8 rfl rfl dX0_search_40 ?_
          refine kx_ald0 (pc := 43) C dX0_search_43 ?_
          refine kx_getr (pc := 44) C fl_X0_27 fd_64_4 dX0_search_44 ?_
          refine kx_iconst (pc := 47) C (v := nI 0) dX0_search_47 (by decide) ?_
          refine kx_ald0 (pc := 48) C dX0_search_48 ?_
          refine kx_getr (pc := 49) C fl_X0_30 fd_64_5 dX0_search_49 ?_
          refine kx_iconst (pc := 52) C (v := nI 0) dX0_search_52 (by decide) ?_
          refine kx_ild2 (pc := 53) C dX0_search_53 ?_
          refine kx_cpy (pc := 54) C ac_X0_94 ia_110 ia_111 (by omega) (by omega) (by omega) (Nat.le_of_ble_eq_true rfl) dX0_search_54 ?_
          refine hR dX0_search_57 ⟨?_, fun k hk => by rw [kx_cp, if_neg (by omega), kx_up, if_neg (by omega)], fun j hj => by rw [kx_cp, if_neg (by omega), kx_up, if_neg (by omega)], fun j hj => by rw [kx_cp, if_neg (by omega), kx_up, if_neg (by omega)], fun d j h1 h2 => by rw [kx_cp, if_neg (by omega), kx_up, if_neg (by omega)]⟩
          have hcv : ct_cov need = true := kx_if1 c35
          rw [ct_rs_at (H := fun m => ct_fn E y 0 m t need) (m := 0) (l := []) (by rw [ct_fn_m0, if_pos hcv]) (fun i hi => absurd hi (by omega)) (by omega)]
          refine ⟨by rw [kx_cp, if_neg (by omega), kx_up, if_pos ⟨rfl, rfl⟩]; rfl, rfl, fun j hj => ?_⟩
          rw [kx_cp, if_pos (by omega), show 0 + (j - 0) = j by omega, kx_up, if_neg (by omega), if_pos (by omega)]
          exact hrow j (by omega)
      · refine hR dX0_search_21 ⟨?_, fun k _ => rfl, fun j _ => rfl, fun j _ => rfl, fun d j _ _ => rfl⟩
        first
          | exact none_ (hopeno (Bool.eq_false_iff.mpr (kx_if0 c18)))
          | (rw [show bs - size = 0 by omega]; exact ⟨rfl, fun j => rfl⟩)
  | succ r ih =>
    intro t size bs h need pre htr hsz hbs9 hCS hm hnb hrow hbs
    obtain ⟨p1, p2, p3, p4, p5⟩ := id hCS
    have none_ : (∀ m, ct_fn E y (r + 1) m t need = none) → ct_post h h size pre (ct_rs (fun m => ct_fn E y (r + 1) m t need) (bs - size)) := fun z => by
      rw [ct_rs_none.mpr (fun m _ => z m)]
      exact ⟨rfl, fun j => rfl⟩
    have hpt : ∀ k, k < 4 → h (100 + t) k = nI (ct_hp E y (r + 1) t k) := fun k hk => by have := p4 t k (by omega) hk; rwa [show T - t = (r + 1) by omega] at this
    have hpT : ∀ k, k < 4 → h (100 + T) k = nI 0 := fun k hk => by have := p4 T k (by omega) hk; rwa [Nat.sub_self] at this
    have hcovT : ct_cv need (fun _ => 0) = ct_cov need := rfl
    have hopeno : ct_cv need (fun k => ct_hp E y (r + 1) t k) = false → ∀ m, ct_fn E y (r + 1) m t need = none := fun z m => by
      cases q : ct_fn E y (r + 1) m t need with
      | none => rfl
      | some l =>
        have := (ct_cv_iff (b := fun k => ct_hp E y (r + 1) t k)).mpr (ct_fn_hope q).1
        rw [z] at this
        exact absurd this (by decide)
    have hmb : ∀ k, k < 4 → -1000 ≤ need k ∧ need k ≤ 1000 := fun k hk => by have := hnb k hk; omega
    have hhb : ∀ k, k < 4 → ct_hp E y (r + 1) t k ≤ 1000 := fun k hk => by have := ct_hp_le (E := E) (y := y) (k := k) (fun t e => hy9 t e k) (r := (r + 1)) (t := t); omega
    refine kx_mkV (own := RX0) (L0 := [some (.ref 64), some (.int (nI t)), some (.int (nI size)), none]) rfl (by decide +kernel) (Nat.le_of_ble_eq_true rfl) rfl (fun F C hR => ?_)
    have loop : ∀ (q e : Nat) (g : kx_H), ct_cov need = false → size + 1 < bs → E - e = q → e ≤ E → ct_post h g size pre (ct_rs (ct_H E y r t need e) (bs - size)) → (∀ k, k < 4 → g 109 k = h 109 k) → (∀ j, j < size → g 110 j = h 110 j) → (∀ j, j ≠ 8 → g 64 j = h 64 j) → (∀ d j, d ≠ 64 → (d < 109 ∨ 111 < d) → g d j = h d j) → F 79 [some (.ref 64), some (.int (nI t)), some (.int (nI size)), some (.int (nI e))] [] g := by
      intro q
      induction q with
      | zero =>
        intro e g hnc hlt hq he g1 g2 g3 g4 g5
        have ee : e = E := by omega
        subst ee
        have hcs : st_CS g T e y := hCS.kept hT8 hE4 g4 (fun d j h1 h2 => g5 d j (by omega) (by omega))
        have q7 := hcs.2.1
        have hgb : g 64 8 = nI (size + ct_b (ct_rs (ct_H e y r t need e) (bs - size)) (bs - size)) ∧ size + ct_b (ct_rs (ct_H e y r t need e) (bs - size)) (bs - size) ≤ bs := by
          cases z : ct_rs (ct_H e y r t need e) (bs - size) with
          | none => rw [z] at g1; exact ⟨by rw [g1.1, hbs]; show nI bs = nI (size + (bs - size)); congr 1; omega, by show size + (bs - size) ≤ bs; omega⟩
          | some w =>
            obtain ⟨m, l⟩ := w
            rw [z] at g1
            have := (ct_rs_some z).1
            exact ⟨g1.1, by show size + m ≤ bs; omega⟩
        refine kx_ild3 (pc := 79) C dX0_search_79 ?_
        refine kx_ald0 (pc := 80) C dX0_search_80 ?_
        refine kx_geti (pc := 81) C fl_X0_43 fd_64_7 (by first | assumption | rfl) dX0_search_81 ?_
        refine kx_icmp_geN (pc := 84) C 148 (by omega) (by omega) dX0_search_84 (by decide) (fun c84 => ?_) (fun c84 => ?_)
        · refine kx_ald0 (pc := 148) C dX0_search_148 ?_
          refine kx_ild1 (pc := 149) C dX0_search_149 ?_
          refine kx_iconst (pc := 150) C (v := nI 1) dX0_search_150 (by decide) ?_
          first | refine kx_iaddN (pc := 151) C dX0_search_151 ?_ | refine kx_iadd (pc := 151) C dX0_search_151 ?_
          refine kx_ild2 (pc := 152) C dX0_search_152 ?_
          refine kx_callVV2 (pc := 153) C cs_X0_55 ob_64 (ih (t + 1) size _ g need pre (by omega) (by omega) (by omega) hcs (fun k hk => by rw [g2 k hk]; exact hm k hk) (fun k hk => by have := hnb k hk; omega) (fun j hj => by rw [g3 j hj]; exact hrow j hj) hgb.1) (by omega) dX0_search_153 (Nat.le_of_ble_eq_true rfl) (fun h153 q153 => ?_)
          rw [show size + ct_b (ct_rs (ct_H e y r t need e) (bs - size)) (bs - size) - size = ct_b (ct_rs (ct_H e y r t need e) (bs - size)) (bs - size) by omega] at q153
          obtain ⟨k1, k2, k3, k4, k5⟩ := q153
          refine hR dX0_search_156 ⟨?_, fun k hk => by rw [k2 k hk]; exact g2 k hk, fun j hj => by rw [k3 j hj]; exact g3 j hj, fun j hj => by rw [k4 j hj]; exact g4 j hj, fun d j h1 h2 => by rw [k5 d j h1 h2]; exact g5 d j h1 h2⟩
          rw [ct_fn_split hnc, ct_rs_or]
          exact ct_post_skip g1 k1
        · omega
      | succ q ihq =>
        intro e g hnc hlt hq he g1 g2 g3 g4 g5
        have hcs : st_CS g T E y := hCS.kept hT8 hE4 g4 (fun d j h1 h2 => g5 d j (by omega) (by omega))
        obtain ⟨q6, q7, q3, q4, q5⟩ := id hcs
        have hnew := q5 t e (by omega) (by omega)
        have hgb : g 64 8 = nI (size + ct_b (ct_rs (ct_H E y r t need e) (bs - size)) (bs - size)) ∧ size + ct_b (ct_rs (ct_H E y r t need e) (bs - size)) (bs - size) ≤ bs := by
          cases z : ct_rs (ct_H E y r t need e) (bs - size) with
          | none => rw [z] at g1; exact ⟨by rw [g1.1, hbs]; show nI bs = nI (size + (bs - size)); congr 1; omega, by show size + (bs - size) ≤ bs; omega⟩
          | some w =>
            obtain ⟨m, l⟩ := w
            rw [z] at g1
            have := (ct_rs_some z).1
            exact ⟨g1.1, by show size + m ≤ bs; omega⟩
        have old : ¬ ct_new y t e = true → ct_H E y r t need (e + 1) = ct_H E y r t need e := fun z => by
          have : ∃ i, i < e ∧ sp_all (fun k => decide (y t i k = y t e k)) 4 = true := by
            apply Classical.byContradiction
            intro w
            apply z
            refine sp_all_iff.mpr (fun i hi => ?_)
            rw [Bool.not_eq_true']
            exact Bool.eq_false_iff.mpr (fun v => w ⟨i, hi, v⟩)
          obtain ⟨i, hi, hs⟩ := this
          exact ct_H_old hi (fun k hk => by have := sp_all_iff.mp hs k hk; simpa using this)
        refine kx_ild3 (pc := 79) C dX0_search_79 ?_
        refine kx_ald0 (pc := 80) C dX0_search_80 ?_
        refine kx_geti (pc := 81) C fl_X0_43 fd_64_7 (by first | assumption | rfl) dX0_search_81 ?_
        refine kx_icmp_geN (pc := 84) C 148 (by omega) (by omega) dX0_search_84 (by decide) (fun c84 => ?_) (fun c84 => ?_)
        · omega
        · refine kx_ald0 (pc := 87) C dX0_search_87 ?_
          refine kx_getr (pc := 88) C fl_X0_16 fd_64_1 dX0_search_88 ?_
          refine kx_ild1 (pc := 91) C dX0_search_91 ?_
          refine kx_ild3 (pc := 92) C dX0_search_92 ?_
          refine kx_callSI2 (pc := 93) C cs_X0_66 (m_X0_place) (by omega) dX0_search_93 (Nat.le_of_ble_eq_true rfl) (fun r93 h93 q93 => ?_)
          obtain ⟨z93, rfl⟩ := q93
          have z93 := z93.symm
          subst z93
          refine kx_zald (pc := 96) C za_98 (by omega) hnew dX0_search_96 ?_
          refine kx_if_eq (pc := 97) C 142 dX0_search_97 (by decide) (fun c97 => ?_) (fun c97 => ?_)
          · have hno := old (kx_if0 c97)
            first | refine kx_inc3 (pc := 142) C (v := nI (_ + 1)) dX0_search_142 (by decide) rfl (nI_1 _) ?_ | refine kx_inc3 (pc := 142) C dX0_search_142 (by decide) rfl rfl ?_
            refine kx_goto (pc := 145) C 79 dX0_search_145 (by decide) ?_
            first
              | (refine ihq (e + 1) g hnc hlt (by omega) (by omega) ?_ g2 g3 g4 g5
                 rw [hno]; exact g1)
              | (refine ihq (e + 1) h139 hnc hlt (by omega) (by omega) ?_ (fun k hk => ?_) (fun j hj => by rw [u2 _ _ (by omega), k3 j (by omega), t2 _ _ (by omega), kx_up, if_neg (by omega)]; exact g3 j hj) (fun j hj => by rw [u2 _ _ (by omega), k4 j hj, f2 _ _ (by omega) (by omega)]; exact g4 j hj) (fun d j h1 h2 => by rw [u2 _ _ (by omega), k5 d j h1 h2, f2 _ _ (by omega) (by omega)]; exact g5 d j h1 h2)
                 · rw [ct_H_succ, ct_rs_or]
                   refine ct_post_take (g := g) (c := 10 * t + e) (G := fun m => ct_fn E y r m (t + 1) (fun k => need k - (y t e k : Int))) g1 ?_
                   cases z : ct_rs (fun m => ct_fn E y r m (t + 1) (fun k => need k - (y t e k : Int))) (ct_b (ct_rs (ct_H E y r t need e) (bs - size)) (bs - size) - 1) with
                   | none =>
                     rw [z] at k1
                     exact ⟨by rw [u2 _ _ (by omega), k1.1, f2 _ _ (by omega) (by omega)], fun j => by rw [u2 _ _ (by omega), k1.2 j, f2 _ _ (by omega) (by omega)]⟩
                   | some w =>
                     obtain ⟨m, l⟩ := w
                     rw [z] at k1
                     exact ⟨by rw [u2 _ _ (by omega)]; exact k1.1, k1.2.1, fun j hj => by rw [u2 _ _ (by omega)]; exact k1.2.2 j hj⟩
                 · rw [u1 k hk, hm k hk]
                   congr 1
                   omega)
          · refine kx_ald0 (pc := 100) C dX0_search_100 ?_
            refine kx_getr (pc := 101) C fl_X0_27 fd_64_4 dX0_search_101 ?_
            refine kx_ild2 (pc := 104) C dX0_search_104 ?_
            refine kx_bipush (pc := 105) C (v := nI 10) dX0_search_105 (by decide) ?_
            refine kx_ild1 (pc := 107) C dX0_search_107 ?_
            refine kx_imulN (pc := 108) C dX0_search_108 ?_
            refine kx_ild3 (pc := 109) C dX0_search_109 ?_
            refine kx_iaddN (pc := 110) C dX0_search_110 ?_
            refine kx_iast (pc := 111) C ia_110 (by omega) dX0_search_111 ?_
            have f1 : ∀ d j, d ≠ 110 → kx_up g 110 size (nI (10 * t + e)) d j = g d j := fun d j hd => by rw [kx_up, if_neg (by omega)]
            refine kx_ald0 (pc := 112) C dX0_search_112 ?_
            refine kx_ild1 (pc := 113) C dX0_search_113 ?_
            refine kx_ild3 (pc := 114) C dX0_search_114 ?_
            refine kx_callSI2 (pc := 115) C cs_X0_66 (m_X0_place) (by omega) dX0_search_115 (Nat.le_of_ble_eq_true rfl) (fun r115 h115 q115 => ?_)
            obtain ⟨z115, rfl⟩ := q115
            have z115 := z115.symm
            subst z115
            refine kx_iconst (pc := 118) C (v := nI 1) dX0_search_118 (by decide) ?_
            refine kx_callVV2 (pc := 119) C cs_X0_100 ob_64 (m_X0_take1 (need := need) (w := fun k => y t e k) (by omega) (fun k hk => by rw [f1 _ _ (by omega), g2 k hk]; exact hm k hk) (fun k hk => by rw [f1 _ _ (by omega)]; exact q3 t e k (by omega) (by omega) hk)) (by omega) dX0_search_119 (Nat.le_of_ble_eq_true rfl) (fun h119 q119 => ?_)
            obtain ⟨t1, t2⟩ := q119
            have f2 : ∀ d j, d ≠ 109 → d ≠ 110 → h119 d j = g d j := fun d j h1 h2 => by rw [t2 d j h1, f1 d j h2]
            refine kx_ald0 (pc := 122) C dX0_search_122 ?_
            refine kx_ild1 (pc := 123) C dX0_search_123 ?_
            refine kx_iconst (pc := 124) C (v := nI 1) dX0_search_124 (by decide) ?_
            refine kx_iaddN (pc := 125) C dX0_search_125 ?_
            refine kx_ild2 (pc := 126) C dX0_search_126 ?_
            refine kx_iconst (pc := 127) C (v := nI 1) dX0_search_127 (by decide) ?_
            refine kx_iaddN (pc := 128) C dX0_search_128 ?_
            refine kx_callVV2 (pc := 129) C cs_X0_55 ob_64 (ih (t + 1) (size + 1) (size + ct_b (ct_rs (ct_H E y r t need e) (bs - size)) (bs - size)) h119 (fun k => need k - (y t e k : Int)) (fun j => if j = size then 10 * t + e else pre j) (by omega) (by omega) (by omega) (hcs.kept hT8 hE4 (fun j _ => f2 _ _ (by omega) (by omega)) (fun d j h1 h2 => f2 _ _ (by omega) (by omega))) t1 (fun k hk => by have h1 := hnb k hk; have h2 := hy9 t e k; omega) (fun j hj => by
                  rw [t2 110 j (by omega)]
                  by_cases w : j = size
                  · rw [w, kx_up, if_pos ⟨rfl, rfl⟩, if_pos rfl]
                  · rw [kx_up, if_neg (by omega), if_neg w, g3 j (by omega)]; exact hrow j (by omega)) (by rw [f2 _ _ (by omega) (by omega)]; exact hgb.1)) (by omega) dX0_search_129 (Nat.le_of_ble_eq_true rfl) (fun h129 q129 => ?_)
            rw [show size + ct_b (ct_rs (ct_H E y r t need e) (bs - size)) (bs - size) - (size + 1) = ct_b (ct_rs (ct_H E y r t need e) (bs - size)) (bs - size) - 1 by omega] at q129
            obtain ⟨k1, k2, k3, k4, k5⟩ := q129
            refine kx_ald0 (pc := 132) C dX0_search_132 ?_
            refine kx_ild1 (pc := 133) C dX0_search_133 ?_
            refine kx_ild3 (pc := 134) C dX0_search_134 ?_
            refine kx_callSI2 (pc := 135) C cs_X0_66 (m_X0_place) (by omega) dX0_search_135 (Nat.le_of_ble_eq_true rfl) (fun r135 h135 q135 => ?_)
            obtain ⟨z135, rfl⟩ := q135
            have z135 := z135.symm
            subst z135
            refine kx_iconst (pc := 138) C (v := -1) dX0_search_138 (by decide) ?_
            refine kx_callVV2 (pc := 139) C cs_X0_100 ob_64 (m_X0_take2 (need := fun k => need k - (y t e k : Int)) (w := fun k => y t e k) (by omega) (fun k hk => by rw [k2 k hk]; exact t1 k hk) (fun k hk => by rw [k5 _ _ (by omega) (by omega), f2 _ _ (by omega) (by omega)]; exact q3 t e k (by omega) (by omega) hk)) (by omega) dX0_search_139 (Nat.le_of_ble_eq_true rfl) (fun h139 q139 => ?_)
            obtain ⟨u1, u2⟩ := q139
            first | refine kx_inc3 (pc := 142) C (v := nI (_ + 1)) dX0_search_142 (by decide) rfl (nI_1 _) ?_ | refine kx_inc3 (pc := 142) C dX0_search_142 (by decide) rfl rfl ?_
            refine kx_goto (pc := 145) C 79 dX0_search_145 (by decide) ?_
            first
              | (refine ihq (e + 1) g hnc hlt (by omega) (by omega) ?_ g2 g3 g4 g5
                 rw [hno]; exact g1)
              | (refine ihq (e + 1) h139 hnc hlt (by omega) (by omega) ?_ (fun k hk => ?_) (fun j hj => by rw [u2 _ _ (by omega), k3 j (by omega), t2 _ _ (by omega), kx_up, if_neg (by omega)]; exact g3 j hj) (fun j hj => by rw [u2 _ _ (by omega), k4 j hj, f2 _ _ (by omega) (by omega)]; exact g4 j hj) (fun d j h1 h2 => by rw [u2 _ _ (by omega), k5 d j h1 h2, f2 _ _ (by omega) (by omega)]; exact g5 d j h1 h2)
                 · rw [ct_H_succ, ct_rs_or]
                   refine ct_post_take (g := g) (c := 10 * t + e) (G := fun m => ct_fn E y r m (t + 1) (fun k => need k - (y t e k : Int))) g1 ?_
                   cases z : ct_rs (fun m => ct_fn E y r m (t + 1) (fun k => need k - (y t e k : Int))) (ct_b (ct_rs (ct_H E y r t need e) (bs - size)) (bs - size) - 1) with
                   | none =>
                     rw [z] at k1
                     exact ⟨by rw [u2 _ _ (by omega), k1.1, f2 _ _ (by omega) (by omega)], fun j => by rw [u2 _ _ (by omega), k1.2 j, f2 _ _ (by omega) (by omega)]⟩
                   | some w =>
                     obtain ⟨m, l⟩ := w
                     rw [z] at k1
                     exact ⟨by rw [u2 _ _ (by omega)]; exact k1.1, k1.2.1, fun j hj => by rw [u2 _ _ (by omega)]; exact k1.2.2 j hj⟩
                 · rw [u1 k hk, hm k hk]
                   congr 1
                   omega)
    refine kx_ild2 (pc := 0) C dX0_search_0 ?_
    refine kx_ald0 (pc := 1) C dX0_search_1 ?_
    refine kx_geti (pc := 2) C fl_X0_44 fd_64_8 (by first | assumption | rfl) dX0_search_2 ?_
    refine kx_icmp_geN (pc := 5) C 21 (by omega) (by omega) dX0_search_5 (by decide) (fun c5 => ?_) (fun c5 => ?_)
    · refine hR dX0_search_21 ⟨?_, fun k _ => rfl, fun j _ => rfl, fun j _ => rfl, fun d j _ _ => rfl⟩
      first
        | exact none_ (hopeno (Bool.eq_false_iff.mpr (kx_if0 c18)))
        | (rw [show bs - size = 0 by omega]; exact ⟨rfl, fun j => rfl⟩)
    · refine kx_ald0 (pc := 8) C dX0_search_8 ?_
      refine kx_ald0 (pc := 9) C dX0_search_9 ?_
      refine kx_getr (pc := 10) C fl_X0_20 fd_64_2 dX0_search_10 ?_
      refine kx_ild1 (pc := 13) C dX0_search_13 ?_
      refine kx_aald1 (pc := 14) C ra_99 (by omega) dX0_search_14 ?_
      refine kx_callVI1 (pc := 15) C cs_X0_90 ob_64 (m_X0_isCovered (need := need) (b := fun k => ct_hp E y (r + 1) t k) (if_hope t (by omega)) hm hmb hpt hhb) (by omega) dX0_search_15 (Nat.le_of_ble_eq_true rfl) (fun r15 h15 q15 => ?_)
      obtain ⟨z15, rfl⟩ := q15
      have z15 := z15.symm
      subst z15
      refine kx_if_ne (pc := 18) C 22 dX0_search_18 (by decide) (fun c18 => ?_) (fun c18 => ?_)
      · refine kx_ald0 (pc := 22) C dX0_search_22 ?_
        refine kx_ald0 (pc := 23) C dX0_search_23 ?_
        refine kx_getr (pc := 24) C fl_X0_20 fd_64_2 dX0_search_24 ?_
        refine kx_ald0 (pc := 27) C dX0_search_27 ?_
        refine kx_geti (pc := 28) C fl_X0_39 fd_64_6 (by first | assumption | rfl) dX0_search_28 ?_
        refine kx_aald1 (pc := 31) C ra_99 (by omega) dX0_search_31 ?_
        refine kx_callVI1 (pc := 32) C cs_X0_90 ob_64 (m_X0_isCovered (need := need) (b := fun _ => 0) (if_hope T (by omega)) hm hmb hpT (fun k _ => by omega)) (by omega) dX0_search_32 (Nat.le_of_ble_eq_true rfl) (fun r32 h32 q32 => ?_)
        obtain ⟨z32, rfl⟩ := q32
        have z32 := z32.symm
        subst z32
        refine kx_if_eq (pc := 35) C 58 dX0_search_35 (by decide) (fun c35 => ?_) (fun c35 => ?_)
        · refine kx_ild1 (pc := 58) C dX0_search_58 ?_
          refine kx_ald0 (pc := 59) C dX0_search_59 ?_
          refine kx_geti (pc := 60) C fl_X0_39 fd_64_6 (by first | assumption | rfl) dX0_search_60 ?_
          refine kx_icmp_geN (pc := 63) C 76 (by omega) (by omega) dX0_search_63 (by decide) (fun c63 => ?_) (fun c63 => ?_)
          · omega
          · refine kx_ild2 (pc := 66) C dX0_search_66 ?_
            refine kx_iconst (pc := 67) C (v := nI 1) dX0_search_67 (by decide) ?_
            first | refine kx_iaddN (pc := 68) C dX0_search_68 ?_ | refine kx_iadd (pc := 68) C dX0_search_68 ?_
            refine kx_ald0 (pc := 69) C dX0_search_69 ?_
            refine kx_geti (pc := 70) C fl_X0_44 fd_64_8 (by first | assumption | rfl) dX0_search_70 ?_
            refine kx_icmp_ltN (pc := 73) C 77 (by omega) (by omega) dX0_search_73 (by decide) (fun c73 => ?_) (fun c73 => ?_)
            · refine kx_iconst (pc := 77) C (v := nI 0) dX0_search_77 (by decide) ?_
              refine kx_ist3 (pc := 78) C dX0_search_78 (by decide) rfl ?_
              refine loop E 0 h (Bool.eq_false_iff.mpr (kx_if0 c35)) c73 (by omega) (by omega) ?_ (fun k _ => rfl) (fun j _ => rfl) (fun j _ => rfl) (fun d j _ _ => rfl)
              rw [ct_H_0]
              exact ⟨rfl, fun j => rfl⟩
            · refine hR dX0_search_76 ⟨?_, fun k _ => rfl, fun j _ => rfl, fun j _ => rfl, fun d j _ _ => rfl⟩
              rw [show bs - size = 1 by omega, ct_rs_none.mpr (fun m hm2 => by rw [show m = 0 by omega, ct_fn_m0, if_neg (show ¬ ct_cov need = true from kx_if0 c35)])]
              exact ⟨rfl, fun j => rfl⟩
        · refine kx_ald0 (pc := 38) C dX0_search_38 ?_
          refine kx_ild2 (pc := 39) C dX0_search_39 ?_
          refine kx_puti (pc := 40) C fl_X0_44 fp_X0_8 fd_64_8 rfl rfl dX0_search_40 ?_
          refine kx_ald0 (pc := 43) C dX0_search_43 ?_
          refine kx_getr (pc := 44) C fl_X0_27 fd_64_4 dX0_search_44 ?_
          refine kx_iconst (pc := 47) C (v := nI 0) dX0_search_47 (by decide) ?_
          refine kx_ald0 (pc := 48) C dX0_search_48 ?_
          refine kx_getr (pc := 49) C fl_X0_30 fd_64_5 dX0_search_49 ?_
          refine kx_iconst (pc := 52) C (v := nI 0) dX0_search_52 (by decide) ?_
          refine kx_ild2 (pc := 53) C dX0_search_53 ?_
          refine kx_cpy (pc := 54) C ac_X0_94 ia_110 ia_111 (by omega) (by omega) (by omega) (Nat.le_of_ble_eq_true rfl) dX0_search_54 ?_
          refine hR dX0_search_57 ⟨?_, fun k hk => by rw [kx_cp, if_neg (by omega), kx_up, if_neg (by omega)], fun j hj => by rw [kx_cp, if_neg (by omega), kx_up, if_neg (by omega)], fun j hj => by rw [kx_cp, if_neg (by omega), kx_up, if_neg (by omega)], fun d j h1 h2 => by rw [kx_cp, if_neg (by omega), kx_up, if_neg (by omega)]⟩
          have hcv : ct_cov need = true := kx_if1 c35
          rw [ct_rs_at (H := fun m => ct_fn E y (r + 1) m t need) (m := 0) (l := []) (by rw [ct_fn_m0, if_pos hcv]) (fun i hi => absurd hi (by omega)) (by omega)]
          refine ⟨by rw [kx_cp, if_neg (by omega), kx_up, if_pos ⟨rfl, rfl⟩]; rfl, rfl, fun j hj => ?_⟩
          rw [kx_cp, if_pos (by omega), show 0 + (j - 0) = j by omega, kx_up, if_neg (by omega), if_pos (by omega)]
          exact hrow j (by omega)
      · refine hR dX0_search_21 ⟨?_, fun k _ => rfl, fun j _ => rfl, fun j _ => rfl, fun d j _ _ => rfl⟩
        first
          | exact none_ (hopeno (Bool.eq_false_iff.mpr (kx_if0 c18)))
          | (rw [show bs - size = 0 by omega]; exact ⟨rfl, fun j => rfl⟩)
