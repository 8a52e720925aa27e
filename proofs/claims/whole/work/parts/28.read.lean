/-! reading a row of sorts: sets of tales -/
def sp_ls (a : Nat → Nat) (u : Nat) : Nat → Nat
  | 0 => 0
  | t + 1 => sp_ls a u t + if u / 2 ^ t % 2 = 0 then 0 else a (81 + t)
def sp_L (a : Nat → Nat) (u : Nat) : Nat := sp_ls a u (a 0)
theorem sp_ls_le {a : Nat → Nat} {u : Nat} : ∀ {t : Nat}, (∀ i, i < t → a (81 + i) ≤ 9) → sp_ls a u t ≤ 9 * t
  | 0, _ => by simp [sp_ls]
  | t + 1, h => by
    have h1 := sp_ls_le (a := a) (u := u) (t := t) (fun i hi => h i (by omega))
    have h2 := h t (by omega)
    unfold sp_ls
    split <;> omega
theorem sp_L_le {a : Nat → Nat} (hB : st_RB a) (h0 : a 0 ≤ 8) (u : Nat) : sp_L a u ≤ 72 := by
  have := sp_ls_le (a := a) (u := u) (t := a 0) (fun i hi => hB.1 i (by omega))
  unfold sp_L
  omega
def sp_ft (a v : Nat → Nat) (n t p : Nat) : Bool := decide (p + a (81 + t) ≤ n) && sp_all (fun i => decide (a (9 + 9 * t + i) / 3 = v (p + i))) (a (81 + t))
def sp_sg (g : Nat → Nat) : Nat → Nat
  | 0 => 0
  | t + 1 => sp_sg g t + g t
/-- rows that go on behind the set u, of f tales at most -/
def sp_wy (a v : Nat → Nat) (n : Nat) : Nat → Nat → Nat
  | 0, u => if sp_L a u = n then 1 else 0
  | f + 1, u => if sp_L a u = n then 1 else sp_sg (fun t => if u / 2 ^ t % 2 = 0 ∧ sp_ft a v n t (sp_L a u) = true then sp_wy a v n f (u ||| 2 ^ t) else 0) (a 0)
def sp_p8 (u : Nat) : Nat := u % 2 + u / 2 % 2 + u / 4 % 2 + u / 8 % 2 + u / 16 % 2 + u / 32 % 2 + u / 64 % 2 + u / 128 % 2
def sp_W (a v : Nat → Nat) (n u : Nat) : Nat := sp_wy a v n (8 - sp_p8 u) u
theorem sp_bits8 : ∀ u, u < 256 → ∀ t, t < 8 → u / 2 ^ t % 2 = 0 → (sp_p8 (u ||| 2 ^ t) = sp_p8 u + 1 ∧ u ||| 2 ^ t < 256 ∧ u < u ||| 2 ^ t) ∧ ∀ s, s < 8 → (u ||| 2 ^ t) / 2 ^ s % 2 = if s = t then 1 else u / 2 ^ s % 2 := by decide +kernel
theorem sp_p8_le (u : Nat) : sp_p8 u ≤ 8 := by unfold sp_p8; omega
theorem sp_p8_all : ∀ u, u < 256 → sp_p8 u = 8 → ∀ t, t < 8 → u / 2 ^ t % 2 = 1 := by decide +kernel
theorem sp_sg_cong {f g : Nat → Nat} : ∀ {n : Nat}, (∀ i, i < n → f i = g i) → sp_sg f n = sp_sg g n
  | 0, _ => rfl
  | n + 1, h => by unfold sp_sg; rw [sp_sg_cong (fun i hi => h i (by omega)), h n (by omega)]
theorem sp_sg_le {f : Nat → Nat} {b : Nat} : ∀ {n : Nat}, (∀ i, i < n → f i ≤ b) → sp_sg f n ≤ n * b
  | 0, _ => by simp [sp_sg]
  | n + 1, h => by
    have h1 := sp_sg_le (f := f) (b := b) (n := n) (fun i hi => h i (by omega))
    have h2 := h n (by omega)
    unfold sp_sg
    rw [Nat.add_mul]
    omega
theorem sp_sg_pos {f : Nat → Nat} : ∀ {n : Nat}, 0 < sp_sg f n → ∃ i, i < n ∧ 0 < f i
  | 0, h => absurd h (by simp [sp_sg])
  | n + 1, h => by
    unfold sp_sg at h
    by_cases q : 0 < f n
    · exact ⟨n, by omega, q⟩
    · obtain ⟨i, hi, hp⟩ := sp_sg_pos (f := f) (n := n) (by omega)
      exact ⟨i, by omega, hp⟩
theorem sp_sg_part {f : Nat → Nat} : ∀ {n i : Nat}, i < n → f i ≤ sp_sg f n
  | 0, i, h => absurd h (by omega)
  | n + 1, i, h => by
    unfold sp_sg
    rcases Nat.lt_or_ge i n with q | q
    · have := sp_sg_part (f := f) q; omega
    · rw [show i = n by omega]; omega
theorem sp_W_rec {a v : Nat → Nat} {n u : Nat} (h0 : a 0 ≤ 8) (hu : u < 256) : sp_W a v n u = if sp_L a u = n then 1 else sp_sg (fun t => if u / 2 ^ t % 2 = 0 ∧ sp_ft a v n t (sp_L a u) = true then sp_W a v n (u ||| 2 ^ t) else 0) (a 0) := by
  have h8 := sp_p8_le u
  unfold sp_W
  rcases (show 8 - sp_p8 u = 0 ∨ ∃ f, 8 - sp_p8 u = f + 1 from by rcases Nat.eq_zero_or_pos (8 - sp_p8 u) with z | z; exact Or.inl z; exact Or.inr ⟨8 - sp_p8 u - 1, by omega⟩) with z | ⟨f, z⟩
  · rw [z]
    have hall := sp_p8_all u hu (by omega)
    show (if sp_L a u = n then 1 else 0) = _
    by_cases q : sp_L a u = n
    · rw [if_pos q, if_pos q]
    · rw [if_neg q, if_neg q]
      have : sp_sg (fun t => if u / 2 ^ t % 2 = 0 ∧ sp_ft a v n t (sp_L a u) = true then sp_wy a v n (8 - sp_p8 (u ||| 2 ^ t)) (u ||| 2 ^ t) else 0) (a 0) ≤ a 0 * 0 := sp_sg_le (fun i hi => by
        rw [if_neg (fun y => by have := hall i (by omega); omega)]
        omega)
      omega
  · rw [z]
    show (if sp_L a u = n then 1 else sp_sg (fun t => if u / 2 ^ t % 2 = 0 ∧ sp_ft a v n t (sp_L a u) = true then sp_wy a v n f (u ||| 2 ^ t) else 0) (a 0)) = _
    by_cases q : sp_L a u = n
    · rw [if_pos q, if_pos q]
    · rw [if_neg q, if_neg q]
      refine sp_sg_cong (fun t ht => ?_)
      by_cases c : u / 2 ^ t % 2 = 0 ∧ sp_ft a v n t (sp_L a u) = true
      · rw [if_pos c, if_pos c]
        have := (sp_bits8 u hu t (by omega) c.1).1.1
        rw [show 8 - sp_p8 (u ||| 2 ^ t) = f by omega]
      · rw [if_neg c, if_neg c]
theorem sp_wy_le {a v : Nat → Nat} {n : Nat} (h0 : a 0 ≤ 8) : ∀ (f u : Nat), sp_wy a v n f u ≤ 8 ^ f
  | 0, u => by unfold sp_wy; split <;> simp
  | f + 1, u => by
    unfold sp_wy
    have hp : 0 < 8 ^ f := Nat.pow_pos (by decide)
    rw [Nat.pow_succ]
    split
    · omega
    · have h1 : sp_sg (fun t => if u / 2 ^ t % 2 = 0 ∧ sp_ft a v n t (sp_L a u) = true then sp_wy a v n f (u ||| 2 ^ t) else 0) (a 0) ≤ a 0 * 8 ^ f := sp_sg_le (fun i hi => by
        split
        · exact sp_wy_le h0 f _
        · omega)
      have h2 : a 0 * 8 ^ f ≤ 8 * 8 ^ f := Nat.mul_le_mul_right _ h0
      omega
theorem sp_W_le {a v : Nat → Nat} {n : Nat} (h0 : a 0 ≤ 8) (u : Nat) : sp_W a v n u ≤ 16777216 := by
  have h1 := sp_wy_le (v := v) (n := n) h0 (8 - sp_p8 u) u
  have h2 : 8 ^ (8 - sp_p8 u) ≤ 8 ^ 8 := Nat.pow_le_pow_right (by decide) (by omega)
  unfold sp_W
  have : 8 ^ 8 = 16777216 := by decide
  omega
theorem sp_ls_or {a : Nat → Nat} {u t : Nat} (hu : u < 256) (ht : t < 8) (hb : u / 2 ^ t % 2 = 0) : ∀ {m : Nat}, m ≤ 8 → sp_ls a (u ||| 2 ^ t) m = sp_ls a u m + if t < m then a (81 + t) else 0
  | 0, _ => by simp [sp_ls]
  | m + 1, hm => by
    have h1 := sp_ls_or (a := a) hu ht hb (m := m) (by omega)
    have h2 := (sp_bits8 u hu t ht hb).2 m (by omega)
    unfold sp_ls
    rw [h1, h2]
    by_cases z : m = t
    · subst z
      rw [if_neg (by omega), if_pos rfl, if_neg (by omega), if_pos hb, if_pos (by omega)]
    · have e : (if t < m + 1 then a (81 + t) else 0) = if t < m then a (81 + t) else 0 := kx_ifx (by omega) _ _
      rw [e]
      simp only [if_neg z]
      omega
theorem sp_L_or {a : Nat → Nat} (h0 : a 0 ≤ 8) {u t : Nat} (hu : u < 256) (ht : t < a 0) (hb : u / 2 ^ t % 2 = 0) : sp_L a (u ||| 2 ^ t) = sp_L a u + a (81 + t) := by
  unfold sp_L
  rw [sp_ls_or hu (by omega) hb h0, if_pos ht]
theorem kx_orn (x y : Nat) : nI x ||| nI y = nI (x ||| y) := by
  apply Int32.toBitVec_inj.1
  show BitVec.ofNat 32 x ||| BitVec.ofNat 32 y = BitVec.ofNat 32 (x ||| y)
  apply BitVec.eq_of_getLsbD_eq
  intro i hi
  simp [hi]
set_option maxHeartbeats 4000000 in
set_option maxRecDepth 100000 in
theorem m_X4_sentencesOf {h : kx_H} {a : Nat → Nat} {u : Nat} (hT : h 1 0 = nI (a 0)) (hlen : ∀ t, t < 8 → h 2 t = nI (a (81 + t))) (h0 : a 0 ≤ 8) (hu : u < 256) : kx_MI 1 yX4_sentencesOf cX4_sentencesOf 4 .int [.ref 1, .int (nI u)] h (fun r h1 => h1 = h ∧ r = nI (sp_L a u)) := by
  refine kx_mkI (own := RX4) (L0 := [some (.ref 1), some (.int (nI u)), none, none]) rfl (by decide +kernel) (Nat.le_of_ble_eq_true rfl) rfl (fun F C hR => ?_)
  have loop : ∀ (q t : Nat), a 0 - t = q → t ≤ a 0 → F 4 [some (.ref 1), some (.int (nI u)), some (.int (nI (sp_ls a u t))), some (.int (nI t))] [] h := by
    intro q
    induction q with
    | zero =>
      intro t hq ht
      refine kx_ild3 (pc := 4) C dX4_sentencesOf_4 ?_
      refine kx_ald0 (pc := 5) C dX4_sentencesOf_5 ?_
      refine kx_geti (pc := 6) C fl_X4_18 fd_1_0 (by first | assumption | rfl) dX4_sentencesOf_6 ?_
      refine kx_icmp_geN (pc := 9) C 35 (by omega) (by omega) dX4_sentencesOf_9 (by decide) (fun c9 => ?_) (fun c9 => ?_)
      · refine kx_ild2 (pc := 35) C dX4_sentencesOf_35 ?_
        exact hR dX4_sentencesOf_36 rfl ⟨rfl, by rw [sp_L, show t = a 0 by omega]⟩
      · omega
    | succ q ih =>
      intro t hq ht
      have h3 := ih (t + 1) (by omega) (by omega)
      rw [show sp_ls a u (t + 1) = sp_ls a u t + if u / 2 ^ t % 2 = 0 then 0 else a (81 + t) from rfl] at h3
      refine kx_ild3 (pc := 4) C dX4_sentencesOf_4 ?_
      refine kx_ald0 (pc := 5) C dX4_sentencesOf_5 ?_
      refine kx_geti (pc := 6) C fl_X4_18 fd_1_0 (by first | assumption | exact hlen _ (by omega) | rfl) dX4_sentencesOf_6 ?_
      refine kx_icmp_geN (pc := 9) C 35 (by omega) (by omega) dX4_sentencesOf_9 (by decide) (fun c9 => ?_) (fun c9 => ?_)
      · omega
      · refine kx_ild1 (pc := 12) C dX4_sentencesOf_12 ?_
        refine kx_ild3 (pc := 13) C dX4_sentencesOf_13 ?_
        refine kx_ishr (pc := 14) C dX4_sentencesOf_14 ?_
        refine kx_iconst (pc := 15) C (v := nI 1) dX4_sentencesOf_15 (by decide) ?_
        refine kx_iand (pc := 16) C dX4_sentencesOf_16 ?_
        rw [kx_bit (by omega) (by omega)]
        refine kx_if_eqN (pc := 17) C 29 (by omega) dX4_sentencesOf_17 (by decide) (fun c17 => ?_) (fun c17 => ?_)
        · first | refine kx_inc3 (pc := 29) C (v := nI (_ + 1)) dX4_sentencesOf_29 (by decide) rfl (nI_1 _) ?_ | refine kx_inc3 (pc := 29) C dX4_sentencesOf_29 (by decide) rfl rfl ?_
          refine kx_goto (pc := 32) C 4 dX4_sentencesOf_32 (by decide) ?_
          first | (rw [if_pos c17, Nat.add_zero] at h3; exact h3) | (rw [if_neg (by omega)] at h3; exact h3)
        · refine kx_ild2 (pc := 20) C dX4_sentencesOf_20 ?_
          refine kx_ald0 (pc := 21) C dX4_sentencesOf_21 ?_
          refine kx_getr (pc := 22) C fl_X4_42 fd_1_5 dX4_sentencesOf_22 ?_
          refine kx_ild3 (pc := 25) C dX4_sentencesOf_25 ?_
          refine kx_iald (pc := 26) C ia_2 (by omega) (by first | assumption | exact hlen _ (by omega) | rfl) dX4_sentencesOf_26 ?_
          first | refine kx_iaddN (pc := 27) C dX4_sentencesOf_27 ?_ | refine kx_iadd (pc := 27) C dX4_sentencesOf_27 ?_
          refine kx_ist2 (pc := 28) C dX4_sentencesOf_28 (by decide) rfl ?_
          first | refine kx_inc3 (pc := 29) C (v := nI (_ + 1)) dX4_sentencesOf_29 (by decide) rfl (nI_1 _) ?_ | refine kx_inc3 (pc := 29) C dX4_sentencesOf_29 (by decide) rfl rfl ?_
          refine kx_goto (pc := 32) C 4 dX4_sentencesOf_32 (by decide) ?_
          first | (rw [if_pos c17, Nat.add_zero] at h3; exact h3) | (rw [if_neg (by omega)] at h3; exact h3)
  refine kx_iconst (pc := 0) C (v := nI 0) dX4_sentencesOf_0 (by decide) ?_
  refine kx_ist2 (pc := 1) C dX4_sentencesOf_1 (by decide) rfl ?_
  refine kx_iconst (pc := 2) C (v := nI 0) dX4_sentencesOf_2 (by decide) ?_
  refine kx_ist3 (pc := 3) C dX4_sentencesOf_3 (by decide) rfl ?_
  exact loop (a 0) 0 (by omega) (by omega)
set_option maxHeartbeats 4000000 in
set_option maxRecDepth 100000 in
theorem m_X4_fits {h : kx_H} {a v : Nat → Nat} {n t p : Nat} (hRD : st_RD 2 4 12 h a) (hRB : st_RB a) (ht : t < 8) (hn : n ≤ 16) (hp : p ≤ 72) (hv : ∀ i, i < n → h 56 i = nI (v i)) (hv3 : ∀ i, i < n → v i ≤ 9) : kx_MI 2 yX4_fits cX4_fits 7 .boolean [.ref 1, .int (nI t), .ref 56, .int (nI n), .int (nI p)] h (fun r h1 => h1 = h ∧ r = if sp_ft a v n t p = true then 1 else 0) := by
  refine kx_mkI (own := RX4) (L0 := [some (.ref 1), some (.int (nI t)), some (.ref 56), some (.int (nI n)), some (.int (nI p)), none, none]) rfl (by decide +kernel) (Nat.le_of_ble_eq_true rfl) rfl (fun F C hR => ?_)
  obtain ⟨hlen, hten, hkd⟩ := id hRD
  have l1 := hRB.1 t ht
  have loop : ∀ (q i : Nat), p + a (81 + t) ≤ n → a (81 + t) - i = q → i ≤ a (81 + t) → (∀ j, j < i → decide (a (9 + 9 * t + j) / 3 = v (p + j)) = true) → F 22 [some (.ref 1), some (.int (nI t)), some (.ref 56), some (.int (nI n)), some (.int (nI p)), some (.int (nI (a (81 + t)))), some (.int (nI i))] [] h := by
    intro q
    induction q with
    | zero =>
      intro i hpn hq hi hb
      refine kx_ild6 (pc := 22) C dX4_fits_22 ?_
      refine kx_ild5 (pc := 24) C dX4_fits_24 ?_
      refine kx_icmp_geN (pc := 26) C 59 (by omega) (by omega) dX4_fits_26 (by decide) (fun c26 => ?_) (fun c26 => ?_)
      · refine kx_iconst (pc := 59) C (v := nI 1) dX4_fits_59 (by decide) ?_
        exact hR dX4_fits_60 rfl ⟨rfl, by rw [if_pos (by rw [sp_ft, decide_eq_true hpn, Bool.true_and]; exact sp_all_iff.mpr (fun j hj => hb j (by omega)))]; rfl⟩
      · omega
    | succ q ih =>
      intro i hpn hq hi hb
      have b3 := hRB.2.1 t i ht (by omega)
      have b4 := hv3 (p + i) (by omega)
      refine kx_ild6 (pc := 22) C dX4_fits_22 ?_
      refine kx_ild5 (pc := 24) C dX4_fits_24 ?_
      refine kx_icmp_geN (pc := 26) C 59 (by omega) (by omega) dX4_fits_26 (by decide) (fun c26 => ?_) (fun c26 => ?_)
      · omega
      · refine kx_ald0 (pc := 29) C dX4_fits_29 ?_
        refine kx_getr (pc := 30) C fl_X4_49 fd_1_6 dX4_fits_30 ?_
        refine kx_ild1 (pc := 33) C dX4_fits_33 ?_
        refine kx_aald1 (pc := 34) C ra_3 (by omega) dX4_fits_34 ?_
        refine kx_ild6 (pc := 35) C dX4_fits_35 ?_
        refine kx_iald (pc := 37) C (if_ten _ (by omega)) (by omega) (hten _ _ (by omega) (by omega)) dX4_fits_37 ?_
        refine kx_callNI1 (pc := 38) C cs_X4_53 (m_X8_sortOf (by omega)) (by decide) dX4_fits_38 (Nat.le_of_ble_eq_true rfl) (fun r38 h38 q38 => ?_)
        obtain ⟨z38, rfl⟩ := q38
        have z38 := z38.symm
        subst z38
        refine kx_ald2 (pc := 41) C dX4_fits_41 ?_
        refine kx_ild4 (pc := 42) C dX4_fits_42 ?_
        refine kx_ild6 (pc := 44) C dX4_fits_44 ?_
        refine kx_iaddN (pc := 46) C dX4_fits_46 ?_
        refine kx_iald (pc := 47) C ia_56 (by omega) (hv _ (by omega)) dX4_fits_47 ?_
        refine kx_icmp_eqN (pc := 48) C 53 (by omega) (by omega) dX4_fits_48 (by decide) (fun c48 => ?_) (fun c48 => ?_)
        · first | refine kx_inc6 (pc := 53) C (v := nI (_ + 1)) dX4_fits_53 (by decide) rfl (nI_1 _) ?_ | refine kx_inc6 (pc := 53) C dX4_fits_53 (by decide) rfl rfl ?_
          refine kx_goto (pc := 56) C 22 dX4_fits_56 (by decide) ?_
          exact ih (i + 1) hpn (by omega) (by omega) (fun j hj => by
            rcases Nat.lt_or_ge j i with y | y
            · exact hb j y
            · rw [show j = i by omega]; exact decide_eq_true c48)
        · refine kx_iconst (pc := 51) C (v := nI 0) dX4_fits_51 (by decide) ?_
          have no : ¬ sp_ft a v n t p = true := fun z => by
            unfold sp_ft at z
            rw [Bool.and_eq_true] at z
            have := sp_all_iff.mp z.2 i (by omega)
            simp only [decide_eq_true_eq] at this
            exact c48 this
          exact hR dX4_fits_52 rfl ⟨rfl, by rw [if_neg no]; rfl⟩
  refine kx_ald0 (pc := 0) C dX4_fits_0 ?_
  refine kx_getr (pc := 1) C fl_X4_42 fd_1_5 dX4_fits_1 ?_
  refine kx_ild1 (pc := 4) C dX4_fits_4 ?_
  refine kx_iald (pc := 5) C ia_2 (by omega) (hlen _ (by omega)) dX4_fits_5 ?_
  refine kx_ist5 (pc := 6) C dX4_fits_6 (by decide) rfl ?_
  refine kx_ild4 (pc := 8) C dX4_fits_8 ?_
  refine kx_ild5 (pc := 10) C dX4_fits_10 ?_
  refine kx_iaddN (pc := 12) C dX4_fits_12 ?_
  refine kx_ild3 (pc := 13) C dX4_fits_13 ?_
  refine kx_icmp_leN (pc := 14) C 19 (by omega) (by omega) dX4_fits_14 (by decide) (fun c14 => ?_) (fun c14 => ?_)
  · refine kx_iconst (pc := 19) C (v := nI 0) dX4_fits_19 (by decide) ?_
    refine kx_ist6 (pc := 20) C dX4_fits_20 (by decide) rfl ?_
    exact loop _ 0 c14 rfl (by omega) (fun j hj => absurd hj (by omega))
  · refine kx_iconst (pc := 17) C (v := nI 0) dX4_fits_17 (by decide) ?_
    exact hR dX4_fits_18 rfl ⟨rfl, by rw [if_neg (by unfold sp_ft; rw [decide_eq_false (by omega), Bool.false_and]; decide)]; rfl⟩
/-- what is read, and of what -/
def st_RR (h : kx_H) (a v : Nat → Nat) (n : Nat) : Prop := h 1 0 = nI (a 0) ∧ st_RD 2 4 12 h a ∧ ∀ i, i < n → h 56 i = nI (v i)
theorem st_RR.kept {h g : kx_H} {a v : Nat → Nat} {n : Nat} (hr : st_RR h a v n) (hg : ∀ d j, (d < 112 ∨ 114 < d) → g d j = h d j) : st_RR g a v n :=
  ⟨by rw [hg 1 0 (by omega)]; exact hr.1, hr.2.1.kept2 (fun j => hg 2 j (by omega)) (fun d j h1 h2 => hg d j (by omega)) (fun j => hg 12 j (by omega)), fun i hi => by rw [hg 56 i (by omega)]; exact hr.2.2 i hi⟩
def sp_g (a v : Nat → Nat) (n u : Nat) (t : Nat) : Nat := if u / 2 ^ t % 2 = 0 ∧ sp_ft a v n t (sp_L a u) = true then sp_W a v n (u ||| 2 ^ t) else 0
theorem sp_or_lt : ∀ T, T ≤ 8 → ∀ u, u < 2 ^ T → ∀ t, t < T → u ||| 2 ^ t < 2 ^ T := by
  have : ∀ T, T < 9 → ∀ u, u < 2 ^ T → ∀ t, t < T → u ||| 2 ^ t < 2 ^ T := by decide +kernel
  intro T hT
  exact this T (by omega)
theorem sp_2T {T : Nat} (h : T ≤ 8) : 2 ^ T ≤ 256 := Nat.pow_le_pow_right (n := 2) (by decide) h
set_option maxHeartbeats 4000000 in
set_option maxRecDepth 100000 in
theorem m_X4_waysOn {h : kx_H} {a v : Nat → Nat} {n u : Nat} (hRR : st_RR h a v n) (hRB : st_RB a) (h0 : a 0 ≤ 8) (hn : n ≤ 16) (hv3 : ∀ i, i < n → v i ≤ 9) (hu : u < 2 ^ a 0) (hw : ∀ x, u < x → x < 2 ^ a 0 → h 113 x = nI (sp_W a v n x)) : kx_MI 3 yX4_waysOn cX4_waysOn 8 .int [.ref 112, .ref 1, .ref 56, .int (nI n), .int (nI u), .int (nI (sp_L a u))] h (fun r h1 => h1 = h ∧ r = nI (sp_sg (sp_g a v n u) (a 0))) := by
  refine kx_mkI (own := RX4) (L0 := [some (.ref 112), some (.ref 1), some (.ref 56), some (.int (nI n)), some (.int (nI u)), some (.int (nI (sp_L a u))), none, none]) rfl (by decide +kernel) (Nat.le_of_ble_eq_true rfl) rfl (fun F C hR => ?_)
  obtain ⟨hT, hRD, hv⟩ := id hRR
  have h256 := sp_2T h0
  have hL := sp_L_le hRB h0 u
  have loop : ∀ (q t : Nat), a 0 - t = q → t ≤ a 0 → F 6 [some (.ref 112), some (.ref 1), some (.ref 56), some (.int (nI n)), some (.int (nI u)), some (.int (nI (sp_L a u))), some (.int (nI (sp_sg (sp_g a v n u) t))), some (.int (nI t))] [] h := by
    intro q
    induction q with
    | zero =>
      intro t hq ht
      refine kx_ild7 (pc := 6) C dX4_waysOn_6 ?_
      refine kx_ald1 (pc := 8) C dX4_waysOn_8 ?_
      refine kx_geti (pc := 9) C fl_X4_18 fd_1_0 (by first | assumption | rfl) dX4_waysOn_9 ?_
      refine kx_icmp_geN (pc := 12) C 61 (by omega) (by omega) dX4_waysOn_12 (by decide) (fun c12 => ?_) (fun c12 => ?_)
      · refine kx_ild6 (pc := 61) C dX4_waysOn_61 ?_
        exact hR dX4_waysOn_63 rfl ⟨rfl, by rw [show t = a 0 by omega]⟩
      · omega
    | succ q ih =>
      intro t hq ht
      have h3 := ih (t + 1) (by omega) (by omega)
      rw [show sp_sg (sp_g a v n u) (t + 1) = sp_sg (sp_g a v n u) t + sp_g a v n u t from rfl] at h3
      have gz : ¬ (u / 2 ^ t % 2 = 0 ∧ sp_ft a v n t (sp_L a u) = true) → sp_g a v n u t = 0 := fun z => if_neg z
      have gy : (u / 2 ^ t % 2 = 0 ∧ sp_ft a v n t (sp_L a u) = true) → sp_g a v n u t = sp_W a v n (u ||| 2 ^ t) := fun z => if_pos z
      refine kx_ild7 (pc := 6) C dX4_waysOn_6 ?_
      refine kx_ald1 (pc := 8) C dX4_waysOn_8 ?_
      refine kx_geti (pc := 9) C fl_X4_18 fd_1_0 (by first | assumption | rfl) dX4_waysOn_9 ?_
      refine kx_icmp_geN (pc := 12) C 61 (by omega) (by omega) dX4_waysOn_12 (by decide) (fun c12 => ?_) (fun c12 => ?_)
      · omega
      · refine kx_ild4 (pc := 15) C dX4_waysOn_15 ?_
        refine kx_ild7 (pc := 17) C dX4_waysOn_17 ?_
        refine kx_ishr (pc := 19) C dX4_waysOn_19 ?_
        refine kx_iconst (pc := 20) C (v := nI 1) dX4_waysOn_20 (by decide) ?_
        refine kx_iand (pc := 21) C dX4_waysOn_21 ?_
        rw [kx_bit (by omega) (by omega)]
        refine kx_if_neN (pc := 22) C 55 (by omega) dX4_waysOn_22 (by decide) (fun c22 => ?_) (fun c22 => ?_)
        · first | refine kx_inc7 (pc := 55) C (v := nI (_ + 1)) dX4_waysOn_55 (by decide) rfl (nI_1 _) ?_ | refine kx_inc7 (pc := 55) C dX4_waysOn_55 (by decide) rfl rfl ?_
          refine kx_goto (pc := 58) C 6 dX4_waysOn_58 (by decide) ?_
          first
            | (rw [gz (fun z => by have := z.1; omega), Nat.add_zero] at h3; exact h3)
            | (rw [gz (fun z => kx_if0 c35 z.2), Nat.add_zero] at h3; exact h3)
            | (rw [gy ⟨c22, kx_if1 c35⟩] at h3; exact h3)
        · have hb8 := sp_bits8 u (by omega) t (by omega) c22
          have hor := sp_or_lt (a 0) h0 u hu t (by omega)
          refine kx_ald1 (pc := 25) C dX4_waysOn_25 ?_
          refine kx_ild7 (pc := 26) C dX4_waysOn_26 ?_
          refine kx_ald2 (pc := 28) C dX4_waysOn_28 ?_
          refine kx_ild3 (pc := 29) C dX4_waysOn_29 ?_
          refine kx_ild5 (pc := 30) C dX4_waysOn_30 ?_
          refine kx_callSI5 (pc := 32) C cs_X4_45 (m_X4_fits hRD hRB (by omega) hn (by omega) hv hv3) (by decide) dX4_waysOn_32 (Nat.le_of_ble_eq_true rfl) (fun r32 h32 q32 => ?_)
          obtain ⟨z32, rfl⟩ := q32
          have z32 := z32.symm
          subst z32
          refine kx_if_eq (pc := 35) C 55 dX4_waysOn_35 (by decide) (fun c35 => ?_) (fun c35 => ?_)
          · first | refine kx_inc7 (pc := 55) C (v := nI (_ + 1)) dX4_waysOn_55 (by decide) rfl (nI_1 _) ?_ | refine kx_inc7 (pc := 55) C dX4_waysOn_55 (by decide) rfl rfl ?_
            refine kx_goto (pc := 58) C 6 dX4_waysOn_58 (by decide) ?_
            first
              | (rw [gz (fun z => by have := z.1; omega), Nat.add_zero] at h3; exact h3)
              | (rw [gz (fun z => kx_if0 c35 z.2), Nat.add_zero] at h3; exact h3)
              | (rw [gy ⟨c22, kx_if1 c35⟩] at h3; exact h3)
          · refine kx_ild6 (pc := 38) C dX4_waysOn_38 ?_
            refine kx_ald0 (pc := 40) C dX4_waysOn_40 ?_
            refine kx_getr (pc := 41) C fl_X4_9 fd_112_0 dX4_waysOn_41 ?_
            refine kx_ild4 (pc := 44) C dX4_waysOn_44 ?_
            refine kx_iconst (pc := 46) C (v := nI 1) dX4_waysOn_46 (by decide) ?_
            refine kx_ild7 (pc := 47) C dX4_waysOn_47 ?_
            refine kx_ishl (pc := 49) C dX4_waysOn_49 ?_
            rw [kx_sl1 (by omega)]
            refine kx_ior (pc := 50) C dX4_waysOn_50 ?_
            rw [kx_orn]
            refine kx_iald (pc := 51) C ia_113 (by omega) (hw _ (by omega) hor) dX4_waysOn_51 ?_
            first | refine kx_iaddN (pc := 52) C dX4_waysOn_52 ?_ | refine kx_iadd (pc := 52) C dX4_waysOn_52 ?_
            refine kx_ist6 (pc := 53) C dX4_waysOn_53 (by decide) rfl ?_
            first | refine kx_inc7 (pc := 55) C (v := nI (_ + 1)) dX4_waysOn_55 (by decide) rfl (nI_1 _) ?_ | refine kx_inc7 (pc := 55) C dX4_waysOn_55 (by decide) rfl rfl ?_
            refine kx_goto (pc := 58) C 6 dX4_waysOn_58 (by decide) ?_
            first
              | (rw [gz (fun z => by have := z.1; omega), Nat.add_zero] at h3; exact h3)
              | (rw [gz (fun z => kx_if0 c35 z.2), Nat.add_zero] at h3; exact h3)
              | (rw [gy ⟨c22, kx_if1 c35⟩] at h3; exact h3)
  refine kx_iconst (pc := 0) C (v := nI 0) dX4_waysOn_0 (by decide) ?_
  refine kx_ist6 (pc := 1) C dX4_waysOn_1 (by decide) rfl ?_
  refine kx_iconst (pc := 3) C (v := nI 0) dX4_waysOn_3 (by decide) ?_
  refine kx_ist7 (pc := 4) C dX4_waysOn_4 (by decide) rfl ?_
  exact loop (a 0) 0 (by omega) (by omega)
/-- the tale that goes on first behind the set u (a 0: none) -/
def sp_nx (a v : Nat → Nat) (n u : Nat) : Nat := sp_fst (fun t => decide (0 < sp_g a v n u t)) (a 0)
set_option maxHeartbeats 4000000 in
set_option maxRecDepth 100000 in
theorem m_X4_firstOn {h : kx_H} {a v : Nat → Nat} {n u : Nat} (hRR : st_RR h a v n) (hRB : st_RB a) (h0 : a 0 ≤ 8) (hn : n ≤ 16) (hv3 : ∀ i, i < n → v i ≤ 9) (hu : u < 2 ^ a 0) (hw : ∀ x, x < 2 ^ a 0 → h 113 x = nI (sp_W a v n x)) : kx_MI 3 yX4_firstOn cX4_firstOn 7 .int [.ref 112, .ref 1, .ref 56, .int (nI n), .int (nI u), .int (nI (sp_L a u))] h (fun r h1 => h1 = h ∧ r = if sp_nx a v n u < a 0 then nI (sp_nx a v n u) else -1) := by
  refine kx_mkI (own := RX4) (L0 := [some (.ref 112), some (.ref 1), some (.ref 56), some (.int (nI n)), some (.int (nI u)), some (.int (nI (sp_L a u))), none]) rfl (by decide +kernel) (Nat.le_of_ble_eq_true rfl) rfl (fun F C hR => ?_)
  obtain ⟨hT, hRD, hv⟩ := id hRR
  have h256 := sp_2T h0
  have hL := sp_L_le hRB h0 u
  have loop : ∀ (q t : Nat), a 0 - t = q → t ≤ a 0 → (∀ i, i < t → decide (0 < sp_g a v n u i) = false) → F 3 [some (.ref 112), some (.ref 1), some (.ref 56), some (.int (nI n)), some (.int (nI u)), some (.int (nI (sp_L a u))), some (.int (nI t))] [] h := by
    intro q
    induction q with
    | zero =>
      intro t hq ht hb
      refine kx_ild6 (pc := 3) C dX4_firstOn_3 ?_
      refine kx_ald1 (pc := 5) C dX4_firstOn_5 ?_
      refine kx_geti (pc := 6) C fl_X4_18 fd_1_0 (by first | assumption | rfl) dX4_firstOn_6 ?_
      refine kx_icmp_geN (pc := 9) C 59 (by omega) (by omega) dX4_firstOn_9 (by decide) (fun c9 => ?_) (fun c9 => ?_)
      · refine kx_iconst (pc := 59) C (v := -1) dX4_firstOn_59 (by decide) ?_
        exact hR dX4_firstOn_60 rfl ⟨rfl, by rw [sp_nx, sp_fst_none (fun i hi => hb i (by omega)), if_neg (by omega)]⟩
      · omega
    | succ q ih =>
      intro t hq ht hb
      have go : ∀ z : ¬ 0 < sp_g a v n u t, F 3 [some (.ref 112), some (.ref 1), some (.ref 56), some (.int (nI n)), some (.int (nI u)), some (.int (nI (sp_L a u))), some (.int (nI (t + 1)))] [] h := fun z => ih (t + 1) (by omega) (by omega) (fun i hi => by
        rcases Nat.lt_or_ge i t with y | y
        · exact hb i y
        · rw [show i = t by omega]; exact decide_eq_false z)
      have gz : ¬ (u / 2 ^ t % 2 = 0 ∧ sp_ft a v n t (sp_L a u) = true) → sp_g a v n u t = 0 := fun z => if_neg z
      have gy : (u / 2 ^ t % 2 = 0 ∧ sp_ft a v n t (sp_L a u) = true) → sp_g a v n u t = sp_W a v n (u ||| 2 ^ t) := fun z => if_pos z
      have hWl := sp_W_le (v := v) (n := n) h0 (u ||| 2 ^ t)
      refine kx_ild6 (pc := 3) C dX4_firstOn_3 ?_
      refine kx_ald1 (pc := 5) C dX4_firstOn_5 ?_
      refine kx_geti (pc := 6) C fl_X4_18 fd_1_0 (by first | assumption | rfl) dX4_firstOn_6 ?_
      refine kx_icmp_geN (pc := 9) C 59 (by omega) (by omega) dX4_firstOn_9 (by decide) (fun c9 => ?_) (fun c9 => ?_)
      · omega
      · refine kx_ild4 (pc := 12) C dX4_firstOn_12 ?_
        refine kx_ild6 (pc := 14) C dX4_firstOn_14 ?_
        refine kx_ishr (pc := 16) C dX4_firstOn_16 ?_
        refine kx_iconst (pc := 17) C (v := nI 1) dX4_firstOn_17 (by decide) ?_
        refine kx_iand (pc := 18) C dX4_firstOn_18 ?_
        rw [kx_bit (by omega) (by omega)]
        refine kx_if_neN (pc := 19) C 53 (by omega) dX4_firstOn_19 (by decide) (fun c19 => ?_) (fun c19 => ?_)
        · first | refine kx_inc6 (pc := 53) C (v := nI (_ + 1)) dX4_firstOn_53 (by decide) rfl (nI_1 _) ?_ | refine kx_inc6 (pc := 53) C dX4_firstOn_53 (by decide) rfl rfl ?_
          refine kx_goto (pc := 56) C 3 dX4_firstOn_56 (by decide) ?_
          first
            | exact go (by rw [gz (fun z => by have := z.1; omega)]; omega)
            | exact go (by rw [gz (fun z => kx_if0 c32 z.2)]; omega)
            | exact go (by rw [gy ⟨c19, kx_if1 c32⟩]; omega)
        · have hb8 := sp_bits8 u (by omega) t (by omega) c19
          have hor := sp_or_lt (a 0) h0 u hu t (by omega)
          refine kx_ald1 (pc := 22) C dX4_firstOn_22 ?_
          refine kx_ild6 (pc := 23) C dX4_firstOn_23 ?_
          refine kx_ald2 (pc := 25) C dX4_firstOn_25 ?_
          refine kx_ild3 (pc := 26) C dX4_firstOn_26 ?_
          refine kx_ild5 (pc := 27) C dX4_firstOn_27 ?_
          refine kx_callSI5 (pc := 29) C cs_X4_45 (m_X4_fits hRD hRB (by omega) hn (by omega) hv hv3) (by decide) dX4_firstOn_29 (Nat.le_of_ble_eq_true rfl) (fun r29 h29 q29 => ?_)
          obtain ⟨z29, rfl⟩ := q29
          have z29 := z29.symm
          subst z29
          refine kx_if_eq (pc := 32) C 53 dX4_firstOn_32 (by decide) (fun c32 => ?_) (fun c32 => ?_)
          · first | refine kx_inc6 (pc := 53) C (v := nI (_ + 1)) dX4_firstOn_53 (by decide) rfl (nI_1 _) ?_ | refine kx_inc6 (pc := 53) C dX4_firstOn_53 (by decide) rfl rfl ?_
            refine kx_goto (pc := 56) C 3 dX4_firstOn_56 (by decide) ?_
            first
              | exact go (by rw [gz (fun z => by have := z.1; omega)]; omega)
              | exact go (by rw [gz (fun z => kx_if0 c32 z.2)]; omega)
              | exact go (by rw [gy ⟨c19, kx_if1 c32⟩]; omega)
          · refine kx_ald0 (pc := 35) C dX4_firstOn_35 ?_
            refine kx_getr (pc := 36) C fl_X4_9 fd_112_0 dX4_firstOn_36 ?_
            refine kx_ild4 (pc := 39) C dX4_firstOn_39 ?_
            refine kx_iconst (pc := 41) C (v := nI 1) dX4_firstOn_41 (by decide) ?_
            refine kx_ild6 (pc := 42) C dX4_firstOn_42 ?_
            refine kx_ishl (pc := 44) C dX4_firstOn_44 ?_
            rw [kx_sl1 (by omega)]
            refine kx_ior (pc := 45) C dX4_firstOn_45 ?_
            rw [kx_orn]
            refine kx_iald (pc := 46) C ia_113 (by omega) (hw _ hor) dX4_firstOn_46 ?_
            refine kx_if_leN (pc := 47) C 53 (by omega) dX4_firstOn_47 (by decide) (fun c47 => ?_) (fun c47 => ?_)
            · first | refine kx_inc6 (pc := 53) C (v := nI (_ + 1)) dX4_firstOn_53 (by decide) rfl (nI_1 _) ?_ | refine kx_inc6 (pc := 53) C dX4_firstOn_53 (by decide) rfl rfl ?_
              refine kx_goto (pc := 56) C 3 dX4_firstOn_56 (by decide) ?_
              first
                | exact go (by rw [gz (fun z => by have := z.1; omega)]; omega)
                | exact go (by rw [gz (fun z => kx_if0 c32 z.2)]; omega)
                | exact go (by rw [gy ⟨c19, kx_if1 c32⟩]; omega)
            · refine kx_ild6 (pc := 50) C dX4_firstOn_50 ?_
              exact hR dX4_firstOn_52 rfl ⟨rfl, by rw [sp_nx, sp_fst_at (k := t) (decide_eq_true (by rw [gy ⟨c19, kx_if1 c32⟩]; omega)) hb (by omega), if_pos (by omega)]⟩
  refine kx_iconst (pc := 0) C (v := nI 0) dX4_firstOn_0 (by decide) ?_
  refine kx_ist6 (pc := 1) C dX4_firstOn_1 (by decide) rfl ?_
  exact loop (a 0) 0 (by omega) (by omega) (fun i hi => absurd hi (by omega))
