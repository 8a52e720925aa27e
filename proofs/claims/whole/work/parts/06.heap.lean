/-! cells: which fields, which arrays -/
def kx_vw (ci : Nat) : vw_C := vwCl.getD ci (RX0, TX0, 0)
def kx_fd (i ci k : Nat) (f : Option Nat) : Prop := i < 142 ∧ (kx_sh i).1 = 0 ∧ (kx_sh i).2.1 = ci ∧ (kx_sh i).2.2.2.2[k]? = some f
def kx_ob (i ci : Nat) : Prop := i < 142 ∧ (kx_sh i).1 = 0 ∧ (kx_sh i).2.1 = ci
def kx_ia (i n : Nat) : Prop := i < 142 ∧ (kx_sh i).1 = 1 ∧ (kx_sh i).2.1 = n ∧ n < 1000
def kx_za (i n : Nat) : Prop := i < 142 ∧ (kx_sh i).1 = 2 ∧ (kx_sh i).2.1 = n ∧ n < 1000
def kx_ra (i b st n : Nat) : Prop := i < 142 ∧ ((kx_sh i).1 = 3 ∨ (kx_sh i).1 = 4) ∧ (kx_sh i).2.1 = b ∧ (kx_sh i).2.2.1 = st ∧ (kx_sh i).2.2.2.1 = n ∧ n < 1000
/-- a field reference: of class ci the k-th field, as the tables have it -/
def kx_FL (own : String) (idx ci k : Nat) : Prop := vwCl[ci]? = some (kx_vw ci) ∧ k < (kx_vw ci).2.2 ∧ Cond.fieldLink own idx ((kx_vw ci).2.1 k).1 ((kx_vw ci).2.1 k).2.1 ((kx_vw ci).2.1 k).2.2.1 ∈ kx_tb ∧ ∀ w ∈ u_ws (kx_vw ci).1 (kx_vw ci).2.1 (kx_vw ci).2.2, w ∈ kx_tb
/-- one that is written: not final, of a type -/
def kx_FP (ci k : Nat) (ty : FieldType) : Prop := ((kx_vw ci).2.1 k).2.2.2 = false ∧ parseFieldDescriptor ((kx_vw ci).2.1 k).2.2.1 = some ty ∧ (∃ ty0 : Nat → FieldType, ∀ j, j < (kx_vw ci).2.2 → parseFieldDescriptor ((kx_vw ci).2.1 j).2.2.1 = some (ty0 j)) ∧ ∀ a, a < (kx_vw ci).2.2 → ∀ b, b < (kx_vw ci).2.2 → a ≠ b → ((kx_vw ci).2.1 a).2.1 ≠ ((kx_vw ci).2.1 b).2.1
theorem kx_cell_o {ad : Nat → Nat} {c : ClassId} {f : Nat → Int32} {s : kx_S} (h : s.1 = 0) : kx_cell ad c f s = .inr (s.2.1, kx_fs ad f 0 s.2.2.2.2) := if_pos h
theorem kx_cell_i {ad : Nat → Nat} {c : ClassId} {f : Nat → Int32} {s : kx_S} (h : s.1 = 1 ∨ s.1 = 2) : kx_cell ad c f s = .inl (c, s.2.1, .inl f) := by
  unfold kx_cell
  rw [if_neg (by omega), if_pos h]
theorem kx_cell_r {ad : Nat → Nat} {c : ClassId} {f : Nat → Int32} {s : kx_S} (h : s.1 = 3 ∨ s.1 = 4) : kx_cell ad c f s = .inl (c, s.2.2.2.1, .inr (.inr (.inr (.inr (fun j => some (ad (s.2.1 + s.2.2.1 * j))))))) := by
  unfold kx_cell
  rw [if_neg (by omega), if_neg (by omega)]
theorem kx_up_o {h : kx_H} {i k : Nat} {v : Int32} (b : Nat) (hb : b ≠ i) : kx_up h i k v b = h b := by
  funext j
  simp [kx_up, hb]
theorem kx_up_i {h : kx_H} {i k : Nat} {v : Int32} : kx_up h i k v i = fun j => if j = k then v else h i j := by
  funext j
  simp [kx_up]
theorem kx_in_nI {j n : Nat} (h : j < n) (hn : n < 1000) : vp_in (nI j) n := vp_in_nI h (by omega)
theorem kx_cl_nI {j n : Nat} (h : j < n) (hn : n < 1000) : (nI j).toNatClampNeg = j := nI_clamp (by omega)

theorem kx_geti {own : String} {cc : ByteArray} {nL dp : Nat} {F : kx_F} (C : kx_Ru own cc nL dp F) {pc : Nat} {L : List (Option Value)} {S : List Value} {h : kx_H} {idx i ci k : Nat} {v : Int32} (fl : kx_FL own idx ci k) (ho : kx_fd i ci k none) (hv : h i k = v) (d : decode cc pc = .ok (.getfield idx, 3)) (kk : F (pc + 3) L (.int v :: S) h) : F pc L (.ref i :: S) h := by
  obtain ⟨p, l, e, R, s, m, args, below, meth, c, cells, slots, Q, D, ad, cA, A, ⟨hx, hb, hml, hown, hts⟩, hN, hK, hJ, hA, hR, rfl⟩ := C
  intro H locs ls hP hS hl
  obtain ⟨f1, f2, f3, f4⟩ := fl
  obtain ⟨o1, o2, o3, o4⟩ := ho
  subst hv
  have he := kx_wl_at (ad := ad) (cA := cA) (h := h) o1
  rw [kx_cell_o o2, o3] at he
  have hv := kx_fs_int ad (h i) 0 _ k o4
  rw [Nat.zero_add] at hv
  exact va_get hx hb hts f4 hown hK hP i he f1 k f2 (hts _ f3) (fun _ z => z) hv d (kk H locs ls hP hS hl)
theorem kx_getr {own : String} {cc : ByteArray} {nL dp : Nat} {F : kx_F} (C : kx_Ru own cc nL dp F) {pc : Nat} {L : List (Option Value)} {S : List Value} {h : kx_H} {idx i ci k j : Nat} (fl : kx_FL own idx ci k) (ho : kx_fd i ci k (some j)) (d : decode cc pc = .ok (.getfield idx, 3)) (kk : F (pc + 3) L (.ref j :: S) h) : F pc L (.ref i :: S) h := by
  obtain ⟨p, l, e, R, s, m, args, below, meth, c, cells, slots, Q, D, ad, cA, A, ⟨hx, hb, hml, hown, hts⟩, hN, hK, hJ, hA, hR, rfl⟩ := C
  intro H locs ls hP hS hl
  obtain ⟨f1, f2, f3, f4⟩ := fl
  obtain ⟨o1, o2, o3, o4⟩ := ho
  have he := kx_wl_at (ad := ad) (cA := cA) (h := h) o1
  rw [kx_cell_o o2, o3] at he
  have hv := kx_fs_ref ad (h i) 0 _ k j o4
  exact va_get hx hb hts f4 hown hK hP i he f1 k f2 (hts _ f3) (fun _ z => z) hv d (kk H locs ls hP hS hl)
theorem kx_puti {own : String} {cc : ByteArray} {nL dp : Nat} {F : kx_F} (C : kx_Ru own cc nL dp F) {pc : Nat} {L : List (Option Value)} {S : List Value} {h : kx_H} {idx i ci k : Nat} {ty : FieldType} {v : Int32} (fl : kx_FL own idx ci k) (fp : kx_FP ci k ty) (ho : kx_fd i ci k none) (hn : narrow ty (.int v) = .int v) (hf : fits ty (.int v) = true) (d : decode cc pc = .ok (.putfield idx, 3)) (kk : F (pc + 3) L S (kx_up h i k v)) : F pc L (.int v :: .ref i :: S) h := by
  obtain ⟨p, l, e, R, s, m, args, below, meth, c, cells, slots, Q, D, ad, cA, A, ⟨hx, hb, hml, hown, hts⟩, hN, hK, hJ, hA, hR, rfl⟩ := C
  intro H locs ls hP hS hl
  obtain ⟨f1, f2, f3, f4⟩ := fl
  obtain ⟨o1, o2, o3, o4⟩ := ho
  obtain ⟨p1, p2, ⟨ty0, p3⟩, p4⟩ := fp
  have he := kx_wl_at (ad := ad) (cA := cA) (h := h) o1
  rw [kx_cell_o o2, o3] at he
  have hl2 : k < (kx_fs ad (h i) 0 (kx_sh i).2.2.2.2).length := by rw [kx_fs_len]; exact (List.getElem?_eq_some_iff.mp o4).1
  have hset := kx_fs_set ad (h i) v 0 _ k o4
  rw [Nat.zero_add] at hset
  refine va_put (v := .int v) hx hb hts f4 ty0 p3 p4 hown hK hP (kx_wl_D hJ hA) hS i he f1 k f2 (hts _ f3) (fun _ z => z) p1 p2 hn hf hl2 d (fun H1 locs1 hP1 hD1 hS1 => ?_)
  rw [hset, kx_wl_set (h' := kx_up h i k v) o1 (by rw [kx_cell_o o2, o3, kx_up_i]) (fun b hb => kx_up_o b hb)] at hP1
  exact kk H1 locs1 ls hP1 hS1 hl
theorem kx_iald {own : String} {cc : ByteArray} {nL dp : Nat} {F : kx_F} (C : kx_Ru own cc nL dp F) {pc : Nat} {L : List (Option Value)} {S : List Value} {h : kx_H} {i j n : Nat} {v : Int32} (hs : kx_ia i n) (hj : j < n) (hv : h i j = v) (d : decode cc pc = .ok (.iaload, 1)) (kk : F (pc + 1) L (.int v :: S) h) : F pc L (.int (nI j) :: .ref i :: S) h := by
  obtain ⟨p, l, e, R, s, m, args, below, meth, c, cells, slots, Q, D, ad, cA, A, ⟨hx, hb, hml, hown, hts⟩, hN, hK, hJ, hA, hR, rfl⟩ := C
  intro H locs ls hP hS hl
  obtain ⟨o1, o2, o3, o4⟩ := hs
  subst hv
  have he := kx_wl_at (ad := ad) (cA := cA) (h := h) o1
  rw [kx_cell_i (Or.inl o2), o3] at he
  have ht := kx_tys_at (cA := cA) o1
  rw [show kx_ty i = .int by simp [kx_ty, o2]] at ht
  refine va_iald hx hb hK hP i i he ht (kx_in_nI hj o4) d ?_
  rw [kx_cl_nI hj o4]
  exact kk H locs ls hP hS hl
theorem kx_zald {own : String} {cc : ByteArray} {nL dp : Nat} {F : kx_F} (C : kx_Ru own cc nL dp F) {pc : Nat} {L : List (Option Value)} {S : List Value} {h : kx_H} {i j n : Nat} {v : Int32} (hs : kx_za i n) (hj : j < n) (hv : h i j = v) (d : decode cc pc = .ok (.baload, 1)) (kk : F (pc + 1) L (.int v :: S) h) : F pc L (.int (nI j) :: .ref i :: S) h := by
  obtain ⟨p, l, e, R, s, m, args, below, meth, c, cells, slots, Q, D, ad, cA, A, ⟨hx, hb, hml, hown, hts⟩, hN, hK, hJ, hA, hR, rfl⟩ := C
  intro H locs ls hP hS hl
  obtain ⟨o1, o2, o3, o4⟩ := hs
  subst hv
  have he := kx_wl_at (ad := ad) (cA := cA) (h := h) o1
  rw [kx_cell_i (Or.inr o2), o3] at he
  have ht := kx_tys_at (cA := cA) o1
  rw [show kx_ty i = .boolean by simp [kx_ty, o2]] at ht
  refine va_zald hx hb hK hP i i he ht (kx_in_nI hj o4) d ?_
  rw [kx_cl_nI hj o4]
  exact kk H locs ls hP hS hl
theorem kx_iast {own : String} {cc : ByteArray} {nL dp : Nat} {F : kx_F} (C : kx_Ru own cc nL dp F) {pc : Nat} {L : List (Option Value)} {S : List Value} {h : kx_H} {i j n : Nat} {v : Int32} (hs : kx_ia i n) (hj : j < n) (d : decode cc pc = .ok (.iastore, 1)) (kk : F (pc + 1) L S (kx_up h i j v)) : F pc L (.int v :: .int (nI j) :: .ref i :: S) h := by
  obtain ⟨p, l, e, R, s, m, args, below, meth, c, cells, slots, Q, D, ad, cA, A, ⟨hx, hb, hml, hown, hts⟩, hN, hK, hJ, hA, hR, rfl⟩ := C
  intro H locs ls hP hS hl
  obtain ⟨o1, o2, o3, o4⟩ := hs
  have he := kx_wl_at (ad := ad) (cA := cA) (h := h) o1
  rw [kx_cell_i (Or.inl o2), o3] at he
  have ht := kx_tys_at (cA := cA) o1
  rw [show kx_ty i = .int by simp [kx_ty, o2]] at ht
  refine va_iast hx hb hK hP (kx_wl_D hJ hA) hS i i he ht (kx_in_nI hj o4) d (fun H1 locs1 hP1 hD1 hS1 => ?_)
  rw [kx_cl_nI hj o4, kx_wl_set (h' := kx_up h i j v) o1 (by rw [kx_cell_i (Or.inl o2), o3, kx_up_i]; rfl) (fun b hb => kx_up_o b hb)] at hP1
  exact kk H1 locs1 ls hP1 hS1 hl
theorem kx_zast {own : String} {cc : ByteArray} {nL dp : Nat} {F : kx_F} (C : kx_Ru own cc nL dp F) {pc : Nat} {L : List (Option Value)} {S : List Value} {h : kx_H} {i j n : Nat} {v : Int32} (hs : kx_za i n) (hj : j < n) (hv : v = 0 ∨ v = 1) (d : decode cc pc = .ok (.bastore, 1)) (kk : F (pc + 1) L S (kx_up h i j v)) : F pc L (.int v :: .int (nI j) :: .ref i :: S) h := by
  obtain ⟨p, l, e, R, s, m, args, below, meth, c, cells, slots, Q, D, ad, cA, A, ⟨hx, hb, hml, hown, hts⟩, hN, hK, hJ, hA, hR, rfl⟩ := C
  intro H locs ls hP hS hl
  obtain ⟨o1, o2, o3, o4⟩ := hs
  have he := kx_wl_at (ad := ad) (cA := cA) (h := h) o1
  rw [kx_cell_i (Or.inr o2), o3] at he
  have ht := kx_tys_at (cA := cA) o1
  rw [show kx_ty i = .boolean by simp [kx_ty, o2]] at ht
  have hvn : vp_nar .boolean v = v := by rcases hv with rfl | rfl <;> rfl
  refine va_zast hx hb hK hP (kx_wl_D hJ hA) hS i i he ht (kx_in_nI hj o4) d (fun H1 locs1 hP1 hD1 hS1 => ?_)
  rw [hvn, kx_cl_nI hj o4, kx_wl_set (h' := kx_up h i j v) o1 (by rw [kx_cell_i (Or.inr o2), o3, kx_up_i]; rfl) (fun b hb => kx_up_o b hb)] at hP1
  exact kk H1 locs1 ls hP1 hS1 hl
theorem kx_aald {own : String} {cc : ByteArray} {nL dp : Nat} {F : kx_F} (C : kx_Ru own cc nL dp F) {pc : Nat} {L : List (Option Value)} {S : List Value} {h : kx_H} {i j b st n : Nat} (hs : kx_ra i b st n) (hj : j < n) (d : decode cc pc = .ok (.aaload, 1)) (kk : F (pc + 1) L (.ref (b + st * j) :: S) h) : F pc L (.int (nI j) :: .ref i :: S) h := by
  obtain ⟨p, l, e, R, s, m, args, below, meth, c, cells, slots, Q, D, ad, cA, A, ⟨hx, hb, hml, hown, hts⟩, hN, hK, hJ, hA, hR, rfl⟩ := C
  intro H locs ls hP hS hl
  obtain ⟨o1, o2, o3, o5, o6, o4⟩ := hs
  have he := kx_wl_at (ad := ad) (cA := cA) (h := h) o1
  rw [kx_cell_r o2, o3, o5, o6] at he
  have ht := kx_tys_at (cA := cA) o1
  have hty : (kx_ty i).isReference = true := by
    rcases o2 with o2 | o2 <;> simp [kx_ty, o2, FieldType.isReference]
  have hin : vp_in (nI j) n := kx_in_nI hj o4
  have hlt : (nI j).toNatClampNeg < n := by rw [kx_cl_nI hj o4]; exact hj
  refine W.aald (v := .ref (ad (b + st * j))) (ty := kx_ty i) hx hb (hP i _ he) ((hK.2 i _ ht).1 n (fun q => va_rf (some (ad (b + st * q))))) hty (fun q => by cases q) (by show ¬ ((nI j) < 0 ∨ (arrV _ _ _).slots.size ≤ _); rw [arrV_size]; exact hin) (by show (arrV _ _ _).slots[_]? = _; rw [arrV_read _ _ hlt, kx_cl_nI hj o4]; rfl) rfl rfl d ?_
  exact kk H locs ls hP hS hl
theorem kx_cp_i {h : kx_H} {a b sp dp n : Nat} : kx_cp h a b sp dp n b = va_cpy (h a) (h b) sp dp n := by
  funext k
  simp [kx_cp, va_cpy]
theorem kx_cp_o {h : kx_H} {a b sp dp n : Nat} (q : Nat) (hq : q ≠ b) : kx_cp h a b sp dp n q = h q := by
  funext k
  simp [kx_cp, hq]
/-- the tables' words on System.arraycopy -/
def kx_AC (own : String) (idx : Nat) : Prop := Cond.methodLink own idx arraycopyName ∈ kx_tb ∧ Cond.native arraycopyName ∈ kx_tb ∧ Cond.static arraycopyName ∈ kx_tb ∧ Cond.initialized "java/lang/System" ∈ kx_tb
theorem kx_cpy {own : String} {cc : ByteArray} {nL dp : Nat} {F : kx_F} (C : kx_Ru own cc nL dp F) {pc : Nat} {L : List (Option Value)} {S : List Value} {h : kx_H} {idx a b sp q n na nb : Nat} (ac : kx_AC own idx) (h1 : kx_ia a na) (h2 : kx_ia b nb) (hdp : 1 ≤ dp) (h3 : sp + n ≤ na) (h4 : q + n ≤ nb) (hcat : (S.map fun v => v.category).sum ≤ 8) (d : decode cc pc = .ok (.invokestatic idx, 3)) (kk : F (pc + 3) L S (kx_cp h a b sp q n)) : F pc L (.int (nI n) :: .int (nI q) :: .ref b :: .int (nI sp) :: .ref a :: S) h := by
  obtain ⟨p, l, e, R, s, m, args, below, meth, c, cells, slots, Q, D, ad, cA, A, ⟨hx, hb, hml, hown, hts⟩, hN, hK, hJ, hA, hR, rfl⟩ := C
  intro H locs ls hP hS hl
  obtain ⟨a1, a2, a3, a4⟩ := ac
  obtain ⟨o1, o2, o3, o4⟩ := h1
  obtain ⟨u1, u2, u3, u4⟩ := h2
  have he := kx_wl_at (ad := ad) (cA := cA) (h := h) o1
  rw [kx_cell_i (Or.inl o2), o3] at he
  have ht := kx_tys_at (cA := cA) o1
  rw [show kx_ty a = .int by simp [kx_ty, o2]] at ht
  have he2 := kx_wl_at (ad := ad) (cA := cA) (h := h) u1
  rw [kx_cell_i (Or.inl u2), u3] at he2
  have ht2 := kx_tys_at (cA := cA) u1
  rw [show kx_ty b = .int by simp [kx_ty, u2]] at ht2
  have e1 : (nI sp).toNatClampNeg = sp := nI_clamp (by omega)
  have e2 : (nI q).toNatClampNeg = q := nI_clamp (by omega)
  have e3 : (nI n).toNatClampNeg = n := nI_clamp (by omega)
  have hcat2 : ((S.map (kx_val ad)).map fun v => v.category).sum ≤ 8 := by
    rw [List.map_map]
    have : ((fun v : Value => v.category) ∘ kx_val ad) = fun v => v.category := funext fun v => kx_val_cat ad v
    rw [this]
    exact hcat
  refine va_copyi hx hb (by rw [hml]; exact hl.1.symm) hown (hts _ a1) (hts _ a2) (hts _ a3) (hts _ a4) hK hP (kx_wl_D hJ hA) hS a b a b he he2 ht ht2 rfl (nI_pos (by omega)) (nI_pos (by omega)) (nI_pos (by omega)) (by rw [e1, e3]; exact h3) (by rw [e2, e3]; exact h4) (fun _ _ => rfl) (by omega) (by
    have hw : nativeFrameWords "java/lang/System" "arraycopy" 5 + 11 ≤ 32 := by decide +kernel
    omega) d (fun H1 locs1 hP1 hD1 hS1 => ?_)
  rw [e1, e2, e3, kx_wl_set (h' := kx_cp h a b sp q n) u1 (by rw [kx_cell_i (Or.inl u2), u3, kx_cp_i]) (fun c hc => kx_cp_o c hc)] at hP1
  exact kk H1 locs1 ls hP1 hS1 hl
