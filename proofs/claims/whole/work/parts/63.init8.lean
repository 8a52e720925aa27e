theorem mk_2 : (Cond.classLink RX8 7 RX2 ∈ kx_tb ∧ Cond.instantiable RX2 14 ∈ kx_tb ∧ Cond.initialized RX2 ∈ kx_tb) ∧ Cond.code yX2_init cX2_init 1 none ∈ kx_tb ∧ Cond.instanceMethod yX2_init ∈ kx_tb ∧ kx_nm yX2_init 0 := ⟨⟨(kx_t1 22 (by decide +kernel) rfl), (kx_t1 23 (by decide +kernel) rfl), (kx_t1 2 (by decide +kernel) rfl)⟩, (kx_t1 26 (by decide +kernel) rfl), (kx_t1 25 (by decide +kernel) rfl), by unfold kx_nm; decide +kernel⟩
theorem fz_ok_2 : ∀ j, j < 14 → defaultValue (tyX2 j) = vp_V fz_2 j := by
  intro j hj
  match j, hj with
  | 0, _ => rfl
  | 1, _ => rfl
  | 2, _ => rfl
  | 3, _ => rfl
  | 4, _ => rfl
  | 5, _ => rfl
  | 6, _ => rfl
  | 7, _ => rfl
  | 8, _ => rfl
  | 9, _ => rfl
  | 10, _ => rfl
  | 11, _ => rfl
  | 12, _ => rfl
  | 13, _ => rfl
  | j + 14, hj => omega
theorem mk_7 : (Cond.classLink RX8 19 RX7 ∈ kx_tb ∧ Cond.instantiable RX7 2 ∈ kx_tb ∧ Cond.initialized RX7 ∈ kx_tb) ∧ Cond.code yX7_init cX7_init 1 none ∈ kx_tb ∧ Cond.instanceMethod yX7_init ∈ kx_tb ∧ kx_nm yX7_init 0 := ⟨⟨(kx_t1 106 (by decide +kernel) rfl), (kx_t1 107 (by decide +kernel) rfl), (kx_t1 3 (by decide +kernel) rfl)⟩, (kx_t1 110 (by decide +kernel) rfl), (kx_t1 109 (by decide +kernel) rfl), by unfold kx_nm; decide +kernel⟩
theorem fz_ok_7 : ∀ j, j < 2 → defaultValue (tyX7 j) = vp_V fz_7 j := by
  intro j hj
  match j, hj with
  | 0, _ => rfl
  | 1, _ => rfl
  | j + 2, hj => omega
theorem mk_6 : (Cond.classLink RX8 39 RX6 ∈ kx_tb ∧ Cond.instantiable RX6 11 ∈ kx_tb ∧ Cond.initialized RX6 ∈ kx_tb) ∧ Cond.code yX6_init cX6_init 1 none ∈ kx_tb ∧ Cond.instanceMethod yX6_init ∈ kx_tb ∧ kx_nm yX6_init 0 := ⟨⟨(kx_t1 122 (by decide +kernel) rfl), (kx_t1 123 (by decide +kernel) rfl), (kx_t1 4 (by decide +kernel) rfl)⟩, (kx_t1 126 (by decide +kernel) rfl), (kx_t1 125 (by decide +kernel) rfl), by unfold kx_nm; decide +kernel⟩
theorem fz_ok_6 : ∀ j, j < 11 → defaultValue (tyX6 j) = vp_V fz_6 j := by
  intro j hj
  match j, hj with
  | 0, _ => rfl
  | 1, _ => rfl
  | 2, _ => rfl
  | 3, _ => rfl
  | 4, _ => rfl
  | 5, _ => rfl
  | 6, _ => rfl
  | 7, _ => rfl
  | 8, _ => rfl
  | 9, _ => rfl
  | 10, _ => rfl
  | j + 11, hj => omega
theorem mk_0 : (Cond.classLink RX8 46 RX0 ∈ kx_tb ∧ Cond.instantiable RX0 9 ∈ kx_tb ∧ Cond.initialized RX0 ∈ kx_tb) ∧ Cond.code yX0_init cX0_init 1 none ∈ kx_tb ∧ Cond.instanceMethod yX0_init ∈ kx_tb ∧ kx_nm yX0_init 0 := ⟨⟨(kx_t1 164 (by decide +kernel) rfl), (kx_t1 165 (by decide +kernel) rfl), (kx_t1 5 (by decide +kernel) rfl)⟩, (kx_t1 168 (by decide +kernel) rfl), (kx_t1 167 (by decide +kernel) rfl), by unfold kx_nm; decide +kernel⟩
theorem fz_ok_0 : ∀ j, j < 9 → defaultValue (tyX0 j) = vp_V fz_0 j := by
  intro j hj
  match j, hj with
  | 0, _ => rfl
  | 1, _ => rfl
  | 2, _ => rfl
  | 3, _ => rfl
  | 4, _ => rfl
  | 5, _ => rfl
  | 6, _ => rfl
  | 7, _ => rfl
  | 8, _ => rfl
  | j + 9, hj => omega
theorem mk_4 : (Cond.classLink RX8 53 RX4 ∈ kx_tb ∧ Cond.instantiable RX4 4 ∈ kx_tb ∧ Cond.initialized RX4 ∈ kx_tb) ∧ Cond.code yX4_init cX4_init 1 none ∈ kx_tb ∧ Cond.instanceMethod yX4_init ∈ kx_tb ∧ kx_nm yX4_init 0 := ⟨⟨(kx_t1 202 (by decide +kernel) rfl), (kx_t1 203 (by decide +kernel) rfl), (kx_t1 6 (by decide +kernel) rfl)⟩, (kx_t1 206 (by decide +kernel) rfl), (kx_t1 205 (by decide +kernel) rfl), by unfold kx_nm; decide +kernel⟩
theorem fz_ok_4 : ∀ j, j < 4 → defaultValue (tyX4 j) = vp_V fz_4 j := by
  intro j hj
  match j, hj with
  | 0, _ => rfl
  | 1, _ => rfl
  | 2, _ => rfl
  | 3, _ => rfl
  | j + 4, hj => omega
theorem mk_3 : (Cond.classLink RX8 60 RX3 ∈ kx_tb ∧ Cond.instantiable RX3 9 ∈ kx_tb ∧ Cond.initialized RX3 ∈ kx_tb) ∧ Cond.code yX3_init cX3_init 1 none ∈ kx_tb ∧ Cond.instanceMethod yX3_init ∈ kx_tb ∧ kx_nm yX3_init 0 := ⟨⟨(kx_t1 224 (by decide +kernel) rfl), (kx_t1 225 (by decide +kernel) rfl), (kx_t1 7 (by decide +kernel) rfl)⟩, (kx_t1 228 (by decide +kernel) rfl), (kx_t1 227 (by decide +kernel) rfl), by unfold kx_nm; decide +kernel⟩
theorem fz_ok_3 : ∀ j, j < 9 → defaultValue (tyX3 j) = vp_V fz_3 j := by
  intro j hj
  match j, hj with
  | 0, _ => rfl
  | 1, _ => rfl
  | 2, _ => rfl
  | 3, _ => rfl
  | 4, _ => rfl
  | 5, _ => rfl
  | 6, _ => rfl
  | 7, _ => rfl
  | 8, _ => rfl
  | j + 9, hj => omega
theorem mk_1 : (Cond.classLink RX8 67 RX1 ∈ kx_tb ∧ Cond.instantiable RX1 4 ∈ kx_tb ∧ Cond.initialized RX1 ∈ kx_tb) ∧ Cond.code yX1_init cX1_init 1 none ∈ kx_tb ∧ Cond.instanceMethod yX1_init ∈ kx_tb ∧ kx_nm yX1_init 0 := ⟨⟨(kx_t1 261 (by decide +kernel) rfl), (kx_t1 262 (by decide +kernel) rfl), (kx_t1 8 (by decide +kernel) rfl)⟩, (kx_t1 265 (by decide +kernel) rfl), (kx_t1 264 (by decide +kernel) rfl), by unfold kx_nm; decide +kernel⟩
theorem fz_ok_1 : ∀ j, j < 4 → defaultValue (tyX1 j) = vp_V fz_1 j := by
  intro j hj
  match j, hj with
  | 0, _ => rfl
  | 1, _ => rfl
  | 2, _ => rfl
  | 3, _ => rfl
  | j + 4, hj => omega
theorem mk_5 : (Cond.classLink RX8 26 RX5 ∈ kx_tb ∧ Cond.instantiable RX5 3 ∈ kx_tb ∧ Cond.initialized RX5 ∈ kx_tb) ∧ Cond.code yX5_init cX5_init 1 none ∈ kx_tb ∧ Cond.instanceMethod yX5_init ∈ kx_tb ∧ kx_nm yX5_init 0 := ⟨⟨(kx_t1 120 (by decide +kernel) rfl), (kx_t1 282 (by decide +kernel) rfl), (kx_t1 9 (by decide +kernel) rfl)⟩, (kx_t1 285 (by decide +kernel) rfl), (kx_t1 284 (by decide +kernel) rfl), by unfold kx_nm; decide +kernel⟩
theorem fz_ok_5 : ∀ j, j < 3 → defaultValue (tyX5 j) = vp_V fz_5 j := by
  intro j hj
  match j, hj with
  | 0, _ => rfl
  | 1, _ => rfl
  | 2, _ => rfl
  | j + 3, hj => omega
set_option maxHeartbeats 8000000 in
set_option maxRecDepth 100000 in
theorem in_X8 (l : Launch) (D : va_G) (K4 : Nat → ClassId) (h0 sz : Nat) : Met l yX8_init (.code yX8_init cX8_init 2 none :: kx_tb) { frames := 2, cells := 126, slots := 1156, locals := 32 } (va_Pc [.ref h0] (fun U => kz_Pre D K4 8 fz_8 h0 sz U ∧ kz_N8 U)) (va_Qv (fun _ : Unit => True) (kz_Po D K4 hk_8 sh_8 h0 sz 126) (kz_A h0 sz)) 126 1156 (kz_A h0 sz) := by
  refine Met.ofW (cc := cX8_init) (maxL := 2) (ret := none) (by decide +kernel) rfl ?_
  intro p e s m args below meth c s₁ B hml hv
  obtain ⟨rfl, ⟨hz, hlt, hP, hK, hov⟩, hN8⟩ := hv
  have hx := B.exec
  have hb := B.bytes
  have hr := B.returns
  have hts0 := atoms_spec (ws := .code yX8_init cX8_init 2 none :: kx_tb) B.pre
  have hts : ∀ w ∈ kx_tb, w.before #[Value.ref h0] s = true := fun w hw => hts0 w (List.mem_cons_of_mem _ hw)
  have hown : s.vm.findClass RX8 = some m.cls := findClass_of_methodNamed B.named
  have hlocks := B.notSynchronized
  have hin : meth.name = "<init>" := (name_of_methodNamed B.named B.method).1
  have hS : va_S (kz_A h0 sz) s.heap s.heap [] := va_S.rf
  have hA : ∀ q, s.heap.size ≤ q → kz_A h0 sz q := fun q hq => Or.inr (by omega)
  have hP : va_P D vwCl ((h0, .inr (8, fz_8)) :: kz_r (kz_ad h0 sz) K4 hk_8 sh_8 1 0) s.heap := hP
  have hz : s.heap.size = sz + 0 := hz
  have hl := lv_entry ([.ref h0]) (n := 2) (Nat.le_of_ble_eq_true rfl)
  rw [lg_entry_eq]
  generalize (lg_sl ([.ref h0]) ++ List.replicate (2 - (lg_sl ([.ref h0])).length) Slot.unset).toArray = ls at hl ⊢
  have hl : lv_has ls 2 [(0, .ref h0)] := hl
  refine lv_aload_n hx hb dX8_init_0 rfl (lv_at hl 0 rfl) ?_
  refine W.objInit hx hb hown (hts (.methodLink RX8 1 objectInit) (kx_t1 19 (by decide +kernel) rfl)) (hts (.instanceMethod objectInit) (kx_t1 20 (by decide +kernel) rfl)) (hts (.code objectInit ⟨#[0xb1]⟩ 1 none) (kx_t1 21 (by decide +kernel) rfl)) rfl (by rw [hml]; exact hl.1) rfl dX8_init_1 (Nat.le_of_ble_eq_true rfl) (Nat.le_of_ble_eq_true rfl) ?_
  refine W.eq (g2 := F0 m 4 ls []) rfl ?_
  refine lv_aload_n hx hb dX8_init_4 rfl (lv_at hl 0 rfl) ?_
  refine kz_mk (z := sz + 0) ⟨hx, hb, hml, hown, hts⟩ ly_X2 tyX2 tyX2_ok mk_2.1.1 mk_2.1.2.1 mk_2.1.2.2 rfl fz_ok_2 in_X2 mk_2.2.1 mk_2.2.2.1 rfl rfl mk_2.2.2.2 (hN8.2 _ (List.mem_of_getElem? (i := 0) rfl)) hK hov hP hz hS hA (Nat.le_of_ble_eq_true rfl) (Nat.le_of_ble_eq_true rfl) (Nat.le_of_ble_eq_true rfl) (Nat.le_of_ble_eq_true rfl) hl.1 (Nat.le_of_ble_eq_true rfl) dX8_init_5 dX8_init_8 dX8_init_9 (fun H locs hz hP hS => ?_)
  have hP := kz_pushm hP (kz_part (h0 := h0) (sz := sz) (b := 1) (n := 22) (K4 := K4) (h := hk_8) (h2 := hk_2) (sh := sh_8) (sh2 := sh_2) (by omega) (kz_alls (by decide +kernel)) (fun j hj k => by unfold hk_8 hk_2; rw [kx_ifx (show ((1 + j = 1 ∨ 1 + j = 23) ∧ k = 4) ↔ (j = 0 ∧ k = 4) by omega), kx_ifx (show ((1 + j = 1 ∨ 1 + j = 23) ∧ k = 10) ↔ (j = 0 ∧ k = 10) by omega), if_neg (show ¬ ((1 + j = 119 ∨ 1 + j = 121 ∨ 1 + j = 123 ∨ 1 + j = 125) ∧ k = 0) by omega)]))
  have hz : H.size = sz + 22 := hz
  have hP : va_P D vwCl ((h0, .inr (8, [.null, .null, .int 0, .null, .null, .null, .null, .null, .null, .null, .null, .null])) :: kz_r (kz_ad h0 sz) K4 hk_8 sh_8 1 22) H := hP
  refine W.widen (k := 22) (n := 162) (Nat.le_of_ble_eq_true rfl) (Nat.le_of_ble_eq_true rfl) ?_
  refine kz_put (C := RX8) (T := TX8) (N := 12) (ci := 8) (ty := (.object "SpunTales$Hearth")) hx hb hts ly_X8 tyX8 tyX8_ok nmX8 hown hK hP (kz_D (D := D) hlt) hz hS rfl 0 (by decide) (hts _ fl_X8_10.2.2.1) (fun _ h9 => h9) (Or.inr ⟨rfl, hin, rfl⟩) (by decide +kernel) rfl rfl (Nat.le_of_ble_eq_true rfl) dX8_init_12 (fun H locs hz hP hS => ?_)
  have hP : va_P D vwCl ((h0, .inr (8, [.ref (sz + 0), .null, .int 0, .null, .null, .null, .null, .null, .null, .null, .null, .null])) :: kz_r (kz_ad h0 sz) K4 hk_8 sh_8 1 22) H := hP
  refine lv_aload_n hx hb dX8_init_15 rfl (lv_at hl 0 rfl) ?_
  refine kz_mk (z := sz + 22) ⟨hx, hb, hml, hown, hts⟩ ly_X2 tyX2 tyX2_ok mk_2.1.1 mk_2.1.2.1 mk_2.1.2.2 rfl fz_ok_2 in_X2 mk_2.2.1 mk_2.2.2.1 rfl rfl mk_2.2.2.2 (hN8.2 _ (List.mem_of_getElem? (i := 0) rfl)) hK hov hP hz hS hA (Nat.le_of_ble_eq_true rfl) (Nat.le_of_ble_eq_true rfl) (Nat.le_of_ble_eq_true rfl) (Nat.le_of_ble_eq_true rfl) hl.1 (Nat.le_of_ble_eq_true rfl) dX8_init_16 dX8_init_19 dX8_init_20 (fun H locs hz hP hS => ?_)
  have hP := kz_pushm hP (kz_part (h0 := h0) (sz := sz) (b := 23) (n := 22) (K4 := K4) (h := hk_8) (h2 := hk_2) (sh := sh_8) (sh2 := sh_2) (by omega) (kz_alls (by decide +kernel)) (fun j hj k => by unfold hk_8 hk_2; rw [kx_ifx (show ((23 + j = 1 ∨ 23 + j = 23) ∧ k = 4) ↔ (j = 0 ∧ k = 4) by omega), kx_ifx (show ((23 + j = 1 ∨ 23 + j = 23) ∧ k = 10) ↔ (j = 0 ∧ k = 10) by omega), if_neg (show ¬ ((23 + j = 119 ∨ 23 + j = 121 ∨ 23 + j = 123 ∨ 23 + j = 125) ∧ k = 0) by omega)]))
  have hz : H.size = sz + 44 := hz
  have hP : va_P D vwCl ((h0, .inr (8, [.ref (sz + 0), .null, .int 0, .null, .null, .null, .null, .null, .null, .null, .null, .null])) :: kz_r (kz_ad h0 sz) K4 hk_8 sh_8 1 44) H := hP
  refine W.widen (k := 44) (n := 324) (Nat.le_of_ble_eq_true rfl) (Nat.le_of_ble_eq_true rfl) ?_
  refine kz_put (C := RX8) (T := TX8) (N := 12) (ci := 8) (ty := (.object "SpunTales$Hearth")) hx hb hts ly_X8 tyX8 tyX8_ok nmX8 hown hK hP (kz_D (D := D) hlt) hz hS rfl 1 (by decide) (hts _ fl_X8_16.2.2.1) (fun _ h9 => h9) (Or.inr ⟨rfl, hin, rfl⟩) (by decide +kernel) rfl rfl (Nat.le_of_ble_eq_true rfl) dX8_init_23 (fun H locs hz hP hS => ?_)
  have hP : va_P D vwCl ((h0, .inr (8, [.ref (sz + 0), .ref (sz + 22), .int 0, .null, .null, .null, .null, .null, .null, .null, .null, .null])) :: kz_r (kz_ad h0 sz) K4 hk_8 sh_8 1 44) H := hP
  refine lv_aload_n hx hb dX8_init_26 rfl (lv_at hl 0 rfl) ?_
  refine kz_mk (z := sz + 44) ⟨hx, hb, hml, hown, hts⟩ ly_X7 tyX7 tyX7_ok mk_7.1.1 mk_7.1.2.1 mk_7.1.2.2 rfl fz_ok_7 in_X7 mk_7.2.1 mk_7.2.2.1 rfl rfl mk_7.2.2.2 (hN8.2 _ (List.mem_of_getElem? (i := 1) rfl)) hK hov hP hz hS hA (Nat.le_of_ble_eq_true rfl) (Nat.le_of_ble_eq_true rfl) (Nat.le_of_ble_eq_true rfl) (Nat.le_of_ble_eq_true rfl) hl.1 (Nat.le_of_ble_eq_true rfl) dX8_init_27 dX8_init_30 dX8_init_31 (fun H locs hz hP hS => ?_)
  have hP := kz_pushm hP (kz_part (h0 := h0) (sz := sz) (b := 45) (n := 2) (K4 := K4) (h := hk_8) (h2 := hk_7) (sh := sh_8) (sh2 := sh_7) (by omega) (kz_alls (by decide +kernel)) (fun j hj k => by unfold hk_8; rw [if_neg (show ¬ ((45 + j = 1 ∨ 45 + j = 23) ∧ k = 4) by omega), if_neg (show ¬ ((45 + j = 1 ∨ 45 + j = 23) ∧ k = 10) by omega), if_neg (show ¬ ((45 + j = 119 ∨ 45 + j = 121 ∨ 45 + j = 123 ∨ 45 + j = 125) ∧ k = 0) by omega)]; rfl))
  have hz : H.size = sz + 46 := hz
  have hP : va_P D vwCl ((h0, .inr (8, [.ref (sz + 0), .ref (sz + 22), .int 0, .null, .null, .null, .null, .null, .null, .null, .null, .null])) :: kz_r (kz_ad h0 sz) K4 hk_8 sh_8 1 46) H := hP
  refine W.widen (k := 46) (n := 350) (Nat.le_of_ble_eq_true rfl) (Nat.le_of_ble_eq_true rfl) ?_
  refine kz_put (C := RX8) (T := TX8) (N := 12) (ci := 8) (ty := (.object "SpunTales$Tape")) hx hb hts ly_X8 tyX8 tyX8_ok nmX8 hown hK hP (kz_D (D := D) hlt) hz hS rfl 3 (by decide) (hts _ fl_X8_22.2.2.1) (fun _ h9 => h9) (Or.inr ⟨rfl, hin, rfl⟩) (by decide +kernel) rfl rfl (Nat.le_of_ble_eq_true rfl) dX8_init_34 (fun H locs hz hP hS => ?_)
  have hP : va_P D vwCl ((h0, .inr (8, [.ref (sz + 0), .ref (sz + 22), .int 0, .ref (sz + 44), .null, .null, .null, .null, .null, .null, .null, .null])) :: kz_r (kz_ad h0 sz) K4 hk_8 sh_8 1 46) H := hP
  refine lv_aload_n hx hb dX8_init_37 rfl (lv_at hl 0 rfl) ?_
  refine lv_iconst (v := nI 4) hx hb dX8_init_38 (by decide) ?_
  refine kz_newq hx hb hown (hts _ (kx_t1 120 (by decide +kernel) rfl)) hN8.1 hK hP hz hS rfl (by omega) (Nat.le_of_ble_eq_true rfl) (Nat.le_of_ble_eq_true rfl) dX8_init_39 (fun H hz hP hS => ?_)
  have hP : va_P D vwCl ((h0, .inr (8, [.ref (sz + 0), .ref (sz + 22), .int 0, .ref (sz + 44), .null, .null, .null, .null, .null, .null, .null, .null])) :: (sz + 46, .inl (K4 4, 4, .inr (.inr (.inr (.inr (fun _ => none)))))) :: (kz_r (kz_ad h0 sz) K4 hk_8 sh_8 1 46 ++ kz_r (kz_ad h0 sz) K4 hk_8 sh_8 48 0)) H := kz_mem hP (fun q hq => by
    rcases List.mem_cons.mp hq with z | z
    · exact List.mem_append_left _ (List.mem_cons.mpr (Or.inl z))
    · rcases List.mem_cons.mp z with z | z
      · exact List.mem_append_right _ (List.mem_singleton.mpr z)
      · exact List.mem_append_left _ (List.mem_cons_of_mem _ (by simpa [kz_r] using z)))
  have hz : H.size = sz + 47 := hz
  refine W.widen (k := 47) (n := 354) (Nat.le_of_ble_eq_true rfl) (Nat.le_of_ble_eq_true rfl) ?_
  refine kz_put (C := RX8) (T := TX8) (N := 12) (ci := 8) (ty := (.array (.object "SpunTales$Sheet"))) hx hb hts ly_X8 tyX8 tyX8_ok nmX8 hown hK hP (kz_D2 (D := D) hlt) hz hS rfl 4 (by decide) (hts _ fl_X8_28.2.2.1) (fun _ h9 => h9) (Or.inr ⟨rfl, hin, rfl⟩) (by decide +kernel) rfl rfl (Nat.le_of_ble_eq_true rfl) dX8_init_42 (fun H locs hz hP hS => ?_)
  have hP : va_P D vwCl ((h0, .inr (8, [.ref (sz + 0), .ref (sz + 22), .int 0, .ref (sz + 44), .ref (sz + 46), .null, .null, .null, .null, .null, .null, .null])) :: (sz + 46, .inl (K4 4, 4, .inr (.inr (.inr (.inr (fun _ => none)))))) :: (kz_r (kz_ad h0 sz) K4 hk_8 sh_8 1 46 ++ kz_r (kz_ad h0 sz) K4 hk_8 sh_8 48 0)) H := hP
  refine lv_aload_n hx hb dX8_init_45 rfl (lv_at hl 0 rfl) ?_
  refine lv_bipush (v := nI 16) hx hb dX8_init_46 (by decide) ?_
  refine kz_newi hx hb (hts _ (kx_t1 105 (by decide +kernel) rfl)) hK hP hz hS rfl (by omega) (Nat.le_of_ble_eq_true rfl) (Nat.le_of_ble_eq_true rfl) dX8_init_48 (fun H hz hP hS => ?_)
  have hP := kz_push2 hP rfl
  have hz : H.size = sz + 48 := hz
  refine W.widen (k := 48) (n := 370) (Nat.le_of_ble_eq_true rfl) (Nat.le_of_ble_eq_true rfl) ?_
  refine kz_put (C := RX8) (T := TX8) (N := 12) (ci := 8) (ty := (.array .int)) hx hb hts ly_X8 tyX8 tyX8_ok nmX8 hown hK hP (kz_D2 (D := D) hlt) hz hS rfl 5 (by decide) (hts _ fl_X8_32.2.2.1) (fun _ h9 => h9) (Or.inr ⟨rfl, hin, rfl⟩) (by decide +kernel) rfl rfl (Nat.le_of_ble_eq_true rfl) dX8_init_50 (fun H locs hz hP hS => ?_)
  have hP : va_P D vwCl ((h0, .inr (8, [.ref (sz + 0), .ref (sz + 22), .int 0, .ref (sz + 44), .ref (sz + 46), .ref (sz + 47), .null, .null, .null, .null, .null, .null])) :: (sz + 46, .inl (K4 4, 4, .inr (.inr (.inr (.inr (fun _ => none)))))) :: (kz_r (kz_ad h0 sz) K4 hk_8 sh_8 1 46 ++ kz_r (kz_ad h0 sz) K4 hk_8 sh_8 48 1)) H := hP
  refine lv_aload_n hx hb dX8_init_53 rfl (lv_at hl 0 rfl) ?_
  refine lv_bipush (v := nI 18) hx hb dX8_init_54 (by decide) ?_
  refine kz_newi hx hb (hts _ (kx_t1 105 (by decide +kernel) rfl)) hK hP hz hS rfl (by omega) (Nat.le_of_ble_eq_true rfl) (Nat.le_of_ble_eq_true rfl) dX8_init_56 (fun H hz hP hS => ?_)
  have hP := kz_push2 hP rfl
  have hz : H.size = sz + 49 := hz
  refine W.widen (k := 49) (n := 388) (Nat.le_of_ble_eq_true rfl) (Nat.le_of_ble_eq_true rfl) ?_
  refine kz_put (C := RX8) (T := TX8) (N := 12) (ci := 8) (ty := (.array .int)) hx hb hts ly_X8 tyX8 tyX8_ok nmX8 hown hK hP (kz_D2 (D := D) hlt) hz hS rfl 6 (by decide) (hts _ fl_X8_36.2.2.1) (fun _ h9 => h9) (Or.inr ⟨rfl, hin, rfl⟩) (by decide +kernel) rfl rfl (Nat.le_of_ble_eq_true rfl) dX8_init_58 (fun H locs hz hP hS => ?_)
  have hP : va_P D vwCl ((h0, .inr (8, [.ref (sz + 0), .ref (sz + 22), .int 0, .ref (sz + 44), .ref (sz + 46), .ref (sz + 47), .ref (sz + 48), .null, .null, .null, .null, .null])) :: (sz + 46, .inl (K4 4, 4, .inr (.inr (.inr (.inr (fun _ => none)))))) :: (kz_r (kz_ad h0 sz) K4 hk_8 sh_8 1 46 ++ kz_r (kz_ad h0 sz) K4 hk_8 sh_8 48 2)) H := hP
  refine lv_aload_n hx hb dX8_init_61 rfl (lv_at hl 0 rfl) ?_
  refine kz_mk (z := sz + 49) ⟨hx, hb, hml, hown, hts⟩ ly_X6 tyX6 tyX6_ok mk_6.1.1 mk_6.1.2.1 mk_6.1.2.2 rfl fz_ok_6 in_X6 mk_6.2.1 mk_6.2.2.1 rfl rfl mk_6.2.2.2 (hN8.2 _ (List.mem_of_getElem? (i := 2) rfl)) hK hov hP hz hS hA (Nat.le_of_ble_eq_true rfl) (Nat.le_of_ble_eq_true rfl) (Nat.le_of_ble_eq_true rfl) (Nat.le_of_ble_eq_true rfl) hl.1 (Nat.le_of_ble_eq_true rfl) dX8_init_62 dX8_init_65 dX8_init_66 (fun H locs hz hP hS => ?_)
  have hP := kz_pushn hP (kz_part (h0 := h0) (sz := sz) (b := 50) (n := 6) (K4 := K4) (h := hk_8) (h2 := hk_6) (sh := sh_8) (sh2 := sh_6) (by omega) (kz_alls (by decide +kernel)) (fun j hj k => by unfold hk_8; rw [if_neg (show ¬ ((50 + j = 1 ∨ 50 + j = 23) ∧ k = 4) by omega), if_neg (show ¬ ((50 + j = 1 ∨ 50 + j = 23) ∧ k = 10) by omega), if_neg (show ¬ ((50 + j = 119 ∨ 50 + j = 121 ∨ 50 + j = 123 ∨ 50 + j = 125) ∧ k = 0) by omega)]; rfl))
  have hz : H.size = sz + 55 := hz
  have hP : va_P D vwCl ((h0, .inr (8, [.ref (sz + 0), .ref (sz + 22), .int 0, .ref (sz + 44), .ref (sz + 46), .ref (sz + 47), .ref (sz + 48), .null, .null, .null, .null, .null])) :: (sz + 46, .inl (K4 4, 4, .inr (.inr (.inr (.inr (fun _ => none)))))) :: (kz_r (kz_ad h0 sz) K4 hk_8 sh_8 1 46 ++ kz_r (kz_ad h0 sz) K4 hk_8 sh_8 48 8)) H := hP
  refine W.widen (k := 55) (n := 433) (Nat.le_of_ble_eq_true rfl) (Nat.le_of_ble_eq_true rfl) ?_
  refine kz_put (C := RX8) (T := TX8) (N := 12) (ci := 8) (ty := (.object "SpunTales$StoreSearch")) hx hb hts ly_X8 tyX8 tyX8_ok nmX8 hown hK hP (kz_D2 (D := D) hlt) hz hS rfl 7 (by decide) (hts _ fl_X8_42.2.2.1) (fun _ h9 => h9) (Or.inr ⟨rfl, hin, rfl⟩) (by decide +kernel) rfl rfl (Nat.le_of_ble_eq_true rfl) dX8_init_69 (fun H locs hz hP hS => ?_)
  have hP : va_P D vwCl ((h0, .inr (8, [.ref (sz + 0), .ref (sz + 22), .int 0, .ref (sz + 44), .ref (sz + 46), .ref (sz + 47), .ref (sz + 48), .ref (sz + 49), .null, .null, .null, .null])) :: (sz + 46, .inl (K4 4, 4, .inr (.inr (.inr (.inr (fun _ => none)))))) :: (kz_r (kz_ad h0 sz) K4 hk_8 sh_8 1 46 ++ kz_r (kz_ad h0 sz) K4 hk_8 sh_8 48 8)) H := hP
  refine lv_aload_n hx hb dX8_init_72 rfl (lv_at hl 0 rfl) ?_
  refine kz_mk (z := sz + 55) ⟨hx, hb, hml, hown, hts⟩ ly_X0 tyX0 tyX0_ok mk_0.1.1 mk_0.1.2.1 mk_0.1.2.2 rfl fz_ok_0 in_X0 mk_0.2.1 mk_0.2.2.1 rfl rfl mk_0.2.2.2 (hN8.2 _ (List.mem_of_getElem? (i := 3) rfl)) hK hov hP hz hS hA (Nat.le_of_ble_eq_true rfl) (Nat.le_of_ble_eq_true rfl) (Nat.le_of_ble_eq_true rfl) (Nat.le_of_ble_eq_true rfl) hl.1 (Nat.le_of_ble_eq_true rfl) dX8_init_73 dX8_init_76 dX8_init_77 (fun H locs hz hP hS => ?_)
  have hP := kz_pushn hP (kz_part (h0 := h0) (sz := sz) (b := 56) (n := 48) (K4 := K4) (h := hk_8) (h2 := hk_0) (sh := sh_8) (sh2 := sh_0) (by omega) (kz_alls (by decide +kernel)) (fun j hj k => by unfold hk_8; rw [if_neg (show ¬ ((56 + j = 1 ∨ 56 + j = 23) ∧ k = 4) by omega), if_neg (show ¬ ((56 + j = 1 ∨ 56 + j = 23) ∧ k = 10) by omega), if_neg (show ¬ ((56 + j = 119 ∨ 56 + j = 121 ∨ 56 + j = 123 ∨ 56 + j = 125) ∧ k = 0) by omega)]; rfl))
  have hz : H.size = sz + 103 := hz
  have hP : va_P D vwCl ((h0, .inr (8, [.ref (sz + 0), .ref (sz + 22), .int 0, .ref (sz + 44), .ref (sz + 46), .ref (sz + 47), .ref (sz + 48), .ref (sz + 49), .null, .null, .null, .null])) :: (sz + 46, .inl (K4 4, 4, .inr (.inr (.inr (.inr (fun _ => none)))))) :: (kz_r (kz_ad h0 sz) K4 hk_8 sh_8 1 46 ++ kz_r (kz_ad h0 sz) K4 hk_8 sh_8 48 56)) H := hP
  refine W.widen (k := 103) (n := 699) (Nat.le_of_ble_eq_true rfl) (Nat.le_of_ble_eq_true rfl) ?_
  refine kz_put (C := RX8) (T := TX8) (N := 12) (ci := 8) (ty := (.object "SpunTales$CoatSearch")) hx hb hts ly_X8 tyX8 tyX8_ok nmX8 hown hK hP (kz_D2 (D := D) hlt) hz hS rfl 8 (by decide) (hts _ fl_X8_49.2.2.1) (fun _ h9 => h9) (Or.inr ⟨rfl, hin, rfl⟩) (by decide +kernel) rfl rfl (Nat.le_of_ble_eq_true rfl) dX8_init_80 (fun H locs hz hP hS => ?_)
  have hP : va_P D vwCl ((h0, .inr (8, [.ref (sz + 0), .ref (sz + 22), .int 0, .ref (sz + 44), .ref (sz + 46), .ref (sz + 47), .ref (sz + 48), .ref (sz + 49), .ref (sz + 55), .null, .null, .null])) :: (sz + 46, .inl (K4 4, 4, .inr (.inr (.inr (.inr (fun _ => none)))))) :: (kz_r (kz_ad h0 sz) K4 hk_8 sh_8 1 46 ++ kz_r (kz_ad h0 sz) K4 hk_8 sh_8 48 56)) H := hP
  refine lv_aload_n hx hb dX8_init_83 rfl (lv_at hl 0 rfl) ?_
  refine kz_mk (z := sz + 103) ⟨hx, hb, hml, hown, hts⟩ ly_X4 tyX4 tyX4_ok mk_4.1.1 mk_4.1.2.1 mk_4.1.2.2 rfl fz_ok_4 in_X4 mk_4.2.1 mk_4.2.2.1 rfl rfl mk_4.2.2.2 (hN8.2 _ (List.mem_of_getElem? (i := 4) rfl)) hK hov hP hz hS hA (Nat.le_of_ble_eq_true rfl) (Nat.le_of_ble_eq_true rfl) (Nat.le_of_ble_eq_true rfl) (Nat.le_of_ble_eq_true rfl) hl.1 (Nat.le_of_ble_eq_true rfl) dX8_init_84 dX8_init_87 dX8_init_88 (fun H locs hz hP hS => ?_)
  have hP := kz_pushn hP (kz_part (h0 := h0) (sz := sz) (b := 104) (n := 3) (K4 := K4) (h := hk_8) (h2 := hk_4) (sh := sh_8) (sh2 := sh_4) (by omega) (kz_alls (by decide +kernel)) (fun j hj k => by unfold hk_8; rw [if_neg (show ¬ ((104 + j = 1 ∨ 104 + j = 23) ∧ k = 4) by omega), if_neg (show ¬ ((104 + j = 1 ∨ 104 + j = 23) ∧ k = 10) by omega), if_neg (show ¬ ((104 + j = 119 ∨ 104 + j = 121 ∨ 104 + j = 123 ∨ 104 + j = 125) ∧ k = 0) by omega)]; rfl))
  have hz : H.size = sz + 106 := hz
  have hP : va_P D vwCl ((h0, .inr (8, [.ref (sz + 0), .ref (sz + 22), .int 0, .ref (sz + 44), .ref (sz + 46), .ref (sz + 47), .ref (sz + 48), .ref (sz + 49), .ref (sz + 55), .null, .null, .null])) :: (sz + 46, .inl (K4 4, 4, .inr (.inr (.inr (.inr (fun _ => none)))))) :: (kz_r (kz_ad h0 sz) K4 hk_8 sh_8 1 46 ++ kz_r (kz_ad h0 sz) K4 hk_8 sh_8 48 59)) H := hP
  refine W.widen (k := 106) (n := 967) (Nat.le_of_ble_eq_true rfl) (Nat.le_of_ble_eq_true rfl) ?_
  refine kz_put (C := RX8) (T := TX8) (N := 12) (ci := 8) (ty := (.object "SpunTales$RowReading")) hx hb hts ly_X8 tyX8 tyX8_ok nmX8 hown hK hP (kz_D2 (D := D) hlt) hz hS rfl 9 (by decide) (hts _ fl_X8_56.2.2.1) (fun _ h9 => h9) (Or.inr ⟨rfl, hin, rfl⟩) (by decide +kernel) rfl rfl (Nat.le_of_ble_eq_true rfl) dX8_init_91 (fun H locs hz hP hS => ?_)
  have hP : va_P D vwCl ((h0, .inr (8, [.ref (sz + 0), .ref (sz + 22), .int 0, .ref (sz + 44), .ref (sz + 46), .ref (sz + 47), .ref (sz + 48), .ref (sz + 49), .ref (sz + 55), .ref (sz + 103), .null, .null])) :: (sz + 46, .inl (K4 4, 4, .inr (.inr (.inr (.inr (fun _ => none)))))) :: (kz_r (kz_ad h0 sz) K4 hk_8 sh_8 1 46 ++ kz_r (kz_ad h0 sz) K4 hk_8 sh_8 48 59)) H := hP
  refine lv_aload_n hx hb dX8_init_94 rfl (lv_at hl 0 rfl) ?_
  refine kz_mk (z := sz + 106) ⟨hx, hb, hml, hown, hts⟩ ly_X3 tyX3 tyX3_ok mk_3.1.1 mk_3.1.2.1 mk_3.1.2.2 rfl fz_ok_3 in_X3 mk_3.2.1 mk_3.2.2.1 rfl rfl mk_3.2.2.2 (hN8.2 _ (List.mem_of_getElem? (i := 5) rfl)) hK hov hP hz hS hA (Nat.le_of_ble_eq_true rfl) (Nat.le_of_ble_eq_true rfl) (Nat.le_of_ble_eq_true rfl) (Nat.le_of_ble_eq_true rfl) hl.1 (Nat.le_of_ble_eq_true rfl) dX8_init_95 dX8_init_98 dX8_init_99 (fun H locs hz hP hS => ?_)
  have hP := kz_pushn hP (kz_part (h0 := h0) (sz := sz) (b := 107) (n := 10) (K4 := K4) (h := hk_8) (h2 := hk_3) (sh := sh_8) (sh2 := sh_3) (by omega) (kz_alls (by decide +kernel)) (fun j hj k => by unfold hk_8; rw [if_neg (show ¬ ((107 + j = 1 ∨ 107 + j = 23) ∧ k = 4) by omega), if_neg (show ¬ ((107 + j = 1 ∨ 107 + j = 23) ∧ k = 10) by omega), if_neg (show ¬ ((107 + j = 119 ∨ 107 + j = 121 ∨ 107 + j = 123 ∨ 107 + j = 125) ∧ k = 0) by omega)]; rfl))
  have hz : H.size = sz + 116 := hz
  have hP : va_P D vwCl ((h0, .inr (8, [.ref (sz + 0), .ref (sz + 22), .int 0, .ref (sz + 44), .ref (sz + 46), .ref (sz + 47), .ref (sz + 48), .ref (sz + 49), .ref (sz + 55), .ref (sz + 103), .null, .null])) :: (sz + 46, .inl (K4 4, 4, .inr (.inr (.inr (.inr (fun _ => none)))))) :: (kz_r (kz_ad h0 sz) K4 hk_8 sh_8 1 46 ++ kz_r (kz_ad h0 sz) K4 hk_8 sh_8 48 69)) H := hP
  refine W.widen (k := 116) (n := 1035) (Nat.le_of_ble_eq_true rfl) (Nat.le_of_ble_eq_true rfl) ?_
  refine kz_put (C := RX8) (T := TX8) (N := 12) (ci := 8) (ty := (.object "SpunTales$Passing")) hx hb hts ly_X8 tyX8 tyX8_ok nmX8 hown hK hP (kz_D2 (D := D) hlt) hz hS rfl 10 (by decide) (hts _ fl_X8_63.2.2.1) (fun _ h9 => h9) (Or.inr ⟨rfl, hin, rfl⟩) (by decide +kernel) rfl rfl (Nat.le_of_ble_eq_true rfl) dX8_init_102 (fun H locs hz hP hS => ?_)
  have hP : va_P D vwCl ((h0, .inr (8, [.ref (sz + 0), .ref (sz + 22), .int 0, .ref (sz + 44), .ref (sz + 46), .ref (sz + 47), .ref (sz + 48), .ref (sz + 49), .ref (sz + 55), .ref (sz + 103), .ref (sz + 106), .null])) :: (sz + 46, .inl (K4 4, 4, .inr (.inr (.inr (.inr (fun _ => none)))))) :: (kz_r (kz_ad h0 sz) K4 hk_8 sh_8 1 46 ++ kz_r (kz_ad h0 sz) K4 hk_8 sh_8 48 69)) H := hP
  refine lv_aload_n hx hb dX8_init_105 rfl (lv_at hl 0 rfl) ?_
  refine kz_mk (z := sz + 116) ⟨hx, hb, hml, hown, hts⟩ ly_X1 tyX1 tyX1_ok mk_1.1.1 mk_1.1.2.1 mk_1.1.2.2 rfl fz_ok_1 in_X1 mk_1.2.1 mk_1.2.2.1 rfl rfl mk_1.2.2.2 (hN8.2 _ (List.mem_of_getElem? (i := 6) rfl)) hK hov hP hz hS hA (Nat.le_of_ble_eq_true rfl) (Nat.le_of_ble_eq_true rfl) (Nat.le_of_ble_eq_true rfl) (Nat.le_of_ble_eq_true rfl) hl.1 (Nat.le_of_ble_eq_true rfl) dX8_init_106 dX8_init_109 dX8_init_110 (fun H locs hz hP hS => ?_)
  have hP := kz_pushn hP (kz_part (h0 := h0) (sz := sz) (b := 117) (n := 2) (K4 := K4) (h := hk_8) (h2 := hk_1) (sh := sh_8) (sh2 := sh_1) (by omega) (kz_alls (by decide +kernel)) (fun j hj k => by unfold hk_8; rw [if_neg (show ¬ ((117 + j = 1 ∨ 117 + j = 23) ∧ k = 4) by omega), if_neg (show ¬ ((117 + j = 1 ∨ 117 + j = 23) ∧ k = 10) by omega), if_neg (show ¬ ((117 + j = 119 ∨ 117 + j = 121 ∨ 117 + j = 123 ∨ 117 + j = 125) ∧ k = 0) by omega)]; rfl))
  have hz : H.size = sz + 118 := hz
  have hP : va_P D vwCl ((h0, .inr (8, [.ref (sz + 0), .ref (sz + 22), .int 0, .ref (sz + 44), .ref (sz + 46), .ref (sz + 47), .ref (sz + 48), .ref (sz + 49), .ref (sz + 55), .ref (sz + 103), .ref (sz + 106), .null])) :: (sz + 46, .inl (K4 4, 4, .inr (.inr (.inr (.inr (fun _ => none)))))) :: (kz_r (kz_ad h0 sz) K4 hk_8 sh_8 1 46 ++ kz_r (kz_ad h0 sz) K4 hk_8 sh_8 48 71)) H := hP
  refine W.widen (k := 118) (n := 1048) (Nat.le_of_ble_eq_true rfl) (Nat.le_of_ble_eq_true rfl) ?_
  refine kz_put (C := RX8) (T := TX8) (N := 12) (ci := 8) (ty := (.object "SpunTales$Game")) hx hb hts ly_X8 tyX8 tyX8_ok nmX8 hown hK hP (kz_D2 (D := D) hlt) hz hS rfl 11 (by decide) (hts _ fl_X8_70.2.2.1) (fun _ h9 => h9) (Or.inr ⟨rfl, hin, rfl⟩) (by decide +kernel) rfl rfl (Nat.le_of_ble_eq_true rfl) dX8_init_113 (fun H locs hz hP hS => ?_)
  have hP : va_P D vwCl ((h0, .inr (8, [.ref (sz + 0), .ref (sz + 22), .int 0, .ref (sz + 44), .ref (sz + 46), .ref (sz + 47), .ref (sz + 48), .ref (sz + 49), .ref (sz + 55), .ref (sz + 103), .ref (sz + 106), .ref (sz + 116)])) :: (sz + 46, .inl (K4 4, 4, .inr (.inr (.inr (.inr (fun _ => none)))))) :: (kz_r (kz_ad h0 sz) K4 hk_8 sh_8 1 46 ++ kz_r (kz_ad h0 sz) K4 hk_8 sh_8 48 71)) H := hP
  refine lv_iconst (v := nI 0) hx hb dX8_init_116 (by decide) ?_
  refine lv_istore_n (lv' := [(1, .int (nI 0)), (0, .ref h0)]) hx hb dX8_init_117 rfl hl (by decide) rfl (fun ls hl => ?_)
  refine lv_iload_n hx hb dX8_init_118 rfl (lv_at hl 0 rfl) ?_
  refine lv_iconst (v := nI 4) hx hb dX8_init_119 (by decide) ?_
  refine lv_icmp_ge (tgt := 142) hx hb dX8_init_120 (by decide) (fun c120 => ?_) (fun c120 => ?_)
  · exact absurd c120 (by decide)
  refine lv_aload_n hx hb dX8_init_123 rfl (lv_at hl 1 rfl) ?_
  refine va_get (D := D) (ci := 8) (v := .ref (sz + 46)) (C := RX8) (T := TX8) (N := 12) hx hb hts ly_X8 hown hK hP 0 rfl rfl 4 (by decide) (hts _ fl_X8_28.2.2.1) (fun _ h9 => h9) rfl dX8_init_124 ?_
  refine lv_iload_n hx hb dX8_init_127 rfl (lv_at hl 0 rfl) ?_
  refine kz_mk (z := sz + 118) ⟨hx, hb, hml, hown, hts⟩ ly_X5 tyX5 tyX5_ok mk_5.1.1 mk_5.1.2.1 mk_5.1.2.2 rfl fz_ok_5 in_X5 mk_5.2.1 mk_5.2.2.1 rfl rfl mk_5.2.2.2 (hN8.2 _ (List.mem_of_getElem? (i := 7) rfl)) hK hov hP hz hS hA (Nat.le_of_ble_eq_true rfl) (Nat.le_of_ble_eq_true rfl) (Nat.le_of_ble_eq_true rfl) (Nat.le_of_ble_eq_true rfl) hl.1 (Nat.le_of_ble_eq_true rfl) dX8_init_128 dX8_init_131 dX8_init_132 (fun H locs hz hP hS => ?_)
  have hP := kz_pushn hP (kz_part (h0 := h0) (sz := sz) (b := 119) (n := 2) (K4 := K4) (h := hk_8) (h2 := hk_5) (sh := sh_8) (sh2 := sh_5) (by omega) (kz_alls (by decide +kernel)) (fun j hj k => by unfold hk_8 hk_5; rw [if_neg (show ¬ ((119 + j = 1 ∨ 119 + j = 23) ∧ k = 4) by omega), if_neg (show ¬ ((119 + j = 1 ∨ 119 + j = 23) ∧ k = 10) by omega)]; exact kx_ifx (show ((119 + j = 119 ∨ 119 + j = 121 ∨ 119 + j = 123 ∨ 119 + j = 125) ∧ k = 0) ↔ (j = 0 ∧ k = 0) by omega) _ _))
  have hz : H.size = sz + 120 := hz
  have hP : va_P D vwCl ((h0, .inr (8, [.ref (sz + 0), .ref (sz + 22), .int 0, .ref (sz + 44), .ref (sz + 46), .ref (sz + 47), .ref (sz + 48), .ref (sz + 49), .ref (sz + 55), .ref (sz + 103), .ref (sz + 106), .ref (sz + 116)])) :: (sz + 46, .inl (K4 4, 4, .inr (.inr (.inr (.inr (fun _ => none)))))) :: (kz_r (kz_ad h0 sz) K4 hk_8 sh_8 1 46 ++ kz_r (kz_ad h0 sz) K4 hk_8 sh_8 48 73)) H := hP
  refine W.widen (k := 120) (n := 1075) (Nat.le_of_ble_eq_true rfl) (Nat.le_of_ble_eq_true rfl) ?_
  refine kz_aast hx hb hK hP (kz_D2 (D := D) hlt) hz hS 1 119 5 rfl (kz_sheetAt (j := 71) (by omega)) rfl rfl (by omega) (by omega) dX8_init_135 (fun H locs hz hP hS => ?_)
  have hP : va_P D vwCl ((h0, .inr (8, [.ref (sz + 0), .ref (sz + 22), .int 0, .ref (sz + 44), .ref (sz + 46), .ref (sz + 47), .ref (sz + 48), .ref (sz + 49), .ref (sz + 55), .ref (sz + 103), .ref (sz + 106), .ref (sz + 116)])) :: (sz + 46, .inl (K4 4, 4, .inr (.inr (.inr (.inr (fun i => if i = 0 then some (sz + 118) else (fun _ => none) i)))))) :: (kz_r (kz_ad h0 sz) K4 hk_8 sh_8 1 46 ++ kz_r (kz_ad h0 sz) K4 hk_8 sh_8 48 73)) H := hP
  refine lv_iinc (v := nI 1) (lv' := [(1, .int (nI 1)), (0, .ref h0)]) hx hb dX8_init_136 hl (k := 0) rfl rfl (by decide) rfl (fun ls hl => ?_)
  refine lv_goto (tgt := 118) hx hb dX8_init_139 (by decide) ?_
  refine lv_iload_n hx hb dX8_init_118 rfl (lv_at hl 0 rfl) ?_
  refine lv_iconst (v := nI 4) hx hb dX8_init_119 (by decide) ?_
  refine lv_icmp_ge (tgt := 142) hx hb dX8_init_120 (by decide) (fun c120 => ?_) (fun c120 => ?_)
  · exact absurd c120 (by decide)
  refine lv_aload_n hx hb dX8_init_123 rfl (lv_at hl 1 rfl) ?_
  refine va_get (D := D) (ci := 8) (v := .ref (sz + 46)) (C := RX8) (T := TX8) (N := 12) hx hb hts ly_X8 hown hK hP 0 rfl rfl 4 (by decide) (hts _ fl_X8_28.2.2.1) (fun _ h9 => h9) rfl dX8_init_124 ?_
  refine lv_iload_n hx hb dX8_init_127 rfl (lv_at hl 0 rfl) ?_
  refine kz_mk (z := sz + 120) ⟨hx, hb, hml, hown, hts⟩ ly_X5 tyX5 tyX5_ok mk_5.1.1 mk_5.1.2.1 mk_5.1.2.2 rfl fz_ok_5 in_X5 mk_5.2.1 mk_5.2.2.1 rfl rfl mk_5.2.2.2 (hN8.2 _ (List.mem_of_getElem? (i := 7) rfl)) hK hov hP hz hS hA (Nat.le_of_ble_eq_true rfl) (Nat.le_of_ble_eq_true rfl) (Nat.le_of_ble_eq_true rfl) (Nat.le_of_ble_eq_true rfl) hl.1 (Nat.le_of_ble_eq_true rfl) dX8_init_128 dX8_init_131 dX8_init_132 (fun H locs hz hP hS => ?_)
  have hP := kz_pushn hP (kz_part (h0 := h0) (sz := sz) (b := 121) (n := 2) (K4 := K4) (h := hk_8) (h2 := hk_5) (sh := sh_8) (sh2 := sh_5) (by omega) (kz_alls (by decide +kernel)) (fun j hj k => by unfold hk_8 hk_5; rw [if_neg (show ¬ ((121 + j = 1 ∨ 121 + j = 23) ∧ k = 4) by omega), if_neg (show ¬ ((121 + j = 1 ∨ 121 + j = 23) ∧ k = 10) by omega)]; exact kx_ifx (show ((121 + j = 119 ∨ 121 + j = 121 ∨ 121 + j = 123 ∨ 121 + j = 125) ∧ k = 0) ↔ (j = 0 ∧ k = 0) by omega) _ _))
  have hz : H.size = sz + 122 := hz
  have hP : va_P D vwCl ((h0, .inr (8, [.ref (sz + 0), .ref (sz + 22), .int 0, .ref (sz + 44), .ref (sz + 46), .ref (sz + 47), .ref (sz + 48), .ref (sz + 49), .ref (sz + 55), .ref (sz + 103), .ref (sz + 106), .ref (sz + 116)])) :: (sz + 46, .inl (K4 4, 4, .inr (.inr (.inr (.inr (fun i => if i = 0 then some (sz + 118) else (fun _ => none) i)))))) :: (kz_r (kz_ad h0 sz) K4 hk_8 sh_8 1 46 ++ kz_r (kz_ad h0 sz) K4 hk_8 sh_8 48 75)) H := hP
  refine W.widen (k := 122) (n := 1102) (Nat.le_of_ble_eq_true rfl) (Nat.le_of_ble_eq_true rfl) ?_
  refine kz_aast hx hb hK hP (kz_D2 (D := D) hlt) hz hS 1 121 5 rfl (kz_sheetAt (j := 73) (by omega)) rfl rfl (by omega) (by omega) dX8_init_135 (fun H locs hz hP hS => ?_)
  have hP : va_P D vwCl ((h0, .inr (8, [.ref (sz + 0), .ref (sz + 22), .int 0, .ref (sz + 44), .ref (sz + 46), .ref (sz + 47), .ref (sz + 48), .ref (sz + 49), .ref (sz + 55), .ref (sz + 103), .ref (sz + 106), .ref (sz + 116)])) :: (sz + 46, .inl (K4 4, 4, .inr (.inr (.inr (.inr (fun i => if i = 1 then some (sz + 120) else (fun i => if i = 0 then some (sz + 118) else (fun _ => none) i) i)))))) :: (kz_r (kz_ad h0 sz) K4 hk_8 sh_8 1 46 ++ kz_r (kz_ad h0 sz) K4 hk_8 sh_8 48 75)) H := hP
  refine lv_iinc (v := nI 2) (lv' := [(1, .int (nI 2)), (0, .ref h0)]) hx hb dX8_init_136 hl (k := 0) rfl rfl (by decide) rfl (fun ls hl => ?_)
  refine lv_goto (tgt := 118) hx hb dX8_init_139 (by decide) ?_
  refine lv_iload_n hx hb dX8_init_118 rfl (lv_at hl 0 rfl) ?_
  refine lv_iconst (v := nI 4) hx hb dX8_init_119 (by decide) ?_
  refine lv_icmp_ge (tgt := 142) hx hb dX8_init_120 (by decide) (fun c120 => ?_) (fun c120 => ?_)
  · exact absurd c120 (by decide)
  refine lv_aload_n hx hb dX8_init_123 rfl (lv_at hl 1 rfl) ?_
  refine va_get (D := D) (ci := 8) (v := .ref (sz + 46)) (C := RX8) (T := TX8) (N := 12) hx hb hts ly_X8 hown hK hP 0 rfl rfl 4 (by decide) (hts _ fl_X8_28.2.2.1) (fun _ h9 => h9) rfl dX8_init_124 ?_
  refine lv_iload_n hx hb dX8_init_127 rfl (lv_at hl 0 rfl) ?_
  refine kz_mk (z := sz + 122) ⟨hx, hb, hml, hown, hts⟩ ly_X5 tyX5 tyX5_ok mk_5.1.1 mk_5.1.2.1 mk_5.1.2.2 rfl fz_ok_5 in_X5 mk_5.2.1 mk_5.2.2.1 rfl rfl mk_5.2.2.2 (hN8.2 _ (List.mem_of_getElem? (i := 7) rfl)) hK hov hP hz hS hA (Nat.le_of_ble_eq_true rfl) (Nat.le_of_ble_eq_true rfl) (Nat.le_of_ble_eq_true rfl) (Nat.le_of_ble_eq_true rfl) hl.1 (Nat.le_of_ble_eq_true rfl) dX8_init_128 dX8_init_131 dX8_init_132 (fun H locs hz hP hS => ?_)
  have hP := kz_pushn hP (kz_part (h0 := h0) (sz := sz) (b := 123) (n := 2) (K4 := K4) (h := hk_8) (h2 := hk_5) (sh := sh_8) (sh2 := sh_5) (by omega) (kz_alls (by decide +kernel)) (fun j hj k => by unfold hk_8 hk_5; rw [if_neg (show ¬ ((123 + j = 1 ∨ 123 + j = 23) ∧ k = 4) by omega), if_neg (show ¬ ((123 + j = 1 ∨ 123 + j = 23) ∧ k = 10) by omega)]; exact kx_ifx (show ((123 + j = 119 ∨ 123 + j = 121 ∨ 123 + j = 123 ∨ 123 + j = 125) ∧ k = 0) ↔ (j = 0 ∧ k = 0) by omega) _ _))
  have hz : H.size = sz + 124 := hz
  have hP : va_P D vwCl ((h0, .inr (8, [.ref (sz + 0), .ref (sz + 22), .int 0, .ref (sz + 44), .ref (sz + 46), .ref (sz + 47), .ref (sz + 48), .ref (sz + 49), .ref (sz + 55), .ref (sz + 103), .ref (sz + 106), .ref (sz + 116)])) :: (sz + 46, .inl (K4 4, 4, .inr (.inr (.inr (.inr (fun i => if i = 1 then some (sz + 120) else (fun i => if i = 0 then some (sz + 118) else (fun _ => none) i) i)))))) :: (kz_r (kz_ad h0 sz) K4 hk_8 sh_8 1 46 ++ kz_r (kz_ad h0 sz) K4 hk_8 sh_8 48 77)) H := hP
  refine W.widen (k := 124) (n := 1129) (Nat.le_of_ble_eq_true rfl) (Nat.le_of_ble_eq_true rfl) ?_
  refine kz_aast hx hb hK hP (kz_D2 (D := D) hlt) hz hS 1 123 5 rfl (kz_sheetAt (j := 75) (by omega)) rfl rfl (by omega) (by omega) dX8_init_135 (fun H locs hz hP hS => ?_)
  have hP : va_P D vwCl ((h0, .inr (8, [.ref (sz + 0), .ref (sz + 22), .int 0, .ref (sz + 44), .ref (sz + 46), .ref (sz + 47), .ref (sz + 48), .ref (sz + 49), .ref (sz + 55), .ref (sz + 103), .ref (sz + 106), .ref (sz + 116)])) :: (sz + 46, .inl (K4 4, 4, .inr (.inr (.inr (.inr (fun i => if i = 2 then some (sz + 122) else (fun i => if i = 1 then some (sz + 120) else (fun i => if i = 0 then some (sz + 118) else (fun _ => none) i) i) i)))))) :: (kz_r (kz_ad h0 sz) K4 hk_8 sh_8 1 46 ++ kz_r (kz_ad h0 sz) K4 hk_8 sh_8 48 77)) H := hP
  refine lv_iinc (v := nI 3) (lv' := [(1, .int (nI 3)), (0, .ref h0)]) hx hb dX8_init_136 hl (k := 0) rfl rfl (by decide) rfl (fun ls hl => ?_)
  refine lv_goto (tgt := 118) hx hb dX8_init_139 (by decide) ?_
  refine lv_iload_n hx hb dX8_init_118 rfl (lv_at hl 0 rfl) ?_
  refine lv_iconst (v := nI 4) hx hb dX8_init_119 (by decide) ?_
  refine lv_icmp_ge (tgt := 142) hx hb dX8_init_120 (by decide) (fun c120 => ?_) (fun c120 => ?_)
  · exact absurd c120 (by decide)
  refine lv_aload_n hx hb dX8_init_123 rfl (lv_at hl 1 rfl) ?_
  refine va_get (D := D) (ci := 8) (v := .ref (sz + 46)) (C := RX8) (T := TX8) (N := 12) hx hb hts ly_X8 hown hK hP 0 rfl rfl 4 (by decide) (hts _ fl_X8_28.2.2.1) (fun _ h9 => h9) rfl dX8_init_124 ?_
  refine lv_iload_n hx hb dX8_init_127 rfl (lv_at hl 0 rfl) ?_
  refine kz_mk (z := sz + 124) ⟨hx, hb, hml, hown, hts⟩ ly_X5 tyX5 tyX5_ok mk_5.1.1 mk_5.1.2.1 mk_5.1.2.2 rfl fz_ok_5 in_X5 mk_5.2.1 mk_5.2.2.1 rfl rfl mk_5.2.2.2 (hN8.2 _ (List.mem_of_getElem? (i := 7) rfl)) hK hov hP hz hS hA (Nat.le_of_ble_eq_true rfl) (Nat.le_of_ble_eq_true rfl) (Nat.le_of_ble_eq_true rfl) (Nat.le_of_ble_eq_true rfl) hl.1 (Nat.le_of_ble_eq_true rfl) dX8_init_128 dX8_init_131 dX8_init_132 (fun H locs hz hP hS => ?_)
  have hP := kz_pushn hP (kz_part (h0 := h0) (sz := sz) (b := 125) (n := 2) (K4 := K4) (h := hk_8) (h2 := hk_5) (sh := sh_8) (sh2 := sh_5) (by omega) (kz_alls (by decide +kernel)) (fun j hj k => by unfold hk_8 hk_5; rw [if_neg (show ¬ ((125 + j = 1 ∨ 125 + j = 23) ∧ k = 4) by omega), if_neg (show ¬ ((125 + j = 1 ∨ 125 + j = 23) ∧ k = 10) by omega)]; exact kx_ifx (show ((125 + j = 119 ∨ 125 + j = 121 ∨ 125 + j = 123 ∨ 125 + j = 125) ∧ k = 0) ↔ (j = 0 ∧ k = 0) by omega) _ _))
  have hz : H.size = sz + 126 := hz
  have hP : va_P D vwCl ((h0, .inr (8, [.ref (sz + 0), .ref (sz + 22), .int 0, .ref (sz + 44), .ref (sz + 46), .ref (sz + 47), .ref (sz + 48), .ref (sz + 49), .ref (sz + 55), .ref (sz + 103), .ref (sz + 106), .ref (sz + 116)])) :: (sz + 46, .inl (K4 4, 4, .inr (.inr (.inr (.inr (fun i => if i = 2 then some (sz + 122) else (fun i => if i = 1 then some (sz + 120) else (fun i => if i = 0 then some (sz + 118) else (fun _ => none) i) i) i)))))) :: (kz_r (kz_ad h0 sz) K4 hk_8 sh_8 1 46 ++ kz_r (kz_ad h0 sz) K4 hk_8 sh_8 48 79)) H := hP
  refine W.widen (k := 126) (n := 1156) (Nat.le_of_ble_eq_true rfl) (Nat.le_of_ble_eq_true rfl) ?_
  refine kz_aast hx hb hK hP (kz_D2 (D := D) hlt) hz hS 1 125 5 rfl (kz_sheetAt (j := 77) (by omega)) rfl rfl (by omega) (by omega) dX8_init_135 (fun H locs hz hP hS => ?_)
  have hP : va_P D vwCl ((h0, .inr (8, [.ref (sz + 0), .ref (sz + 22), .int 0, .ref (sz + 44), .ref (sz + 46), .ref (sz + 47), .ref (sz + 48), .ref (sz + 49), .ref (sz + 55), .ref (sz + 103), .ref (sz + 106), .ref (sz + 116)])) :: (sz + 46, .inl (K4 4, 4, .inr (.inr (.inr (.inr (fun i => if i = 3 then some (sz + 124) else (fun i => if i = 2 then some (sz + 122) else (fun i => if i = 1 then some (sz + 120) else (fun i => if i = 0 then some (sz + 118) else (fun _ => none) i) i) i) i)))))) :: (kz_r (kz_ad h0 sz) K4 hk_8 sh_8 1 46 ++ kz_r (kz_ad h0 sz) K4 hk_8 sh_8 48 79)) H := hP
  refine lv_iinc (v := nI 4) (lv' := [(1, .int (nI 4)), (0, .ref h0)]) hx hb dX8_init_136 hl (k := 0) rfl rfl (by decide) rfl (fun ls hl => ?_)
  refine lv_goto (tgt := 118) hx hb dX8_init_139 (by decide) ?_
  refine lv_iload_n hx hb dX8_init_118 rfl (lv_at hl 0 rfl) ?_
  refine lv_iconst (v := nI 4) hx hb dX8_init_119 (by decide) ?_
  refine lv_icmp_ge (tgt := 142) hx hb dX8_init_120 (by decide) (fun c120 => ?_) (fun c120 => ?_)
  · have hP : va_P D vwCl (kz_r (kz_ad h0 sz) K4 hk_8 sh_8 0 127) H := by
      have hO : va_at D vwCl (kz_c (kz_ad h0 sz) K4 hk_8 sh_8 47) H := by
        refine kz_refs (hP 1 _ rfl) (fun i hi => ?_)
        have hi : i < 4 := hi
        rcases (show i = 0 ∨ i = 1 ∨ i = 2 ∨ i = 3 by omega) with rfl | rfl | rfl | rfl <;> rfl
      intro k q hq
      have hk : k < 127 := by have := (List.getElem?_eq_some_iff.mp hq).1; rw [kz_r_len] at this; exact this
      rw [kz_r_at hk, Nat.zero_add] at hq
      cases hq
      rcases Nat.eq_zero_or_pos k with z | z
      · subst z; exact hP 0 _ rfl
      · by_cases z2 : k = 47
        · subst z2; exact hO
        · rcases Nat.lt_or_ge k 47 with z3 | z3
          · have := hP (k + 1) (kz_c (kz_ad h0 sz) K4 hk_8 sh_8 k) (by
              rw [show k + 1 = (k - 1) + 1 + 1 by omega, List.getElem?_cons_succ, List.getElem?_cons_succ, List.getElem?_append_left (by rw [kz_r_len]; omega), kz_r_at (by omega), show 1 + (k - 1) = k by omega])
            exact this
          · have := hP k (kz_c (kz_ad h0 sz) K4 hk_8 sh_8 k) (by
              have e := kz_sheetAt (q := (h0, .inr (8, [.ref (sz + 0), .ref (sz + 22), .int 0, .ref (sz + 44), .ref (sz + 46), .ref (sz + 47), .ref (sz + 48), .ref (sz + 49), .ref (sz + 55), .ref (sz + 103), .ref (sz + 106), .ref (sz + 116)]))) (q2 := (sz + 46, .inl (K4 4, 4, .inr (.inr (.inr (.inr (fun i => if i = 3 then some (sz + 124) else (fun i => if i = 2 then some (sz + 122) else (fun i => if i = 1 then some (sz + 120) else (fun i => if i = 0 then some (sz + 118) else (fun _ => none) i) i) i) i))))))) (ad := kz_ad h0 sz) (K4 := K4) (h := hk_8) (sh := sh_8) (k := 79) (j := k - 48) (by omega)
              rw [show 48 + (k - 48) = k by omega] at e
              exact e)
            exact this
    exact W.vret hx hb hr (fun t ht hW => ⟨⟨(), rfl, trivial, by rw [ht]; exact hz, by rw [ht]; exact hP⟩, hS.F ht⟩) hS.2.2 dX8_init_142
  · exact absurd (by decide) c120
