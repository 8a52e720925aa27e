def sh_2 : List kx_S := [(0, 2, 0, 0, [none, none, none, none, none, some 1, some 2, some 11, some 12, some 17, none, none, none, none]), (1, 8, 0, 0, []), (3, 3, 1, 8, []), (1, 9, 0, 0, []), (1, 9, 0, 0, []), (1, 9, 0, 0, []), (1, 9, 0, 0, []), (1, 9, 0, 0, []), (1, 9, 0, 0, []), (1, 9, 0, 0, []), (1, 9, 0, 0, []), (1, 4, 0, 0, []), (3, 13, 1, 4, []), (1, 4, 0, 0, []), (1, 4, 0, 0, []), (1, 4, 0, 0, []), (1, 4, 0, 0, []), (3, 18, 1, 4, []), (1, 8, 0, 0, []), (1, 8, 0, 0, []), (1, 8, 0, 0, []), (1, 8, 0, 0, [])]
def hk_2 : kx_H := fun j k => if j = 0 ∧ k = 4 then 20 else if j = 0 ∧ k = 10 then -1 else 0
def fz_2 : List Value := [.int 0, .int 0, .int 0, .int 0, .int 0, .null, .null, .null, .null, .null, .int 0, .int 0, .int 0, .int 0]
set_option maxHeartbeats 4000000 in
set_option maxRecDepth 100000 in
theorem in_X2 : kz_In 1 12 yX2_init cX2_init 1 hk_2 sh_2 2 fz_2 21 148 := by
  intro l D K4 h0 sz
  refine Met.ofW (cc := cX2_init) (maxL := 1) (ret := none) (by decide +kernel) rfl ?_
  intro p e s m args below meth c s₁ B hml hv
  obtain ⟨rfl, hz, hlt, hP, hK, hov⟩ := hv
  have hx := B.exec
  have hb := B.bytes
  have hr := B.returns
  have hts0 := atoms_spec (ws := .code yX2_init cX2_init 1 none :: kx_tb) B.pre
  have hts : ∀ w ∈ kx_tb, w.before #[Value.ref h0] s = true := fun w hw => hts0 w (List.mem_cons_of_mem _ hw)
  have hown : s.vm.findClass RX2 = some m.cls := findClass_of_methodNamed B.named
  have hlocks := B.notSynchronized
  have hin : meth.name = "<init>" := (name_of_methodNamed B.named B.method).1
  have hS : va_S (kz_A h0 sz) s.heap s.heap [] := va_S.rf
  have hP : va_P D vwCl ((h0, .inr (2, fz_2)) :: kz_r (kz_ad h0 sz) K4 hk_2 sh_2 1 0) s.heap := hP
  have hz : s.heap.size = sz + 0 := hz
  have hl := lv_entry ([.ref h0]) (n := 1) (Nat.le_of_ble_eq_true rfl)
  rw [lg_entry_eq]
  generalize (lg_sl ([.ref h0]) ++ List.replicate (1 - (lg_sl ([.ref h0])).length) Slot.unset).toArray = ls at hl ⊢
  have hl : lv_has ls 1 [(0, .ref h0)] := hl
  refine lv_aload_n hx hb dX2_init_0 rfl (lv_at hl 0 rfl) ?_
  refine W.objInit hx hb hown (hts (.methodLink RX2 3 objectInit) (kx_t1 27 (by decide +kernel) rfl)) (hts (.instanceMethod objectInit) (kx_t1 20 (by decide +kernel) rfl)) (hts (.code objectInit ⟨#[0xb1]⟩ 1 none) (kx_t1 21 (by decide +kernel) rfl)) rfl (by rw [hml]; exact hl.1) rfl dX2_init_1 (Nat.le_of_ble_eq_true rfl) (Nat.le_of_ble_eq_true rfl) ?_
  refine W.eq (g2 := F0 m 4 ls []) rfl ?_
  refine lv_aload_n hx hb dX2_init_4 rfl (lv_at hl 0 rfl) ?_
  refine lv_bipush (v := nI 20) hx hb dX2_init_5 (by decide) ?_
  refine kz_put (C := RX2) (T := TX2) (N := 14) (ci := 2) (ty := .int) hx hb hts ly_X2 tyX2 tyX2_ok nmX2 hown hK hP (kz_D (D := D) hlt) hz hS rfl 4 (by decide) (hts _ fl_X2_9.2.2.1) (fun _ h9 => h9) (Or.inl rfl) (by decide +kernel) rfl rfl (Nat.le_of_ble_eq_true rfl) dX2_init_7 (fun H locs hz hP hS => ?_)
  have hP : va_P D vwCl ((h0, .inr (2, [.int 0, .int 0, .int 0, .int 0, .int 20, .null, .null, .null, .null, .null, .int 0, .int 0, .int 0, .int 0])) :: kz_r (kz_ad h0 sz) K4 hk_2 sh_2 1 0) H := hP
  refine lv_aload_n hx hb dX2_init_10 rfl (lv_at hl 0 rfl) ?_
  refine lv_bipush (v := nI 8) hx hb dX2_init_11 (by decide) ?_
  refine kz_newi hx hb (hts _ (kx_t1 105 (by decide +kernel) rfl)) hK hP hz hS rfl (by omega) (Nat.le_of_ble_eq_true rfl) (Nat.le_of_ble_eq_true rfl) dX2_init_13 (fun H hz hP hS => ?_)
  have hP := kz_push1 hP rfl
  have hz : H.size = sz + 1 := hz
  refine W.widen (k := 1) (n := 8) (Nat.le_of_ble_eq_true rfl) (Nat.le_of_ble_eq_true rfl) ?_
  refine kz_put (C := RX2) (T := TX2) (N := 14) (ci := 2) (ty := (.array .int)) hx hb hts ly_X2 tyX2 tyX2_ok nmX2 hown hK hP (kz_D (D := D) hlt) hz hS rfl 5 (by decide) (hts _ fl_X2_15.2.2.1) (fun _ h9 => h9) (Or.inr ⟨rfl, hin, rfl⟩) (by decide +kernel) rfl rfl (Nat.le_of_ble_eq_true rfl) dX2_init_15 (fun H locs hz hP hS => ?_)
  have hP : va_P D vwCl ((h0, .inr (2, [.int 0, .int 0, .int 0, .int 0, .int 20, .ref (sz + 0), .null, .null, .null, .null, .int 0, .int 0, .int 0, .int 0])) :: kz_r (kz_ad h0 sz) K4 hk_2 sh_2 1 1) H := hP
  refine lv_aload_n hx hb dX2_init_18 rfl (lv_at hl 0 rfl) ?_
  refine lv_bipush (v := nI 8) hx hb dX2_init_19 (by decide) ?_
  refine lv_bipush (v := nI 9) hx hb dX2_init_21 (by decide) ?_
  refine kz_mna hx hb hown (hts _ (kx_t1 28 (by decide +kernel) rfl)) hov (hts _ (kx_t1 105 (by decide +kernel) rfl)) hK hP hz hS rfl rfl (by omega) (by omega) (Nat.le_of_ble_eq_true rfl) (Nat.le_of_ble_eq_true rfl) dX2_init_23 (fun H hz hP hS => ?_)
  have hP := kz_pushm hP (kz_mnaX (h0 := h0) (sh := sh_2) (h := hk_2) rfl (kz_alls (by decide +kernel)) (fun i _ => funext fun k => by unfold hk_2; rw [if_neg (by omega), if_neg (by omega)]))
  have hz : H.size = sz + 10 := hz
  have hP : va_P D vwCl ((h0, .inr (2, [.int 0, .int 0, .int 0, .int 0, .int 20, .ref (sz + 0), .null, .null, .null, .null, .int 0, .int 0, .int 0, .int 0])) :: kz_r (kz_ad h0 sz) K4 hk_2 sh_2 1 10) H := hP
  refine W.widen (k := 10) (n := 88) (Nat.le_of_ble_eq_true rfl) (Nat.le_of_ble_eq_true rfl) ?_
  refine kz_put (C := RX2) (T := TX2) (N := 14) (ci := 2) (ty := (.array (.array .int))) hx hb hts ly_X2 tyX2 tyX2_ok nmX2 hown hK hP (kz_D (D := D) hlt) hz hS rfl 6 (by decide) (hts _ fl_X2_21.2.2.1) (fun _ h9 => h9) (Or.inr ⟨rfl, hin, rfl⟩) (by decide +kernel) rfl rfl (Nat.le_of_ble_eq_true rfl) dX2_init_27 (fun H locs hz hP hS => ?_)
  have hP : va_P D vwCl ((h0, .inr (2, [.int 0, .int 0, .int 0, .int 0, .int 20, .ref (sz + 0), .ref (sz + 1), .null, .null, .null, .int 0, .int 0, .int 0, .int 0])) :: kz_r (kz_ad h0 sz) K4 hk_2 sh_2 1 10) H := hP
  refine lv_aload_n hx hb dX2_init_30 rfl (lv_at hl 0 rfl) ?_
  refine lv_iconst (v := nI 4) hx hb dX2_init_31 (by decide) ?_
  refine kz_newi hx hb (hts _ (kx_t1 105 (by decide +kernel) rfl)) hK hP hz hS rfl (by omega) (Nat.le_of_ble_eq_true rfl) (Nat.le_of_ble_eq_true rfl) dX2_init_32 (fun H hz hP hS => ?_)
  have hP := kz_push1 hP rfl
  have hz : H.size = sz + 11 := hz
  refine W.widen (k := 11) (n := 92) (Nat.le_of_ble_eq_true rfl) (Nat.le_of_ble_eq_true rfl) ?_
  refine kz_put (C := RX2) (T := TX2) (N := 14) (ci := 2) (ty := (.array .int)) hx hb hts ly_X2 tyX2 tyX2_ok nmX2 hown hK hP (kz_D (D := D) hlt) hz hS rfl 7 (by decide) (hts _ fl_X2_24.2.2.1) (fun _ h9 => h9) (Or.inr ⟨rfl, hin, rfl⟩) (by decide +kernel) rfl rfl (Nat.le_of_ble_eq_true rfl) dX2_init_34 (fun H locs hz hP hS => ?_)
  have hP : va_P D vwCl ((h0, .inr (2, [.int 0, .int 0, .int 0, .int 0, .int 20, .ref (sz + 0), .ref (sz + 1), .ref (sz + 10), .null, .null, .int 0, .int 0, .int 0, .int 0])) :: kz_r (kz_ad h0 sz) K4 hk_2 sh_2 1 11) H := hP
  refine lv_aload_n hx hb dX2_init_37 rfl (lv_at hl 0 rfl) ?_
  refine lv_iconst (v := nI 4) hx hb dX2_init_38 (by decide) ?_
  refine lv_iconst (v := nI 4) hx hb dX2_init_39 (by decide) ?_
  refine kz_mna hx hb hown (hts _ (kx_t1 28 (by decide +kernel) rfl)) hov (hts _ (kx_t1 105 (by decide +kernel) rfl)) hK hP hz hS rfl rfl (by omega) (by omega) (Nat.le_of_ble_eq_true rfl) (Nat.le_of_ble_eq_true rfl) dX2_init_40 (fun H hz hP hS => ?_)
  have hP := kz_pushm hP (kz_mnaX (h0 := h0) (sh := sh_2) (h := hk_2) rfl (kz_alls (by decide +kernel)) (fun i _ => funext fun k => by unfold hk_2; rw [if_neg (by omega), if_neg (by omega)]))
  have hz : H.size = sz + 16 := hz
  have hP : va_P D vwCl ((h0, .inr (2, [.int 0, .int 0, .int 0, .int 0, .int 20, .ref (sz + 0), .ref (sz + 1), .ref (sz + 10), .null, .null, .int 0, .int 0, .int 0, .int 0])) :: kz_r (kz_ad h0 sz) K4 hk_2 sh_2 1 16) H := hP
  refine W.widen (k := 16) (n := 112) (Nat.le_of_ble_eq_true rfl) (Nat.le_of_ble_eq_true rfl) ?_
  refine kz_put (C := RX2) (T := TX2) (N := 14) (ci := 2) (ty := (.array (.array .int))) hx hb hts ly_X2 tyX2 tyX2_ok nmX2 hown hK hP (kz_D (D := D) hlt) hz hS rfl 8 (by decide) (hts _ fl_X2_27.2.2.1) (fun _ h9 => h9) (Or.inr ⟨rfl, hin, rfl⟩) (by decide +kernel) rfl rfl (Nat.le_of_ble_eq_true rfl) dX2_init_44 (fun H locs hz hP hS => ?_)
  have hP : va_P D vwCl ((h0, .inr (2, [.int 0, .int 0, .int 0, .int 0, .int 20, .ref (sz + 0), .ref (sz + 1), .ref (sz + 10), .ref (sz + 11), .null, .int 0, .int 0, .int 0, .int 0])) :: kz_r (kz_ad h0 sz) K4 hk_2 sh_2 1 16) H := hP
  refine lv_aload_n hx hb dX2_init_47 rfl (lv_at hl 0 rfl) ?_
  refine lv_iconst (v := nI 4) hx hb dX2_init_48 (by decide) ?_
  refine lv_bipush (v := nI 8) hx hb dX2_init_49 (by decide) ?_
  refine kz_mna hx hb hown (hts _ (kx_t1 28 (by decide +kernel) rfl)) hov (hts _ (kx_t1 105 (by decide +kernel) rfl)) hK hP hz hS rfl rfl (by omega) (by omega) (Nat.le_of_ble_eq_true rfl) (Nat.le_of_ble_eq_true rfl) dX2_init_51 (fun H hz hP hS => ?_)
  have hP := kz_pushm hP (kz_mnaX (h0 := h0) (sh := sh_2) (h := hk_2) rfl (kz_alls (by decide +kernel)) (fun i _ => funext fun k => by unfold hk_2; rw [if_neg (by omega), if_neg (by omega)]))
  have hz : H.size = sz + 21 := hz
  have hP : va_P D vwCl ((h0, .inr (2, [.int 0, .int 0, .int 0, .int 0, .int 20, .ref (sz + 0), .ref (sz + 1), .ref (sz + 10), .ref (sz + 11), .null, .int 0, .int 0, .int 0, .int 0])) :: kz_r (kz_ad h0 sz) K4 hk_2 sh_2 1 21) H := hP
  refine W.widen (k := 21) (n := 148) (Nat.le_of_ble_eq_true rfl) (Nat.le_of_ble_eq_true rfl) ?_
  refine kz_put (C := RX2) (T := TX2) (N := 14) (ci := 2) (ty := (.array (.array .int))) hx hb hts ly_X2 tyX2 tyX2_ok nmX2 hown hK hP (kz_D (D := D) hlt) hz hS rfl 9 (by decide) (hts _ fl_X2_30.2.2.1) (fun _ h9 => h9) (Or.inr ⟨rfl, hin, rfl⟩) (by decide +kernel) rfl rfl (Nat.le_of_ble_eq_true rfl) dX2_init_55 (fun H locs hz hP hS => ?_)
  have hP : va_P D vwCl ((h0, .inr (2, [.int 0, .int 0, .int 0, .int 0, .int 20, .ref (sz + 0), .ref (sz + 1), .ref (sz + 10), .ref (sz + 11), .ref (sz + 16), .int 0, .int 0, .int 0, .int 0])) :: kz_r (kz_ad h0 sz) K4 hk_2 sh_2 1 21) H := hP
  refine lv_aload_n hx hb dX2_init_58 rfl (lv_at hl 0 rfl) ?_
  refine lv_iconst (v := -1) hx hb dX2_init_59 (by decide) ?_
  refine kz_put (C := RX2) (T := TX2) (N := 14) (ci := 2) (ty := .int) hx hb hts ly_X2 tyX2 tyX2_ok nmX2 hown hK hP (kz_D (D := D) hlt) hz hS rfl 10 (by decide) (hts _ fl_X2_33.2.2.1) (fun _ h9 => h9) (Or.inl rfl) (by decide +kernel) rfl rfl (Nat.le_of_ble_eq_true rfl) dX2_init_60 (fun H locs hz hP hS => ?_)
  have hP : va_P D vwCl ((h0, .inr (2, [.int 0, .int 0, .int 0, .int 0, .int 20, .ref (sz + 0), .ref (sz + 1), .ref (sz + 10), .ref (sz + 11), .ref (sz + 16), .int (-1), .int 0, .int 0, .int 0])) :: kz_r (kz_ad h0 sz) K4 hk_2 sh_2 1 21) H := hP
  have hP : va_P D vwCl (kz_r (kz_ad h0 sz) K4 hk_2 sh_2 0 22) H := by rw [← kz_r_one]; exact hP
  exact W.vret hx hb hr (fun t ht hW => ⟨⟨(), rfl, trivial, by rw [ht]; exact hz, by rw [ht]; exact hP⟩, hS.F ht⟩) hS.2.2 dX2_init_63
def sh_7 : List kx_S := [(0, 7, 0, 0, [some 1, none]), (1, 24, 0, 0, [])]
def hk_7 : kx_H := fun _ _ => 0
def fz_7 : List Value := [.null, .int 0]
set_option maxHeartbeats 4000000 in
set_option maxRecDepth 100000 in
theorem in_X7 : kz_In 1 12 yX7_init cX7_init 1 hk_7 sh_7 7 fz_7 1 24 := by
  intro l D K4 h0 sz
  refine Met.ofW (cc := cX7_init) (maxL := 1) (ret := none) (by decide +kernel) rfl ?_
  intro p e s m args below meth c s₁ B hml hv
  obtain ⟨rfl, hz, hlt, hP, hK, hov⟩ := hv
  have hx := B.exec
  have hb := B.bytes
  have hr := B.returns
  have hts0 := atoms_spec (ws := .code yX7_init cX7_init 1 none :: kx_tb) B.pre
  have hts : ∀ w ∈ kx_tb, w.before #[Value.ref h0] s = true := fun w hw => hts0 w (List.mem_cons_of_mem _ hw)
  have hown : s.vm.findClass RX7 = some m.cls := findClass_of_methodNamed B.named
  have hlocks := B.notSynchronized
  have hin : meth.name = "<init>" := (name_of_methodNamed B.named B.method).1
  have hS : va_S (kz_A h0 sz) s.heap s.heap [] := va_S.rf
  have hP : va_P D vwCl ((h0, .inr (7, fz_7)) :: kz_r (kz_ad h0 sz) K4 hk_7 sh_7 1 0) s.heap := hP
  have hz : s.heap.size = sz + 0 := hz
  have hl := lv_entry ([.ref h0]) (n := 1) (Nat.le_of_ble_eq_true rfl)
  rw [lg_entry_eq]
  generalize (lg_sl ([.ref h0]) ++ List.replicate (1 - (lg_sl ([.ref h0])).length) Slot.unset).toArray = ls at hl ⊢
  have hl : lv_has ls 1 [(0, .ref h0)] := hl
  refine lv_aload_n hx hb dX7_init_0 rfl (lv_at hl 0 rfl) ?_
  refine W.objInit hx hb hown (hts (.methodLink RX7 3 objectInit) (kx_t1 111 (by decide +kernel) rfl)) (hts (.instanceMethod objectInit) (kx_t1 20 (by decide +kernel) rfl)) (hts (.code objectInit ⟨#[0xb1]⟩ 1 none) (kx_t1 21 (by decide +kernel) rfl)) rfl (by rw [hml]; exact hl.1) rfl dX7_init_1 (Nat.le_of_ble_eq_true rfl) (Nat.le_of_ble_eq_true rfl) ?_
  refine W.eq (g2 := F0 m 4 ls []) rfl ?_
  refine lv_aload_n hx hb dX7_init_4 rfl (lv_at hl 0 rfl) ?_
  refine lv_bipush (v := nI 24) hx hb dX7_init_5 (by decide) ?_
  refine kz_newi hx hb (hts _ (kx_t1 105 (by decide +kernel) rfl)) hK hP hz hS rfl (by omega) (Nat.le_of_ble_eq_true rfl) (Nat.le_of_ble_eq_true rfl) dX7_init_7 (fun H hz hP hS => ?_)
  have hP := kz_push1 hP rfl
  have hz : H.size = sz + 1 := hz
  refine W.widen (k := 1) (n := 24) (Nat.le_of_ble_eq_true rfl) (Nat.le_of_ble_eq_true rfl) ?_
  refine kz_put (C := RX7) (T := TX7) (N := 2) (ci := 7) (ty := (.array .int)) hx hb hts ly_X7 tyX7 tyX7_ok nmX7 hown hK hP (kz_D (D := D) hlt) hz hS rfl 0 (by decide) (hts _ fl_X7_9.2.2.1) (fun _ h9 => h9) (Or.inr ⟨rfl, hin, rfl⟩) (by decide +kernel) rfl rfl (Nat.le_of_ble_eq_true rfl) dX7_init_9 (fun H locs hz hP hS => ?_)
  have hP : va_P D vwCl ((h0, .inr (7, [.ref (sz + 0), .int 0])) :: kz_r (kz_ad h0 sz) K4 hk_7 sh_7 1 1) H := hP
  have hP : va_P D vwCl (kz_r (kz_ad h0 sz) K4 hk_7 sh_7 0 2) H := by rw [← kz_r_one]; exact hP
  exact W.vret hx hb hr (fun t ht hW => ⟨⟨(), rfl, trivial, by rw [ht]; exact hz, by rw [ht]; exact hP⟩, hS.F ht⟩) hS.2.2 dX7_init_12
def sh_6 : List kx_S := [(0, 6, 0, 0, [some 1, some 2, some 3, some 4, some 5, none, none, none, none, none, none]), (1, 8, 0, 0, []), (1, 8, 0, 0, []), (1, 8, 0, 0, []), (1, 5, 0, 0, []), (1, 5, 0, 0, [])]
def hk_6 : kx_H := fun _ _ => 0
def fz_6 : List Value := [.null, .null, .null, .null, .null, .int 0, .int 0, .int 0, .int 0, .int 0, .int 0]
set_option maxHeartbeats 4000000 in
set_option maxRecDepth 100000 in
theorem in_X6 : kz_In 1 12 yX6_init cX6_init 1 hk_6 sh_6 6 fz_6 5 34 := by
  intro l D K4 h0 sz
  refine Met.ofW (cc := cX6_init) (maxL := 1) (ret := none) (by decide +kernel) rfl ?_
  intro p e s m args below meth c s₁ B hml hv
  obtain ⟨rfl, hz, hlt, hP, hK, hov⟩ := hv
  have hx := B.exec
  have hb := B.bytes
  have hr := B.returns
  have hts0 := atoms_spec (ws := .code yX6_init cX6_init 1 none :: kx_tb) B.pre
  have hts : ∀ w ∈ kx_tb, w.before #[Value.ref h0] s = true := fun w hw => hts0 w (List.mem_cons_of_mem _ hw)
  have hown : s.vm.findClass RX6 = some m.cls := findClass_of_methodNamed B.named
  have hlocks := B.notSynchronized
  have hin : meth.name = "<init>" := (name_of_methodNamed B.named B.method).1
  have hS : va_S (kz_A h0 sz) s.heap s.heap [] := va_S.rf
  have hP : va_P D vwCl ((h0, .inr (6, fz_6)) :: kz_r (kz_ad h0 sz) K4 hk_6 sh_6 1 0) s.heap := hP
  have hz : s.heap.size = sz + 0 := hz
  have hl := lv_entry ([.ref h0]) (n := 1) (Nat.le_of_ble_eq_true rfl)
  rw [lg_entry_eq]
  generalize (lg_sl ([.ref h0]) ++ List.replicate (1 - (lg_sl ([.ref h0])).length) Slot.unset).toArray = ls at hl ⊢
  have hl : lv_has ls 1 [(0, .ref h0)] := hl
  refine lv_aload_n hx hb dX6_init_0 rfl (lv_at hl 0 rfl) ?_
  refine W.objInit hx hb hown (hts (.methodLink RX6 3 objectInit) (kx_t1 127 (by decide +kernel) rfl)) (hts (.instanceMethod objectInit) (kx_t1 20 (by decide +kernel) rfl)) (hts (.code objectInit ⟨#[0xb1]⟩ 1 none) (kx_t1 21 (by decide +kernel) rfl)) rfl (by rw [hml]; exact hl.1) rfl dX6_init_1 (Nat.le_of_ble_eq_true rfl) (Nat.le_of_ble_eq_true rfl) ?_
  refine W.eq (g2 := F0 m 4 ls []) rfl ?_
  refine lv_aload_n hx hb dX6_init_4 rfl (lv_at hl 0 rfl) ?_
  refine lv_bipush (v := nI 8) hx hb dX6_init_5 (by decide) ?_
  refine kz_newi hx hb (hts _ (kx_t1 105 (by decide +kernel) rfl)) hK hP hz hS rfl (by omega) (Nat.le_of_ble_eq_true rfl) (Nat.le_of_ble_eq_true rfl) dX6_init_7 (fun H hz hP hS => ?_)
  have hP := kz_push1 hP rfl
  have hz : H.size = sz + 1 := hz
  refine W.widen (k := 1) (n := 8) (Nat.le_of_ble_eq_true rfl) (Nat.le_of_ble_eq_true rfl) ?_
  refine kz_put (C := RX6) (T := TX6) (N := 11) (ci := 6) (ty := (.array .int)) hx hb hts ly_X6 tyX6 tyX6_ok nmX6 hown hK hP (kz_D (D := D) hlt) hz hS rfl 0 (by decide) (hts _ fl_X6_9.2.2.1) (fun _ h9 => h9) (Or.inr ⟨rfl, hin, rfl⟩) (by decide +kernel) rfl rfl (Nat.le_of_ble_eq_true rfl) dX6_init_9 (fun H locs hz hP hS => ?_)
  have hP : va_P D vwCl ((h0, .inr (6, [.ref (sz + 0), .null, .null, .null, .null, .int 0, .int 0, .int 0, .int 0, .int 0, .int 0])) :: kz_r (kz_ad h0 sz) K4 hk_6 sh_6 1 1) H := hP
  refine lv_aload_n hx hb dX6_init_12 rfl (lv_at hl 0 rfl) ?_
  refine lv_bipush (v := nI 8) hx hb dX6_init_13 (by decide) ?_
  refine kz_newi hx hb (hts _ (kx_t1 105 (by decide +kernel) rfl)) hK hP hz hS rfl (by omega) (Nat.le_of_ble_eq_true rfl) (Nat.le_of_ble_eq_true rfl) dX6_init_15 (fun H hz hP hS => ?_)
  have hP := kz_push1 hP rfl
  have hz : H.size = sz + 2 := hz
  refine W.widen (k := 2) (n := 16) (Nat.le_of_ble_eq_true rfl) (Nat.le_of_ble_eq_true rfl) ?_
  refine kz_put (C := RX6) (T := TX6) (N := 11) (ci := 6) (ty := (.array .int)) hx hb hts ly_X6 tyX6 tyX6_ok nmX6 hown hK hP (kz_D (D := D) hlt) hz hS rfl 1 (by decide) (hts _ fl_X6_15.2.2.1) (fun _ h9 => h9) (Or.inr ⟨rfl, hin, rfl⟩) (by decide +kernel) rfl rfl (Nat.le_of_ble_eq_true rfl) dX6_init_17 (fun H locs hz hP hS => ?_)
  have hP : va_P D vwCl ((h0, .inr (6, [.ref (sz + 0), .ref (sz + 1), .null, .null, .null, .int 0, .int 0, .int 0, .int 0, .int 0, .int 0])) :: kz_r (kz_ad h0 sz) K4 hk_6 sh_6 1 2) H := hP
  refine lv_aload_n hx hb dX6_init_20 rfl (lv_at hl 0 rfl) ?_
  refine lv_bipush (v := nI 8) hx hb dX6_init_21 (by decide) ?_
  refine kz_newi hx hb (hts _ (kx_t1 105 (by decide +kernel) rfl)) hK hP hz hS rfl (by omega) (Nat.le_of_ble_eq_true rfl) (Nat.le_of_ble_eq_true rfl) dX6_init_23 (fun H hz hP hS => ?_)
  have hP := kz_push1 hP rfl
  have hz : H.size = sz + 3 := hz
  refine W.widen (k := 3) (n := 24) (Nat.le_of_ble_eq_true rfl) (Nat.le_of_ble_eq_true rfl) ?_
  refine kz_put (C := RX6) (T := TX6) (N := 11) (ci := 6) (ty := (.array .int)) hx hb hts ly_X6 tyX6 tyX6_ok nmX6 hown hK hP (kz_D (D := D) hlt) hz hS rfl 2 (by decide) (hts _ fl_X6_18.2.2.1) (fun _ h9 => h9) (Or.inr ⟨rfl, hin, rfl⟩) (by decide +kernel) rfl rfl (Nat.le_of_ble_eq_true rfl) dX6_init_25 (fun H locs hz hP hS => ?_)
  have hP : va_P D vwCl ((h0, .inr (6, [.ref (sz + 0), .ref (sz + 1), .ref (sz + 2), .null, .null, .int 0, .int 0, .int 0, .int 0, .int 0, .int 0])) :: kz_r (kz_ad h0 sz) K4 hk_6 sh_6 1 3) H := hP
  refine lv_aload_n hx hb dX6_init_28 rfl (lv_at hl 0 rfl) ?_
  refine lv_iconst (v := nI 5) hx hb dX6_init_29 (by decide) ?_
  refine kz_newi hx hb (hts _ (kx_t1 105 (by decide +kernel) rfl)) hK hP hz hS rfl (by omega) (Nat.le_of_ble_eq_true rfl) (Nat.le_of_ble_eq_true rfl) dX6_init_30 (fun H hz hP hS => ?_)
  have hP := kz_push1 hP rfl
  have hz : H.size = sz + 4 := hz
  refine W.widen (k := 4) (n := 29) (Nat.le_of_ble_eq_true rfl) (Nat.le_of_ble_eq_true rfl) ?_
  refine kz_put (C := RX6) (T := TX6) (N := 11) (ci := 6) (ty := (.array .int)) hx hb hts ly_X6 tyX6 tyX6_ok nmX6 hown hK hP (kz_D (D := D) hlt) hz hS rfl 3 (by decide) (hts _ fl_X6_21.2.2.1) (fun _ h9 => h9) (Or.inr ⟨rfl, hin, rfl⟩) (by decide +kernel) rfl rfl (Nat.le_of_ble_eq_true rfl) dX6_init_32 (fun H locs hz hP hS => ?_)
  have hP : va_P D vwCl ((h0, .inr (6, [.ref (sz + 0), .ref (sz + 1), .ref (sz + 2), .ref (sz + 3), .null, .int 0, .int 0, .int 0, .int 0, .int 0, .int 0])) :: kz_r (kz_ad h0 sz) K4 hk_6 sh_6 1 4) H := hP
  refine lv_aload_n hx hb dX6_init_35 rfl (lv_at hl 0 rfl) ?_
  refine lv_iconst (v := nI 5) hx hb dX6_init_36 (by decide) ?_
  refine kz_newi hx hb (hts _ (kx_t1 105 (by decide +kernel) rfl)) hK hP hz hS rfl (by omega) (Nat.le_of_ble_eq_true rfl) (Nat.le_of_ble_eq_true rfl) dX6_init_37 (fun H hz hP hS => ?_)
  have hP := kz_push1 hP rfl
  have hz : H.size = sz + 5 := hz
  refine W.widen (k := 5) (n := 34) (Nat.le_of_ble_eq_true rfl) (Nat.le_of_ble_eq_true rfl) ?_
  refine kz_put (C := RX6) (T := TX6) (N := 11) (ci := 6) (ty := (.array .int)) hx hb hts ly_X6 tyX6 tyX6_ok nmX6 hown hK hP (kz_D (D := D) hlt) hz hS rfl 4 (by decide) (hts _ fl_X6_24.2.2.1) (fun _ h9 => h9) (Or.inr ⟨rfl, hin, rfl⟩) (by decide +kernel) rfl rfl (Nat.le_of_ble_eq_true rfl) dX6_init_39 (fun H locs hz hP hS => ?_)
  have hP : va_P D vwCl ((h0, .inr (6, [.ref (sz + 0), .ref (sz + 1), .ref (sz + 2), .ref (sz + 3), .ref (sz + 4), .int 0, .int 0, .int 0, .int 0, .int 0, .int 0])) :: kz_r (kz_ad h0 sz) K4 hk_6 sh_6 1 5) H := hP
  have hP : va_P D vwCl (kz_r (kz_ad h0 sz) K4 hk_6 sh_6 0 6) H := by rw [← kz_r_one]; exact hP
  exact W.vret hx hb hr (fun t ht hW => ⟨⟨(), rfl, trivial, by rw [ht]; exact hz, by rw [ht]; exact hP⟩, hS.F ht⟩) hS.2.2 dX6_init_42
def sh_0 : List kx_S := [(0, 0, 0, 0, [some 1, some 34, some 35, some 45, some 46, some 47, none, none, none]), (3, 2, 1, 32, []), (1, 4, 0, 0, []), (1, 4, 0, 0, []), (1, 4, 0, 0, []), (1, 4, 0, 0, []), (1, 4, 0, 0, []), (1, 4, 0, 0, []), (1, 4, 0, 0, []), (1, 4, 0, 0, []), (1, 4, 0, 0, []), (1, 4, 0, 0, []), (1, 4, 0, 0, []), (1, 4, 0, 0, []), (1, 4, 0, 0, []), (1, 4, 0, 0, []), (1, 4, 0, 0, []), (1, 4, 0, 0, []), (1, 4, 0, 0, []), (1, 4, 0, 0, []), (1, 4, 0, 0, []), (1, 4, 0, 0, []), (1, 4, 0, 0, []), (1, 4, 0, 0, []), (1, 4, 0, 0, []), (1, 4, 0, 0, []), (1, 4, 0, 0, []), (1, 4, 0, 0, []), (1, 4, 0, 0, []), (1, 4, 0, 0, []), (1, 4, 0, 0, []), (1, 4, 0, 0, []), (1, 4, 0, 0, []), (1, 4, 0, 0, []), (2, 32, 0, 0, []), (3, 36, 1, 9, []), (1, 4, 0, 0, []), (1, 4, 0, 0, []), (1, 4, 0, 0, []), (1, 4, 0, 0, []), (1, 4, 0, 0, []), (1, 4, 0, 0, []), (1, 4, 0, 0, []), (1, 4, 0, 0, []), (1, 4, 0, 0, []), (1, 4, 0, 0, []), (1, 8, 0, 0, []), (1, 8, 0, 0, [])]
def hk_0 : kx_H := fun _ _ => 0
def fz_0 : List Value := [.null, .null, .null, .null, .null, .null, .int 0, .int 0, .int 0]
set_option maxHeartbeats 4000000 in
set_option maxRecDepth 100000 in
theorem in_X0 : kz_In 1 12 yX0_init cX0_init 1 hk_0 sh_0 0 fz_0 47 257 := by
  intro l D K4 h0 sz
  refine Met.ofW (cc := cX0_init) (maxL := 1) (ret := none) (by decide +kernel) rfl ?_
  intro p e s m args below meth c s₁ B hml hv
  obtain ⟨rfl, hz, hlt, hP, hK, hov⟩ := hv
  have hx := B.exec
  have hb := B.bytes
  have hr := B.returns
  have hts0 := atoms_spec (ws := .code yX0_init cX0_init 1 none :: kx_tb) B.pre
  have hts : ∀ w ∈ kx_tb, w.before #[Value.ref h0] s = true := fun w hw => hts0 w (List.mem_cons_of_mem _ hw)
  have hown : s.vm.findClass RX0 = some m.cls := findClass_of_methodNamed B.named
  have hlocks := B.notSynchronized
  have hin : meth.name = "<init>" := (name_of_methodNamed B.named B.method).1
  have hS : va_S (kz_A h0 sz) s.heap s.heap [] := va_S.rf
  have hP : va_P D vwCl ((h0, .inr (0, fz_0)) :: kz_r (kz_ad h0 sz) K4 hk_0 sh_0 1 0) s.heap := hP
  have hz : s.heap.size = sz + 0 := hz
  have hl := lv_entry ([.ref h0]) (n := 1) (Nat.le_of_ble_eq_true rfl)
  rw [lg_entry_eq]
  generalize (lg_sl ([.ref h0]) ++ List.replicate (1 - (lg_sl ([.ref h0])).length) Slot.unset).toArray = ls at hl ⊢
  have hl : lv_has ls 1 [(0, .ref h0)] := hl
  refine lv_aload_n hx hb dX0_init_0 rfl (lv_at hl 0 rfl) ?_
  refine W.objInit hx hb hown (hts (.methodLink RX0 3 objectInit) (kx_t1 169 (by decide +kernel) rfl)) (hts (.instanceMethod objectInit) (kx_t1 20 (by decide +kernel) rfl)) (hts (.code objectInit ⟨#[0xb1]⟩ 1 none) (kx_t1 21 (by decide +kernel) rfl)) rfl (by rw [hml]; exact hl.1) rfl dX0_init_1 (Nat.le_of_ble_eq_true rfl) (Nat.le_of_ble_eq_true rfl) ?_
  refine W.eq (g2 := F0 m 4 ls []) rfl ?_
  refine lv_aload_n hx hb dX0_init_4 rfl (lv_at hl 0 rfl) ?_
  refine lv_bipush (v := nI 32) hx hb dX0_init_5 (by decide) ?_
  refine lv_iconst (v := nI 4) hx hb dX0_init_7 (by decide) ?_
  refine kz_mna hx hb hown (hts _ (kx_t1 170 (by decide +kernel) rfl)) hov (hts _ (kx_t1 105 (by decide +kernel) rfl)) hK hP hz hS rfl rfl (by omega) (by omega) (Nat.le_of_ble_eq_true rfl) (Nat.le_of_ble_eq_true rfl) dX0_init_8 (fun H hz hP hS => ?_)
  have hP := kz_pushm hP (kz_mnaX (h0 := h0) (sh := sh_0) (h := hk_0) rfl (kz_alls (by decide +kernel)) (fun i _ => rfl))
  have hz : H.size = sz + 33 := hz
  have hP : va_P D vwCl ((h0, .inr (0, [.null, .null, .null, .null, .null, .null, .int 0, .int 0, .int 0])) :: kz_r (kz_ad h0 sz) K4 hk_0 sh_0 1 33) H := hP
  refine W.widen (k := 33) (n := 160) (Nat.le_of_ble_eq_true rfl) (Nat.le_of_ble_eq_true rfl) ?_
  refine kz_put (C := RX0) (T := TX0) (N := 9) (ci := 0) (ty := (.array (.array .int))) hx hb hts ly_X0 tyX0 tyX0_ok nmX0 hown hK hP (kz_D (D := D) hlt) hz hS rfl 0 (by decide) (hts _ fl_X0_11.2.2.1) (fun _ h9 => h9) (Or.inr ⟨rfl, hin, rfl⟩) (by decide +kernel) rfl rfl (Nat.le_of_ble_eq_true rfl) dX0_init_12 (fun H locs hz hP hS => ?_)
  have hP : va_P D vwCl ((h0, .inr (0, [.ref (sz + 0), .null, .null, .null, .null, .null, .int 0, .int 0, .int 0])) :: kz_r (kz_ad h0 sz) K4 hk_0 sh_0 1 33) H := hP
  refine lv_aload_n hx hb dX0_init_15 rfl (lv_at hl 0 rfl) ?_
  refine lv_bipush (v := nI 32) hx hb dX0_init_16 (by decide) ?_
  refine kz_newz hx hb (hts _ (kx_t1 201 (by decide +kernel) rfl)) hK hP hz hS rfl (by omega) (Nat.le_of_ble_eq_true rfl) (Nat.le_of_ble_eq_true rfl) dX0_init_18 (fun H hz hP hS => ?_)
  have hP := kz_push1 hP rfl
  have hz : H.size = sz + 34 := hz
  refine W.widen (k := 34) (n := 192) (Nat.le_of_ble_eq_true rfl) (Nat.le_of_ble_eq_true rfl) ?_
  refine kz_put (C := RX0) (T := TX0) (N := 9) (ci := 0) (ty := (.array .boolean)) hx hb hts ly_X0 tyX0 tyX0_ok nmX0 hown hK hP (kz_D (D := D) hlt) hz hS rfl 1 (by decide) (hts _ fl_X0_16.2.2.1) (fun _ h9 => h9) (Or.inr ⟨rfl, hin, rfl⟩) (by decide +kernel) rfl rfl (Nat.le_of_ble_eq_true rfl) dX0_init_20 (fun H locs hz hP hS => ?_)
  have hP : va_P D vwCl ((h0, .inr (0, [.ref (sz + 0), .ref (sz + 33), .null, .null, .null, .null, .int 0, .int 0, .int 0])) :: kz_r (kz_ad h0 sz) K4 hk_0 sh_0 1 34) H := hP
  refine lv_aload_n hx hb dX0_init_23 rfl (lv_at hl 0 rfl) ?_
  refine lv_bipush (v := nI 9) hx hb dX0_init_24 (by decide) ?_
  refine lv_iconst (v := nI 4) hx hb dX0_init_26 (by decide) ?_
  refine kz_mna hx hb hown (hts _ (kx_t1 170 (by decide +kernel) rfl)) hov (hts _ (kx_t1 105 (by decide +kernel) rfl)) hK hP hz hS rfl rfl (by omega) (by omega) (Nat.le_of_ble_eq_true rfl) (Nat.le_of_ble_eq_true rfl) dX0_init_27 (fun H hz hP hS => ?_)
  have hP := kz_pushm hP (kz_mnaX (h0 := h0) (sh := sh_0) (h := hk_0) rfl (kz_alls (by decide +kernel)) (fun i _ => rfl))
  have hz : H.size = sz + 44 := hz
  have hP : va_P D vwCl ((h0, .inr (0, [.ref (sz + 0), .ref (sz + 33), .null, .null, .null, .null, .int 0, .int 0, .int 0])) :: kz_r (kz_ad h0 sz) K4 hk_0 sh_0 1 44) H := hP
  refine W.widen (k := 44) (n := 237) (Nat.le_of_ble_eq_true rfl) (Nat.le_of_ble_eq_true rfl) ?_
  refine kz_put (C := RX0) (T := TX0) (N := 9) (ci := 0) (ty := (.array (.array .int))) hx hb hts ly_X0 tyX0 tyX0_ok nmX0 hown hK hP (kz_D (D := D) hlt) hz hS rfl 2 (by decide) (hts _ fl_X0_20.2.2.1) (fun _ h9 => h9) (Or.inr ⟨rfl, hin, rfl⟩) (by decide +kernel) rfl rfl (Nat.le_of_ble_eq_true rfl) dX0_init_31 (fun H locs hz hP hS => ?_)
  have hP : va_P D vwCl ((h0, .inr (0, [.ref (sz + 0), .ref (sz + 33), .ref (sz + 34), .null, .null, .null, .int 0, .int 0, .int 0])) :: kz_r (kz_ad h0 sz) K4 hk_0 sh_0 1 44) H := hP
  refine lv_aload_n hx hb dX0_init_34 rfl (lv_at hl 0 rfl) ?_
  refine lv_iconst (v := nI 4) hx hb dX0_init_35 (by decide) ?_
  refine kz_newi hx hb (hts _ (kx_t1 105 (by decide +kernel) rfl)) hK hP hz hS rfl (by omega) (Nat.le_of_ble_eq_true rfl) (Nat.le_of_ble_eq_true rfl) dX0_init_36 (fun H hz hP hS => ?_)
  have hP := kz_push1 hP rfl
  have hz : H.size = sz + 45 := hz
  refine W.widen (k := 45) (n := 241) (Nat.le_of_ble_eq_true rfl) (Nat.le_of_ble_eq_true rfl) ?_
  refine kz_put (C := RX0) (T := TX0) (N := 9) (ci := 0) (ty := (.array .int)) hx hb hts ly_X0 tyX0 tyX0_ok nmX0 hown hK hP (kz_D (D := D) hlt) hz hS rfl 3 (by decide) (hts _ fl_X0_23.2.2.1) (fun _ h9 => h9) (Or.inr ⟨rfl, hin, rfl⟩) (by decide +kernel) rfl rfl (Nat.le_of_ble_eq_true rfl) dX0_init_38 (fun H locs hz hP hS => ?_)
  have hP : va_P D vwCl ((h0, .inr (0, [.ref (sz + 0), .ref (sz + 33), .ref (sz + 34), .ref (sz + 44), .null, .null, .int 0, .int 0, .int 0])) :: kz_r (kz_ad h0 sz) K4 hk_0 sh_0 1 45) H := hP
  refine lv_aload_n hx hb dX0_init_41 rfl (lv_at hl 0 rfl) ?_
  refine lv_bipush (v := nI 8) hx hb dX0_init_42 (by decide) ?_
  refine kz_newi hx hb (hts _ (kx_t1 105 (by decide +kernel) rfl)) hK hP hz hS rfl (by omega) (Nat.le_of_ble_eq_true rfl) (Nat.le_of_ble_eq_true rfl) dX0_init_44 (fun H hz hP hS => ?_)
  have hP := kz_push1 hP rfl
  have hz : H.size = sz + 46 := hz
  refine W.widen (k := 46) (n := 249) (Nat.le_of_ble_eq_true rfl) (Nat.le_of_ble_eq_true rfl) ?_
  refine kz_put (C := RX0) (T := TX0) (N := 9) (ci := 0) (ty := (.array .int)) hx hb hts ly_X0 tyX0 tyX0_ok nmX0 hown hK hP (kz_D (D := D) hlt) hz hS rfl 4 (by decide) (hts _ fl_X0_27.2.2.1) (fun _ h9 => h9) (Or.inr ⟨rfl, hin, rfl⟩) (by decide +kernel) rfl rfl (Nat.le_of_ble_eq_true rfl) dX0_init_46 (fun H locs hz hP hS => ?_)
  have hP : va_P D vwCl ((h0, .inr (0, [.ref (sz + 0), .ref (sz + 33), .ref (sz + 34), .ref (sz + 44), .ref (sz + 45), .null, .int 0, .int 0, .int 0])) :: kz_r (kz_ad h0 sz) K4 hk_0 sh_0 1 46) H := hP
  refine lv_aload_n hx hb dX0_init_49 rfl (lv_at hl 0 rfl) ?_
  refine lv_bipush (v := nI 8) hx hb dX0_init_50 (by decide) ?_
  refine kz_newi hx hb (hts _ (kx_t1 105 (by decide +kernel) rfl)) hK hP hz hS rfl (by omega) (Nat.le_of_ble_eq_true rfl) (Nat.le_of_ble_eq_true rfl) dX0_init_52 (fun H hz hP hS => ?_)
  have hP := kz_push1 hP rfl
  have hz : H.size = sz + 47 := hz
  refine W.widen (k := 47) (n := 257) (Nat.le_of_ble_eq_true rfl) (Nat.le_of_ble_eq_true rfl) ?_
  refine kz_put (C := RX0) (T := TX0) (N := 9) (ci := 0) (ty := (.array .int)) hx hb hts ly_X0 tyX0 tyX0_ok nmX0 hown hK hP (kz_D (D := D) hlt) hz hS rfl 5 (by decide) (hts _ fl_X0_30.2.2.1) (fun _ h9 => h9) (Or.inr ⟨rfl, hin, rfl⟩) (by decide +kernel) rfl rfl (Nat.le_of_ble_eq_true rfl) dX0_init_54 (fun H locs hz hP hS => ?_)
  have hP : va_P D vwCl ((h0, .inr (0, [.ref (sz + 0), .ref (sz + 33), .ref (sz + 34), .ref (sz + 44), .ref (sz + 45), .ref (sz + 46), .int 0, .int 0, .int 0])) :: kz_r (kz_ad h0 sz) K4 hk_0 sh_0 1 47) H := hP
  have hP : va_P D vwCl (kz_r (kz_ad h0 sz) K4 hk_0 sh_0 0 48) H := by rw [← kz_r_one]; exact hP
  exact W.vret hx hb hr (fun t ht hW => ⟨⟨(), rfl, trivial, by rw [ht]; exact hz, by rw [ht]; exact hP⟩, hS.F ht⟩) hS.2.2 dX0_init_57
def sh_4 : List kx_S := [(0, 4, 0, 0, [some 1, some 2, none, none]), (1, 256, 0, 0, []), (1, 8, 0, 0, [])]
def hk_4 : kx_H := fun _ _ => 0
def fz_4 : List Value := [.null, .null, .int 0, .int 0]
set_option maxHeartbeats 4000000 in
set_option maxRecDepth 100000 in
theorem in_X4 : kz_In 1 12 yX4_init cX4_init 1 hk_4 sh_4 4 fz_4 2 264 := by
  intro l D K4 h0 sz
  refine Met.ofW (cc := cX4_init) (maxL := 1) (ret := none) (by decide +kernel) rfl ?_
  intro p e s m args below meth c s₁ B hml hv
  obtain ⟨rfl, hz, hlt, hP, hK, hov⟩ := hv
  have hx := B.exec
  have hb := B.bytes
  have hr := B.returns
  have hts0 := atoms_spec (ws := .code yX4_init cX4_init 1 none :: kx_tb) B.pre
  have hts : ∀ w ∈ kx_tb, w.before #[Value.ref h0] s = true := fun w hw => hts0 w (List.mem_cons_of_mem _ hw)
  have hown : s.vm.findClass RX4 = some m.cls := findClass_of_methodNamed B.named
  have hlocks := B.notSynchronized
  have hin : meth.name = "<init>" := (name_of_methodNamed B.named B.method).1
  have hS : va_S (kz_A h0 sz) s.heap s.heap [] := va_S.rf
  have hP : va_P D vwCl ((h0, .inr (4, fz_4)) :: kz_r (kz_ad h0 sz) K4 hk_4 sh_4 1 0) s.heap := hP
  have hz : s.heap.size = sz + 0 := hz
  have hl := lv_entry ([.ref h0]) (n := 1) (Nat.le_of_ble_eq_true rfl)
  rw [lg_entry_eq]
  generalize (lg_sl ([.ref h0]) ++ List.replicate (1 - (lg_sl ([.ref h0])).length) Slot.unset).toArray = ls at hl ⊢
  have hl : lv_has ls 1 [(0, .ref h0)] := hl
  refine lv_aload_n hx hb dX4_init_0 rfl (lv_at hl 0 rfl) ?_
  refine W.objInit hx hb hown (hts (.methodLink RX4 3 objectInit) (kx_t1 207 (by decide +kernel) rfl)) (hts (.instanceMethod objectInit) (kx_t1 20 (by decide +kernel) rfl)) (hts (.code objectInit ⟨#[0xb1]⟩ 1 none) (kx_t1 21 (by decide +kernel) rfl)) rfl (by rw [hml]; exact hl.1) rfl dX4_init_1 (Nat.le_of_ble_eq_true rfl) (Nat.le_of_ble_eq_true rfl) ?_
  refine W.eq (g2 := F0 m 4 ls []) rfl ?_
  refine lv_aload_n hx hb dX4_init_4 rfl (lv_at hl 0 rfl) ?_
  refine lv_sipush (v := nI 256) hx hb dX4_init_5 (by decide) ?_
  refine kz_newi hx hb (hts _ (kx_t1 105 (by decide +kernel) rfl)) hK hP hz hS rfl (by omega) (Nat.le_of_ble_eq_true rfl) (Nat.le_of_ble_eq_true rfl) dX4_init_8 (fun H hz hP hS => ?_)
  have hP := kz_push1 hP rfl
  have hz : H.size = sz + 1 := hz
  refine W.widen (k := 1) (n := 256) (Nat.le_of_ble_eq_true rfl) (Nat.le_of_ble_eq_true rfl) ?_
  refine kz_put (C := RX4) (T := TX4) (N := 4) (ci := 4) (ty := (.array .int)) hx hb hts ly_X4 tyX4 tyX4_ok nmX4 hown hK hP (kz_D (D := D) hlt) hz hS rfl 0 (by decide) (hts _ fl_X4_9.2.2.1) (fun _ h9 => h9) (Or.inr ⟨rfl, hin, rfl⟩) (by decide +kernel) rfl rfl (Nat.le_of_ble_eq_true rfl) dX4_init_10 (fun H locs hz hP hS => ?_)
  have hP : va_P D vwCl ((h0, .inr (4, [.ref (sz + 0), .null, .int 0, .int 0])) :: kz_r (kz_ad h0 sz) K4 hk_4 sh_4 1 1) H := hP
  refine lv_aload_n hx hb dX4_init_13 rfl (lv_at hl 0 rfl) ?_
  refine lv_bipush (v := nI 8) hx hb dX4_init_14 (by decide) ?_
  refine kz_newi hx hb (hts _ (kx_t1 105 (by decide +kernel) rfl)) hK hP hz hS rfl (by omega) (Nat.le_of_ble_eq_true rfl) (Nat.le_of_ble_eq_true rfl) dX4_init_16 (fun H hz hP hS => ?_)
  have hP := kz_push1 hP rfl
  have hz : H.size = sz + 2 := hz
  refine W.widen (k := 2) (n := 264) (Nat.le_of_ble_eq_true rfl) (Nat.le_of_ble_eq_true rfl) ?_
  refine kz_put (C := RX4) (T := TX4) (N := 4) (ci := 4) (ty := (.array .int)) hx hb hts ly_X4 tyX4 tyX4_ok nmX4 hown hK hP (kz_D (D := D) hlt) hz hS rfl 1 (by decide) (hts _ fl_X4_15.2.2.1) (fun _ h9 => h9) (Or.inr ⟨rfl, hin, rfl⟩) (by decide +kernel) rfl rfl (Nat.le_of_ble_eq_true rfl) dX4_init_18 (fun H locs hz hP hS => ?_)
  have hP : va_P D vwCl ((h0, .inr (4, [.ref (sz + 0), .ref (sz + 1), .int 0, .int 0])) :: kz_r (kz_ad h0 sz) K4 hk_4 sh_4 1 2) H := hP
  have hP : va_P D vwCl (kz_r (kz_ad h0 sz) K4 hk_4 sh_4 0 3) H := by rw [← kz_r_one]; exact hP
  exact W.vret hx hb hr (fun t ht hW => ⟨⟨(), rfl, trivial, by rw [ht]; exact hz, by rw [ht]; exact hP⟩, hS.F ht⟩) hS.2.2 dX4_init_21
def sh_3 : List kx_S := [(0, 3, 0, 0, [some 1, some 6, some 7, some 8, some 9, none, none, none, none]), (3, 2, 1, 4, []), (1, 9, 0, 0, []), (1, 9, 0, 0, []), (1, 9, 0, 0, []), (1, 9, 0, 0, []), (1, 4, 0, 0, []), (1, 9, 0, 0, []), (1, 3, 0, 0, []), (1, 3, 0, 0, [])]
def hk_3 : kx_H := fun _ _ => 0
def fz_3 : List Value := [.null, .null, .null, .null, .null, .int 0, .int 0, .int 0, .int 0]
set_option maxHeartbeats 4000000 in
set_option maxRecDepth 100000 in
theorem in_X3 : kz_In 1 12 yX3_init cX3_init 1 hk_3 sh_3 3 fz_3 9 59 := by
  intro l D K4 h0 sz
  refine Met.ofW (cc := cX3_init) (maxL := 1) (ret := none) (by decide +kernel) rfl ?_
  intro p e s m args below meth c s₁ B hml hv
  obtain ⟨rfl, hz, hlt, hP, hK, hov⟩ := hv
  have hx := B.exec
  have hb := B.bytes
  have hr := B.returns
  have hts0 := atoms_spec (ws := .code yX3_init cX3_init 1 none :: kx_tb) B.pre
  have hts : ∀ w ∈ kx_tb, w.before #[Value.ref h0] s = true := fun w hw => hts0 w (List.mem_cons_of_mem _ hw)
  have hown : s.vm.findClass RX3 = some m.cls := findClass_of_methodNamed B.named
  have hlocks := B.notSynchronized
  have hin : meth.name = "<init>" := (name_of_methodNamed B.named B.method).1
  have hS : va_S (kz_A h0 sz) s.heap s.heap [] := va_S.rf
  have hP : va_P D vwCl ((h0, .inr (3, fz_3)) :: kz_r (kz_ad h0 sz) K4 hk_3 sh_3 1 0) s.heap := hP
  have hz : s.heap.size = sz + 0 := hz
  have hl := lv_entry ([.ref h0]) (n := 1) (Nat.le_of_ble_eq_true rfl)
  rw [lg_entry_eq]
  generalize (lg_sl ([.ref h0]) ++ List.replicate (1 - (lg_sl ([.ref h0])).length) Slot.unset).toArray = ls at hl ⊢
  have hl : lv_has ls 1 [(0, .ref h0)] := hl
  refine lv_aload_n hx hb dX3_init_0 rfl (lv_at hl 0 rfl) ?_
  refine W.objInit hx hb hown (hts (.methodLink RX3 3 objectInit) (kx_t1 229 (by decide +kernel) rfl)) (hts (.instanceMethod objectInit) (kx_t1 20 (by decide +kernel) rfl)) (hts (.code objectInit ⟨#[0xb1]⟩ 1 none) (kx_t1 21 (by decide +kernel) rfl)) rfl (by rw [hml]; exact hl.1) rfl dX3_init_1 (Nat.le_of_ble_eq_true rfl) (Nat.le_of_ble_eq_true rfl) ?_
  refine W.eq (g2 := F0 m 4 ls []) rfl ?_
  refine lv_aload_n hx hb dX3_init_4 rfl (lv_at hl 0 rfl) ?_
  refine lv_iconst (v := nI 4) hx hb dX3_init_5 (by decide) ?_
  refine lv_bipush (v := nI 9) hx hb dX3_init_6 (by decide) ?_
  refine kz_mna hx hb hown (hts _ (kx_t1 230 (by decide +kernel) rfl)) hov (hts _ (kx_t1 105 (by decide +kernel) rfl)) hK hP hz hS rfl rfl (by omega) (by omega) (Nat.le_of_ble_eq_true rfl) (Nat.le_of_ble_eq_true rfl) dX3_init_8 (fun H hz hP hS => ?_)
  have hP := kz_pushm hP (kz_mnaX (h0 := h0) (sh := sh_3) (h := hk_3) rfl (kz_alls (by decide +kernel)) (fun i _ => rfl))
  have hz : H.size = sz + 5 := hz
  have hP : va_P D vwCl ((h0, .inr (3, [.null, .null, .null, .null, .null, .int 0, .int 0, .int 0, .int 0])) :: kz_r (kz_ad h0 sz) K4 hk_3 sh_3 1 5) H := hP
  refine W.widen (k := 5) (n := 40) (Nat.le_of_ble_eq_true rfl) (Nat.le_of_ble_eq_true rfl) ?_
  refine kz_put (C := RX3) (T := TX3) (N := 9) (ci := 3) (ty := (.array (.array .int))) hx hb hts ly_X3 tyX3 tyX3_ok nmX3 hown hK hP (kz_D (D := D) hlt) hz hS rfl 0 (by decide) (hts _ fl_X3_11.2.2.1) (fun _ h9 => h9) (Or.inr ⟨rfl, hin, rfl⟩) (by decide +kernel) rfl rfl (Nat.le_of_ble_eq_true rfl) dX3_init_12 (fun H locs hz hP hS => ?_)
  have hP : va_P D vwCl ((h0, .inr (3, [.ref (sz + 0), .null, .null, .null, .null, .int 0, .int 0, .int 0, .int 0])) :: kz_r (kz_ad h0 sz) K4 hk_3 sh_3 1 5) H := hP
  refine lv_aload_n hx hb dX3_init_15 rfl (lv_at hl 0 rfl) ?_
  refine lv_iconst (v := nI 4) hx hb dX3_init_16 (by decide) ?_
  refine kz_newi hx hb (hts _ (kx_t1 105 (by decide +kernel) rfl)) hK hP hz hS rfl (by omega) (Nat.le_of_ble_eq_true rfl) (Nat.le_of_ble_eq_true rfl) dX3_init_17 (fun H hz hP hS => ?_)
  have hP := kz_push1 hP rfl
  have hz : H.size = sz + 6 := hz
  refine W.widen (k := 6) (n := 44) (Nat.le_of_ble_eq_true rfl) (Nat.le_of_ble_eq_true rfl) ?_
  refine kz_put (C := RX3) (T := TX3) (N := 9) (ci := 3) (ty := (.array .int)) hx hb hts ly_X3 tyX3 tyX3_ok nmX3 hown hK hP (kz_D (D := D) hlt) hz hS rfl 1 (by decide) (hts _ fl_X3_16.2.2.1) (fun _ h9 => h9) (Or.inr ⟨rfl, hin, rfl⟩) (by decide +kernel) rfl rfl (Nat.le_of_ble_eq_true rfl) dX3_init_19 (fun H locs hz hP hS => ?_)
  have hP : va_P D vwCl ((h0, .inr (3, [.ref (sz + 0), .ref (sz + 5), .null, .null, .null, .int 0, .int 0, .int 0, .int 0])) :: kz_r (kz_ad h0 sz) K4 hk_3 sh_3 1 6) H := hP
  refine lv_aload_n hx hb dX3_init_22 rfl (lv_at hl 0 rfl) ?_
  refine lv_bipush (v := nI 9) hx hb dX3_init_23 (by decide) ?_
  refine kz_newi hx hb (hts _ (kx_t1 105 (by decide +kernel) rfl)) hK hP hz hS rfl (by omega) (Nat.le_of_ble_eq_true rfl) (Nat.le_of_ble_eq_true rfl) dX3_init_25 (fun H hz hP hS => ?_)
  have hP := kz_push1 hP rfl
  have hz : H.size = sz + 7 := hz
  refine W.widen (k := 7) (n := 53) (Nat.le_of_ble_eq_true rfl) (Nat.le_of_ble_eq_true rfl) ?_
  refine kz_put (C := RX3) (T := TX3) (N := 9) (ci := 3) (ty := (.array .int)) hx hb hts ly_X3 tyX3 tyX3_ok nmX3 hown hK hP (kz_D (D := D) hlt) hz hS rfl 2 (by decide) (hts _ fl_X3_20.2.2.1) (fun _ h9 => h9) (Or.inr ⟨rfl, hin, rfl⟩) (by decide +kernel) rfl rfl (Nat.le_of_ble_eq_true rfl) dX3_init_27 (fun H locs hz hP hS => ?_)
  have hP : va_P D vwCl ((h0, .inr (3, [.ref (sz + 0), .ref (sz + 5), .ref (sz + 6), .null, .null, .int 0, .int 0, .int 0, .int 0])) :: kz_r (kz_ad h0 sz) K4 hk_3 sh_3 1 7) H := hP
  refine lv_aload_n hx hb dX3_init_30 rfl (lv_at hl 0 rfl) ?_
  refine lv_iconst (v := nI 3) hx hb dX3_init_31 (by decide) ?_
  refine kz_newi hx hb (hts _ (kx_t1 105 (by decide +kernel) rfl)) hK hP hz hS rfl (by omega) (Nat.le_of_ble_eq_true rfl) (Nat.le_of_ble_eq_true rfl) dX3_init_32 (fun H hz hP hS => ?_)
  have hP := kz_push1 hP rfl
  have hz : H.size = sz + 8 := hz
  refine W.widen (k := 8) (n := 56) (Nat.le_of_ble_eq_true rfl) (Nat.le_of_ble_eq_true rfl) ?_
  refine kz_put (C := RX3) (T := TX3) (N := 9) (ci := 3) (ty := (.array .int)) hx hb hts ly_X3 tyX3 tyX3_ok nmX3 hown hK hP (kz_D (D := D) hlt) hz hS rfl 3 (by decide) (hts _ fl_X3_23.2.2.1) (fun _ h9 => h9) (Or.inr ⟨rfl, hin, rfl⟩) (by decide +kernel) rfl rfl (Nat.le_of_ble_eq_true rfl) dX3_init_34 (fun H locs hz hP hS => ?_)
  have hP : va_P D vwCl ((h0, .inr (3, [.ref (sz + 0), .ref (sz + 5), .ref (sz + 6), .ref (sz + 7), .null, .int 0, .int 0, .int 0, .int 0])) :: kz_r (kz_ad h0 sz) K4 hk_3 sh_3 1 8) H := hP
  refine lv_aload_n hx hb dX3_init_37 rfl (lv_at hl 0 rfl) ?_
  refine lv_iconst (v := nI 3) hx hb dX3_init_38 (by decide) ?_
  refine kz_newi hx hb (hts _ (kx_t1 105 (by decide +kernel) rfl)) hK hP hz hS rfl (by omega) (Nat.le_of_ble_eq_true rfl) (Nat.le_of_ble_eq_true rfl) dX3_init_39 (fun H hz hP hS => ?_)
  have hP := kz_push1 hP rfl
  have hz : H.size = sz + 9 := hz
  refine W.widen (k := 9) (n := 59) (Nat.le_of_ble_eq_true rfl) (Nat.le_of_ble_eq_true rfl) ?_
  refine kz_put (C := RX3) (T := TX3) (N := 9) (ci := 3) (ty := (.array .int)) hx hb hts ly_X3 tyX3 tyX3_ok nmX3 hown hK hP (kz_D (D := D) hlt) hz hS rfl 4 (by decide) (hts _ fl_X3_26.2.2.1) (fun _ h9 => h9) (Or.inr ⟨rfl, hin, rfl⟩) (by decide +kernel) rfl rfl (Nat.le_of_ble_eq_true rfl) dX3_init_41 (fun H locs hz hP hS => ?_)
  have hP : va_P D vwCl ((h0, .inr (3, [.ref (sz + 0), .ref (sz + 5), .ref (sz + 6), .ref (sz + 7), .ref (sz + 8), .int 0, .int 0, .int 0, .int 0])) :: kz_r (kz_ad h0 sz) K4 hk_3 sh_3 1 9) H := hP
  have hP : va_P D vwCl (kz_r (kz_ad h0 sz) K4 hk_3 sh_3 0 10) H := by rw [← kz_r_one]; exact hP
  exact W.vret hx hb hr (fun t ht hW => ⟨⟨(), rfl, trivial, by rw [ht]; exact hz, by rw [ht]; exact hP⟩, hS.F ht⟩) hS.2.2 dX3_init_44
def sh_1 : List kx_S := [(0, 1, 0, 0, [some 1, none, none, none]), (1, 9, 0, 0, [])]
def hk_1 : kx_H := fun _ _ => 0
def fz_1 : List Value := [.null, .int 0, .int 0, .int 0]
set_option maxHeartbeats 4000000 in
set_option maxRecDepth 100000 in
theorem in_X1 : kz_In 1 12 yX1_init cX1_init 1 hk_1 sh_1 1 fz_1 1 9 := by
  intro l D K4 h0 sz
  refine Met.ofW (cc := cX1_init) (maxL := 1) (ret := none) (by decide +kernel) rfl ?_
  intro p e s m args below meth c s₁ B hml hv
  obtain ⟨rfl, hz, hlt, hP, hK, hov⟩ := hv
  have hx := B.exec
  have hb := B.bytes
  have hr := B.returns
  have hts0 := atoms_spec (ws := .code yX1_init cX1_init 1 none :: kx_tb) B.pre
  have hts : ∀ w ∈ kx_tb, w.before #[Value.ref h0] s = true := fun w hw => hts0 w (List.mem_cons_of_mem _ hw)
  have hown : s.vm.findClass RX1 = some m.cls := findClass_of_methodNamed B.named
  have hlocks := B.notSynchronized
  have hin : meth.name = "<init>" := (name_of_methodNamed B.named B.method).1
  have hS : va_S (kz_A h0 sz) s.heap s.heap [] := va_S.rf
  have hP : va_P D vwCl ((h0, .inr (1, fz_1)) :: kz_r (kz_ad h0 sz) K4 hk_1 sh_1 1 0) s.heap := hP
  have hz : s.heap.size = sz + 0 := hz
  have hl := lv_entry ([.ref h0]) (n := 1) (Nat.le_of_ble_eq_true rfl)
  rw [lg_entry_eq]
  generalize (lg_sl ([.ref h0]) ++ List.replicate (1 - (lg_sl ([.ref h0])).length) Slot.unset).toArray = ls at hl ⊢
  have hl : lv_has ls 1 [(0, .ref h0)] := hl
  refine lv_aload_n hx hb dX1_init_0 rfl (lv_at hl 0 rfl) ?_
  refine W.objInit hx hb hown (hts (.methodLink RX1 3 objectInit) (kx_t1 266 (by decide +kernel) rfl)) (hts (.instanceMethod objectInit) (kx_t1 20 (by decide +kernel) rfl)) (hts (.code objectInit ⟨#[0xb1]⟩ 1 none) (kx_t1 21 (by decide +kernel) rfl)) rfl (by rw [hml]; exact hl.1) rfl dX1_init_1 (Nat.le_of_ble_eq_true rfl) (Nat.le_of_ble_eq_true rfl) ?_
  refine W.eq (g2 := F0 m 4 ls []) rfl ?_
  refine lv_aload_n hx hb dX1_init_4 rfl (lv_at hl 0 rfl) ?_
  refine lv_bipush (v := nI 9) hx hb dX1_init_5 (by decide) ?_
  refine kz_newi hx hb (hts _ (kx_t1 105 (by decide +kernel) rfl)) hK hP hz hS rfl (by omega) (Nat.le_of_ble_eq_true rfl) (Nat.le_of_ble_eq_true rfl) dX1_init_7 (fun H hz hP hS => ?_)
  have hP := kz_push1 hP rfl
  have hz : H.size = sz + 1 := hz
  refine W.widen (k := 1) (n := 9) (Nat.le_of_ble_eq_true rfl) (Nat.le_of_ble_eq_true rfl) ?_
  refine kz_put (C := RX1) (T := TX1) (N := 4) (ci := 1) (ty := (.array .int)) hx hb hts ly_X1 tyX1 tyX1_ok nmX1 hown hK hP (kz_D (D := D) hlt) hz hS rfl 0 (by decide) (hts _ fl_X1_9.2.2.1) (fun _ h9 => h9) (Or.inr ⟨rfl, hin, rfl⟩) (by decide +kernel) rfl rfl (Nat.le_of_ble_eq_true rfl) dX1_init_9 (fun H locs hz hP hS => ?_)
  have hP : va_P D vwCl ((h0, .inr (1, [.ref (sz + 0), .int 0, .int 0, .int 0])) :: kz_r (kz_ad h0 sz) K4 hk_1 sh_1 1 1) H := hP
  have hP : va_P D vwCl (kz_r (kz_ad h0 sz) K4 hk_1 sh_1 0 2) H := by rw [← kz_r_one]; exact hP
  exact W.vret hx hb hr (fun t ht hW => ⟨⟨(), rfl, trivial, by rw [ht]; exact hz, by rw [ht]; exact hP⟩, hS.F ht⟩) hS.2.2 dX1_init_12
def sh_5 : List kx_S := [(0, 5, 0, 0, [none, none, some 1]), (1, 24, 0, 0, [])]
def hk_5 : kx_H := fun j k => if j = 0 ∧ k = 0 then -1 else 0
def fz_5 : List Value := [.int 0, .int 0, .null]
set_option maxHeartbeats 4000000 in
set_option maxRecDepth 100000 in
theorem in_X5 : kz_In 1 12 yX5_init cX5_init 1 hk_5 sh_5 5 fz_5 1 24 := by
  intro l D K4 h0 sz
  refine Met.ofW (cc := cX5_init) (maxL := 1) (ret := none) (by decide +kernel) rfl ?_
  intro p e s m args below meth c s₁ B hml hv
  obtain ⟨rfl, hz, hlt, hP, hK, hov⟩ := hv
  have hx := B.exec
  have hb := B.bytes
  have hr := B.returns
  have hts0 := atoms_spec (ws := .code yX5_init cX5_init 1 none :: kx_tb) B.pre
  have hts : ∀ w ∈ kx_tb, w.before #[Value.ref h0] s = true := fun w hw => hts0 w (List.mem_cons_of_mem _ hw)
  have hown : s.vm.findClass RX5 = some m.cls := findClass_of_methodNamed B.named
  have hlocks := B.notSynchronized
  have hin : meth.name = "<init>" := (name_of_methodNamed B.named B.method).1
  have hS : va_S (kz_A h0 sz) s.heap s.heap [] := va_S.rf
  have hP : va_P D vwCl ((h0, .inr (5, fz_5)) :: kz_r (kz_ad h0 sz) K4 hk_5 sh_5 1 0) s.heap := hP
  have hz : s.heap.size = sz + 0 := hz
  have hl := lv_entry ([.ref h0]) (n := 1) (Nat.le_of_ble_eq_true rfl)
  rw [lg_entry_eq]
  generalize (lg_sl ([.ref h0]) ++ List.replicate (1 - (lg_sl ([.ref h0])).length) Slot.unset).toArray = ls at hl ⊢
  have hl : lv_has ls 1 [(0, .ref h0)] := hl
  refine lv_aload_n hx hb dX5_init_0 rfl (lv_at hl 0 rfl) ?_
  refine W.objInit hx hb hown (hts (.methodLink RX5 3 objectInit) (kx_t1 286 (by decide +kernel) rfl)) (hts (.instanceMethod objectInit) (kx_t1 20 (by decide +kernel) rfl)) (hts (.code objectInit ⟨#[0xb1]⟩ 1 none) (kx_t1 21 (by decide +kernel) rfl)) rfl (by rw [hml]; exact hl.1) rfl dX5_init_1 (Nat.le_of_ble_eq_true rfl) (Nat.le_of_ble_eq_true rfl) ?_
  refine W.eq (g2 := F0 m 4 ls []) rfl ?_
  refine lv_aload_n hx hb dX5_init_4 rfl (lv_at hl 0 rfl) ?_
  refine lv_iconst (v := -1) hx hb dX5_init_5 (by decide) ?_
  refine kz_put (C := RX5) (T := TX5) (N := 3) (ci := 5) (ty := .int) hx hb hts ly_X5 tyX5 tyX5_ok nmX5 hown hK hP (kz_D (D := D) hlt) hz hS rfl 0 (by decide) (hts _ fl_X5_9.2.2.1) (fun _ h9 => h9) (Or.inl rfl) (by decide +kernel) rfl rfl (Nat.le_of_ble_eq_true rfl) dX5_init_6 (fun H locs hz hP hS => ?_)
  have hP : va_P D vwCl ((h0, .inr (5, [.int (-1), .int 0, .null])) :: kz_r (kz_ad h0 sz) K4 hk_5 sh_5 1 0) H := hP
  refine lv_aload_n hx hb dX5_init_9 rfl (lv_at hl 0 rfl) ?_
  refine lv_bipush (v := nI 24) hx hb dX5_init_10 (by decide) ?_
  refine kz_newi hx hb (hts _ (kx_t1 105 (by decide +kernel) rfl)) hK hP hz hS rfl (by omega) (Nat.le_of_ble_eq_true rfl) (Nat.le_of_ble_eq_true rfl) dX5_init_12 (fun H hz hP hS => ?_)
  have hP := kz_push1 hP rfl
  have hz : H.size = sz + 1 := hz
  refine W.widen (k := 1) (n := 24) (Nat.le_of_ble_eq_true rfl) (Nat.le_of_ble_eq_true rfl) ?_
  refine kz_put (C := RX5) (T := TX5) (N := 3) (ci := 5) (ty := (.array .int)) hx hb hts ly_X5 tyX5 tyX5_ok nmX5 hown hK hP (kz_D (D := D) hlt) hz hS rfl 2 (by decide) (hts _ fl_X5_15.2.2.1) (fun _ h9 => h9) (Or.inr ⟨rfl, hin, rfl⟩) (by decide +kernel) rfl rfl (Nat.le_of_ble_eq_true rfl) dX5_init_14 (fun H locs hz hP hS => ?_)
  have hP : va_P D vwCl ((h0, .inr (5, [.int (-1), .int 0, .ref (sz + 0)])) :: kz_r (kz_ad h0 sz) K4 hk_5 sh_5 1 1) H := hP
  have hP : va_P D vwCl (kz_r (kz_ad h0 sz) K4 hk_5 sh_5 0 2) H := by rw [← kz_r_one]; exact hP
  exact W.vret hx hb hr (fun t ht hW => ⟨⟨(), rfl, trivial, by rw [ht]; exact hz, by rw [ht]; exact hP⟩, hS.F ht⟩) hS.2.2 dX5_init_17
