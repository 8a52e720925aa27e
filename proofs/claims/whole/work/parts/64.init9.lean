def sh_9 : List kx_S := [(0, 9, 0, 0, [some 1, some 2, none, some 3, none, some 4, some 5, some 6, some 7, some 8, some 9, some 10, some 11, some 12, some 13, some 14]), (1, 141, 0, 0, []), (1, 141, 0, 0, []), (1, 24, 0, 0, []), (1, 4, 0, 0, []), (1, 4, 0, 0, []), (1, 96, 0, 0, []), (1, 8, 0, 0, []), (1, 8, 0, 0, []), (1, 8, 0, 0, []), (1, 128, 0, 0, []), (1, 4, 0, 0, []), (1, 18, 0, 0, []), (1, 9, 0, 0, []), (1, 9, 0, 0, [])]
def fz_9 : List Value := [.null, .null, .int 0, .null, .int 0, .null, .null, .null, .null, .null, .null, .null, .null, .null, .null, .null]
def hk_90 : kx_H := fun _ _ => 0
def hk_91 : kx_H := kx_up hk_90 1 4 (-4)
def hk_92 : kx_H := kx_up hk_91 1 5 (-4)
def hk_93 : kx_H := kx_up hk_92 1 6 (-4)
def hk_94 : kx_H := kx_up hk_93 1 8 (20)
def hk_95 : kx_H := kx_up hk_94 4 0 (-1)
def hk_96 : kx_H := kx_up hk_95 4 1 (-1)
def hk_97 : kx_H := kx_up hk_96 4 2 (-1)
def hk_98 : kx_H := kx_up hk_97 4 3 (-1)
theorem kz_set {q : Nat × va_E} {ad : Nat → Nat} {K4 : Nat → ClassId} {h : kx_H} {sh : List kx_S} {n j N k : Nat} {x : Int32} (hs : kz_at sh (1 + j) = (1, N, 0, 0, [])) : (q :: kz_r ad K4 h sh 1 n).set (j + 1) (ad (1 + j), .inl (K4 1, N, .inl (fun i => if i = k then x else h (1 + j) i))) = q :: kz_r ad K4 (kx_up h (1 + j) k x) sh 1 n := by
  rw [List.set_cons_succ]
  congr 1
  apply List.ext_getElem?
  intro i
  rw [List.getElem?_set]
  by_cases hi : i < n
  · rw [kz_r_at hi, kz_r_at hi]
    by_cases z : j = i
    · subst z
      rw [if_pos rfl, if_pos (by rw [kz_r_len]; exact hi)]
      unfold kz_c
      rw [hs, kx_cell_i (Or.inl rfl), kx_up_i]
    · rw [if_neg z]
      unfold kz_c
      rw [kx_up_o _ (by omega)]
  · rw [List.getElem?_eq_none (by rw [kz_r_len]; omega), List.getElem?_eq_none (by rw [kz_r_len]; omega)]
    split
    · rw [if_neg (by rw [kz_r_len]; omega)]
    · rfl
set_option maxHeartbeats 8000000 in
set_option maxRecDepth 100000 in
theorem in_X9 : kz_In 1 12 yX9_init cX9_init 2 hk_98 sh_9 9 fz_9 14 602 := by
  intro l D K4 h0 sz
  refine Met.ofW (cc := cX9_init) (maxL := 2) (ret := none) (by decide +kernel) rfl ?_
  intro p e s m args below meth c s₁ B hml hv
  obtain ⟨rfl, hz, hlt, hP, hK, hov⟩ := hv
  have hx := B.exec
  have hb := B.bytes
  have hr := B.returns
  have hts0 := atoms_spec (ws := .code yX9_init cX9_init 2 none :: kx_tb) B.pre
  have hts : ∀ w ∈ kx_tb, w.before #[Value.ref h0] s = true := fun w hw => hts0 w (List.mem_cons_of_mem _ hw)
  have hown : s.vm.findClass RX9 = some m.cls := findClass_of_methodNamed B.named
  have hlocks := B.notSynchronized
  have hin : meth.name = "<init>" := (name_of_methodNamed B.named B.method).1
  have hS : va_S (kz_A h0 sz) s.heap s.heap [] := va_S.rf
  have hP : va_P D vwCl ((h0, .inr (9, fz_9)) :: kz_r (kz_ad h0 sz) K4 hk_90 sh_9 1 0) s.heap := hP
  have hz : s.heap.size = sz + 0 := hz
  have hl := lv_entry ([.ref h0]) (n := 2) (Nat.le_of_ble_eq_true rfl)
  rw [lg_entry_eq]
  generalize (lg_sl ([.ref h0]) ++ List.replicate (2 - (lg_sl ([.ref h0])).length) Slot.unset).toArray = ls at hl ⊢
  have hl : lv_has ls 2 [(0, .ref h0)] := hl
  refine lv_aload_n hx hb dX9_init_0 rfl (lv_at hl 0 rfl) ?_
  refine W.objInit hx hb hown (hts (.methodLink RX9 1 objectInit) (kx_t1 722 (by decide +kernel) rfl)) (hts (.instanceMethod objectInit) (kx_t1 20 (by decide +kernel) rfl)) (hts (.code objectInit ⟨#[0xb1]⟩ 1 none) (kx_t1 21 (by decide +kernel) rfl)) rfl (by rw [hml]; exact hl.1) rfl dX9_init_1 (Nat.le_of_ble_eq_true rfl) (Nat.le_of_ble_eq_true rfl) ?_
  refine W.eq (g2 := F0 m 4 ls []) rfl ?_
  refine lv_aload_n hx hb dX9_init_4 rfl (lv_at hl 0 rfl) ?_
  refine lv_sipush (v := nI 141) hx hb dX9_init_5 (by decide) ?_
  refine kz_newi hx hb (hts _ (kx_t1 105 (by decide +kernel) rfl)) hK hP hz hS rfl (by omega) (Nat.le_of_ble_eq_true rfl) (Nat.le_of_ble_eq_true rfl) dX9_init_8 (fun H hz hP hS => ?_)
  have hP := kz_push1 hP rfl
  have hz : H.size = sz + 1 := hz
  refine W.widen (k := 1) (n := 141) (Nat.le_of_ble_eq_true rfl) (Nat.le_of_ble_eq_true rfl) ?_
  refine kz_put (C := RX9) (T := TX9) (N := 16) (ci := 9) (ty := (.array .int)) hx hb hts ly_X9 tyX9 tyX9_ok nmX9 hown hK hP (kz_D (D := D) hlt) hz hS rfl 0 (by decide) (hts _ fl_X9_7.2.2.1) (fun _ h9 => h9) (Or.inr ⟨rfl, hin, rfl⟩) (by decide +kernel) rfl rfl (Nat.le_of_ble_eq_true rfl) dX9_init_10 (fun H locs hz hP hS => ?_)
  have hP : va_P D vwCl ((h0, .inr (9, [.ref (sz + 0), .null, .int 0, .null, .int 0, .null, .null, .null, .null, .null, .null, .null, .null, .null, .null, .null])) :: kz_r (kz_ad h0 sz) K4 hk_90 sh_9 1 1) H := hP
  refine lv_aload_n hx hb dX9_init_13 rfl (lv_at hl 0 rfl) ?_
  refine lv_sipush (v := nI 141) hx hb dX9_init_14 (by decide) ?_
  refine kz_newi hx hb (hts _ (kx_t1 105 (by decide +kernel) rfl)) hK hP hz hS rfl (by omega) (Nat.le_of_ble_eq_true rfl) (Nat.le_of_ble_eq_true rfl) dX9_init_17 (fun H hz hP hS => ?_)
  have hP := kz_push1 hP rfl
  have hz : H.size = sz + 2 := hz
  refine W.widen (k := 2) (n := 282) (Nat.le_of_ble_eq_true rfl) (Nat.le_of_ble_eq_true rfl) ?_
  refine kz_put (C := RX9) (T := TX9) (N := 16) (ci := 9) (ty := (.array .int)) hx hb hts ly_X9 tyX9 tyX9_ok nmX9 hown hK hP (kz_D (D := D) hlt) hz hS rfl 1 (by decide) (hts _ fl_X9_13.2.2.1) (fun _ h9 => h9) (Or.inr ⟨rfl, hin, rfl⟩) (by decide +kernel) rfl rfl (Nat.le_of_ble_eq_true rfl) dX9_init_19 (fun H locs hz hP hS => ?_)
  have hP : va_P D vwCl ((h0, .inr (9, [.ref (sz + 0), .ref (sz + 1), .int 0, .null, .int 0, .null, .null, .null, .null, .null, .null, .null, .null, .null, .null, .null])) :: kz_r (kz_ad h0 sz) K4 hk_90 sh_9 1 2) H := hP
  refine lv_aload_n hx hb dX9_init_22 rfl (lv_at hl 0 rfl) ?_
  refine lv_bipush (v := nI 24) hx hb dX9_init_23 (by decide) ?_
  refine kz_newi hx hb (hts _ (kx_t1 105 (by decide +kernel) rfl)) hK hP hz hS rfl (by omega) (Nat.le_of_ble_eq_true rfl) (Nat.le_of_ble_eq_true rfl) dX9_init_25 (fun H hz hP hS => ?_)
  have hP := kz_push1 hP rfl
  have hz : H.size = sz + 3 := hz
  refine W.widen (k := 3) (n := 306) (Nat.le_of_ble_eq_true rfl) (Nat.le_of_ble_eq_true rfl) ?_
  refine kz_put (C := RX9) (T := TX9) (N := 16) (ci := 9) (ty := (.array .int)) hx hb hts ly_X9 tyX9 tyX9_ok nmX9 hown hK hP (kz_D (D := D) hlt) hz hS rfl 3 (by decide) (hts _ fl_X9_16.2.2.1) (fun _ h9 => h9) (Or.inr ⟨rfl, hin, rfl⟩) (by decide +kernel) rfl rfl (Nat.le_of_ble_eq_true rfl) dX9_init_27 (fun H locs hz hP hS => ?_)
  have hP : va_P D vwCl ((h0, .inr (9, [.ref (sz + 0), .ref (sz + 1), .int 0, .ref (sz + 2), .int 0, .null, .null, .null, .null, .null, .null, .null, .null, .null, .null, .null])) :: kz_r (kz_ad h0 sz) K4 hk_90 sh_9 1 3) H := hP
  refine lv_aload_n hx hb dX9_init_30 rfl (lv_at hl 0 rfl) ?_
  refine lv_iconst (v := nI 4) hx hb dX9_init_31 (by decide) ?_
  refine kz_newi hx hb (hts _ (kx_t1 105 (by decide +kernel) rfl)) hK hP hz hS rfl (by omega) (Nat.le_of_ble_eq_true rfl) (Nat.le_of_ble_eq_true rfl) dX9_init_32 (fun H hz hP hS => ?_)
  have hP := kz_push1 hP rfl
  have hz : H.size = sz + 4 := hz
  refine W.widen (k := 4) (n := 310) (Nat.le_of_ble_eq_true rfl) (Nat.le_of_ble_eq_true rfl) ?_
  refine kz_put (C := RX9) (T := TX9) (N := 16) (ci := 9) (ty := (.array .int)) hx hb hts ly_X9 tyX9 tyX9_ok nmX9 hown hK hP (kz_D (D := D) hlt) hz hS rfl 5 (by decide) (hts _ fl_X9_19.2.2.1) (fun _ h9 => h9) (Or.inr ⟨rfl, hin, rfl⟩) (by decide +kernel) rfl rfl (Nat.le_of_ble_eq_true rfl) dX9_init_34 (fun H locs hz hP hS => ?_)
  have hP : va_P D vwCl ((h0, .inr (9, [.ref (sz + 0), .ref (sz + 1), .int 0, .ref (sz + 2), .int 0, .ref (sz + 3), .null, .null, .null, .null, .null, .null, .null, .null, .null, .null])) :: kz_r (kz_ad h0 sz) K4 hk_90 sh_9 1 4) H := hP
  refine lv_aload_n hx hb dX9_init_37 rfl (lv_at hl 0 rfl) ?_
  refine lv_iconst (v := nI 4) hx hb dX9_init_38 (by decide) ?_
  refine kz_newi hx hb (hts _ (kx_t1 105 (by decide +kernel) rfl)) hK hP hz hS rfl (by omega) (Nat.le_of_ble_eq_true rfl) (Nat.le_of_ble_eq_true rfl) dX9_init_39 (fun H hz hP hS => ?_)
  have hP := kz_push1 hP rfl
  have hz : H.size = sz + 5 := hz
  refine W.widen (k := 5) (n := 314) (Nat.le_of_ble_eq_true rfl) (Nat.le_of_ble_eq_true rfl) ?_
  refine kz_put (C := RX9) (T := TX9) (N := 16) (ci := 9) (ty := (.array .int)) hx hb hts ly_X9 tyX9 tyX9_ok nmX9 hown hK hP (kz_D (D := D) hlt) hz hS rfl 6 (by decide) (hts _ fl_X9_22.2.2.1) (fun _ h9 => h9) (Or.inr ⟨rfl, hin, rfl⟩) (by decide +kernel) rfl rfl (Nat.le_of_ble_eq_true rfl) dX9_init_41 (fun H locs hz hP hS => ?_)
  have hP : va_P D vwCl ((h0, .inr (9, [.ref (sz + 0), .ref (sz + 1), .int 0, .ref (sz + 2), .int 0, .ref (sz + 3), .ref (sz + 4), .null, .null, .null, .null, .null, .null, .null, .null, .null])) :: kz_r (kz_ad h0 sz) K4 hk_90 sh_9 1 5) H := hP
  refine lv_aload_n hx hb dX9_init_44 rfl (lv_at hl 0 rfl) ?_
  refine lv_bipush (v := nI 96) hx hb dX9_init_45 (by decide) ?_
  refine kz_newi hx hb (hts _ (kx_t1 105 (by decide +kernel) rfl)) hK hP hz hS rfl (by omega) (Nat.le_of_ble_eq_true rfl) (Nat.le_of_ble_eq_true rfl) dX9_init_47 (fun H hz hP hS => ?_)
  have hP := kz_push1 hP rfl
  have hz : H.size = sz + 6 := hz
  refine W.widen (k := 6) (n := 410) (Nat.le_of_ble_eq_true rfl) (Nat.le_of_ble_eq_true rfl) ?_
  refine kz_put (C := RX9) (T := TX9) (N := 16) (ci := 9) (ty := (.array .int)) hx hb hts ly_X9 tyX9 tyX9_ok nmX9 hown hK hP (kz_D (D := D) hlt) hz hS rfl 7 (by decide) (hts _ fl_X9_25.2.2.1) (fun _ h9 => h9) (Or.inr ⟨rfl, hin, rfl⟩) (by decide +kernel) rfl rfl (Nat.le_of_ble_eq_true rfl) dX9_init_49 (fun H locs hz hP hS => ?_)
  have hP : va_P D vwCl ((h0, .inr (9, [.ref (sz + 0), .ref (sz + 1), .int 0, .ref (sz + 2), .int 0, .ref (sz + 3), .ref (sz + 4), .ref (sz + 5), .null, .null, .null, .null, .null, .null, .null, .null])) :: kz_r (kz_ad h0 sz) K4 hk_90 sh_9 1 6) H := hP
  refine lv_aload_n hx hb dX9_init_52 rfl (lv_at hl 0 rfl) ?_
  refine lv_bipush (v := nI 8) hx hb dX9_init_53 (by decide) ?_
  refine kz_newi hx hb (hts _ (kx_t1 105 (by decide +kernel) rfl)) hK hP hz hS rfl (by omega) (Nat.le_of_ble_eq_true rfl) (Nat.le_of_ble_eq_true rfl) dX9_init_55 (fun H hz hP hS => ?_)
  have hP := kz_push1 hP rfl
  have hz : H.size = sz + 7 := hz
  refine W.widen (k := 7) (n := 418) (Nat.le_of_ble_eq_true rfl) (Nat.le_of_ble_eq_true rfl) ?_
  refine kz_put (C := RX9) (T := TX9) (N := 16) (ci := 9) (ty := (.array .int)) hx hb hts ly_X9 tyX9 tyX9_ok nmX9 hown hK hP (kz_D (D := D) hlt) hz hS rfl 8 (by decide) (hts _ fl_X9_28.2.2.1) (fun _ h9 => h9) (Or.inr ⟨rfl, hin, rfl⟩) (by decide +kernel) rfl rfl (Nat.le_of_ble_eq_true rfl) dX9_init_57 (fun H locs hz hP hS => ?_)
  have hP : va_P D vwCl ((h0, .inr (9, [.ref (sz + 0), .ref (sz + 1), .int 0, .ref (sz + 2), .int 0, .ref (sz + 3), .ref (sz + 4), .ref (sz + 5), .ref (sz + 6), .null, .null, .null, .null, .null, .null, .null])) :: kz_r (kz_ad h0 sz) K4 hk_90 sh_9 1 7) H := hP
  refine lv_aload_n hx hb dX9_init_60 rfl (lv_at hl 0 rfl) ?_
  refine lv_bipush (v := nI 8) hx hb dX9_init_61 (by decide) ?_
  refine kz_newi hx hb (hts _ (kx_t1 105 (by decide +kernel) rfl)) hK hP hz hS rfl (by omega) (Nat.le_of_ble_eq_true rfl) (Nat.le_of_ble_eq_true rfl) dX9_init_63 (fun H hz hP hS => ?_)
  have hP := kz_push1 hP rfl
  have hz : H.size = sz + 8 := hz
  refine W.widen (k := 8) (n := 426) (Nat.le_of_ble_eq_true rfl) (Nat.le_of_ble_eq_true rfl) ?_
  refine kz_put (C := RX9) (T := TX9) (N := 16) (ci := 9) (ty := (.array .int)) hx hb hts ly_X9 tyX9 tyX9_ok nmX9 hown hK hP (kz_D (D := D) hlt) hz hS rfl 9 (by decide) (hts _ fl_X9_31.2.2.1) (fun _ h9 => h9) (Or.inr ⟨rfl, hin, rfl⟩) (by decide +kernel) rfl rfl (Nat.le_of_ble_eq_true rfl) dX9_init_65 (fun H locs hz hP hS => ?_)
  have hP : va_P D vwCl ((h0, .inr (9, [.ref (sz + 0), .ref (sz + 1), .int 0, .ref (sz + 2), .int 0, .ref (sz + 3), .ref (sz + 4), .ref (sz + 5), .ref (sz + 6), .ref (sz + 7), .null, .null, .null, .null, .null, .null])) :: kz_r (kz_ad h0 sz) K4 hk_90 sh_9 1 8) H := hP
  refine lv_aload_n hx hb dX9_init_68 rfl (lv_at hl 0 rfl) ?_
  refine lv_bipush (v := nI 8) hx hb dX9_init_69 (by decide) ?_
  refine kz_newi hx hb (hts _ (kx_t1 105 (by decide +kernel) rfl)) hK hP hz hS rfl (by omega) (Nat.le_of_ble_eq_true rfl) (Nat.le_of_ble_eq_true rfl) dX9_init_71 (fun H hz hP hS => ?_)
  have hP := kz_push1 hP rfl
  have hz : H.size = sz + 9 := hz
  refine W.widen (k := 9) (n := 434) (Nat.le_of_ble_eq_true rfl) (Nat.le_of_ble_eq_true rfl) ?_
  refine kz_put (C := RX9) (T := TX9) (N := 16) (ci := 9) (ty := (.array .int)) hx hb hts ly_X9 tyX9 tyX9_ok nmX9 hown hK hP (kz_D (D := D) hlt) hz hS rfl 10 (by decide) (hts _ fl_X9_34.2.2.1) (fun _ h9 => h9) (Or.inr ⟨rfl, hin, rfl⟩) (by decide +kernel) rfl rfl (Nat.le_of_ble_eq_true rfl) dX9_init_73 (fun H locs hz hP hS => ?_)
  have hP : va_P D vwCl ((h0, .inr (9, [.ref (sz + 0), .ref (sz + 1), .int 0, .ref (sz + 2), .int 0, .ref (sz + 3), .ref (sz + 4), .ref (sz + 5), .ref (sz + 6), .ref (sz + 7), .ref (sz + 8), .null, .null, .null, .null, .null])) :: kz_r (kz_ad h0 sz) K4 hk_90 sh_9 1 9) H := hP
  refine lv_aload_n hx hb dX9_init_76 rfl (lv_at hl 0 rfl) ?_
  refine lv_sipush (v := nI 128) hx hb dX9_init_77 (by decide) ?_
  refine kz_newi hx hb (hts _ (kx_t1 105 (by decide +kernel) rfl)) hK hP hz hS rfl (by omega) (Nat.le_of_ble_eq_true rfl) (Nat.le_of_ble_eq_true rfl) dX9_init_80 (fun H hz hP hS => ?_)
  have hP := kz_push1 hP rfl
  have hz : H.size = sz + 10 := hz
  refine W.widen (k := 10) (n := 562) (Nat.le_of_ble_eq_true rfl) (Nat.le_of_ble_eq_true rfl) ?_
  refine kz_put (C := RX9) (T := TX9) (N := 16) (ci := 9) (ty := (.array .int)) hx hb hts ly_X9 tyX9 tyX9_ok nmX9 hown hK hP (kz_D (D := D) hlt) hz hS rfl 11 (by decide) (hts _ fl_X9_37.2.2.1) (fun _ h9 => h9) (Or.inr ⟨rfl, hin, rfl⟩) (by decide +kernel) rfl rfl (Nat.le_of_ble_eq_true rfl) dX9_init_82 (fun H locs hz hP hS => ?_)
  have hP : va_P D vwCl ((h0, .inr (9, [.ref (sz + 0), .ref (sz + 1), .int 0, .ref (sz + 2), .int 0, .ref (sz + 3), .ref (sz + 4), .ref (sz + 5), .ref (sz + 6), .ref (sz + 7), .ref (sz + 8), .ref (sz + 9), .null, .null, .null, .null])) :: kz_r (kz_ad h0 sz) K4 hk_90 sh_9 1 10) H := hP
  refine lv_aload_n hx hb dX9_init_85 rfl (lv_at hl 0 rfl) ?_
  refine lv_iconst (v := nI 4) hx hb dX9_init_86 (by decide) ?_
  refine kz_newi hx hb (hts _ (kx_t1 105 (by decide +kernel) rfl)) hK hP hz hS rfl (by omega) (Nat.le_of_ble_eq_true rfl) (Nat.le_of_ble_eq_true rfl) dX9_init_87 (fun H hz hP hS => ?_)
  have hP := kz_push1 hP rfl
  have hz : H.size = sz + 11 := hz
  refine W.widen (k := 11) (n := 566) (Nat.le_of_ble_eq_true rfl) (Nat.le_of_ble_eq_true rfl) ?_
  refine kz_put (C := RX9) (T := TX9) (N := 16) (ci := 9) (ty := (.array .int)) hx hb hts ly_X9 tyX9 tyX9_ok nmX9 hown hK hP (kz_D (D := D) hlt) hz hS rfl 12 (by decide) (hts _ fl_X9_40.2.2.1) (fun _ h9 => h9) (Or.inr ⟨rfl, hin, rfl⟩) (by decide +kernel) rfl rfl (Nat.le_of_ble_eq_true rfl) dX9_init_89 (fun H locs hz hP hS => ?_)
  have hP : va_P D vwCl ((h0, .inr (9, [.ref (sz + 0), .ref (sz + 1), .int 0, .ref (sz + 2), .int 0, .ref (sz + 3), .ref (sz + 4), .ref (sz + 5), .ref (sz + 6), .ref (sz + 7), .ref (sz + 8), .ref (sz + 9), .ref (sz + 10), .null, .null, .null])) :: kz_r (kz_ad h0 sz) K4 hk_90 sh_9 1 11) H := hP
  refine lv_aload_n hx hb dX9_init_92 rfl (lv_at hl 0 rfl) ?_
  refine lv_bipush (v := nI 18) hx hb dX9_init_93 (by decide) ?_
  refine kz_newi hx hb (hts _ (kx_t1 105 (by decide +kernel) rfl)) hK hP hz hS rfl (by omega) (Nat.le_of_ble_eq_true rfl) (Nat.le_of_ble_eq_true rfl) dX9_init_95 (fun H hz hP hS => ?_)
  have hP := kz_push1 hP rfl
  have hz : H.size = sz + 12 := hz
  refine W.widen (k := 12) (n := 584) (Nat.le_of_ble_eq_true rfl) (Nat.le_of_ble_eq_true rfl) ?_
  refine kz_put (C := RX9) (T := TX9) (N := 16) (ci := 9) (ty := (.array .int)) hx hb hts ly_X9 tyX9 tyX9_ok nmX9 hown hK hP (kz_D (D := D) hlt) hz hS rfl 13 (by decide) (hts _ fl_X9_43.2.2.1) (fun _ h9 => h9) (Or.inr ⟨rfl, hin, rfl⟩) (by decide +kernel) rfl rfl (Nat.le_of_ble_eq_true rfl) dX9_init_97 (fun H locs hz hP hS => ?_)
  have hP : va_P D vwCl ((h0, .inr (9, [.ref (sz + 0), .ref (sz + 1), .int 0, .ref (sz + 2), .int 0, .ref (sz + 3), .ref (sz + 4), .ref (sz + 5), .ref (sz + 6), .ref (sz + 7), .ref (sz + 8), .ref (sz + 9), .ref (sz + 10), .ref (sz + 11), .null, .null])) :: kz_r (kz_ad h0 sz) K4 hk_90 sh_9 1 12) H := hP
  refine lv_aload_n hx hb dX9_init_100 rfl (lv_at hl 0 rfl) ?_
  refine lv_bipush (v := nI 9) hx hb dX9_init_101 (by decide) ?_
  refine kz_newi hx hb (hts _ (kx_t1 105 (by decide +kernel) rfl)) hK hP hz hS rfl (by omega) (Nat.le_of_ble_eq_true rfl) (Nat.le_of_ble_eq_true rfl) dX9_init_103 (fun H hz hP hS => ?_)
  have hP := kz_push1 hP rfl
  have hz : H.size = sz + 13 := hz
  refine W.widen (k := 13) (n := 593) (Nat.le_of_ble_eq_true rfl) (Nat.le_of_ble_eq_true rfl) ?_
  refine kz_put (C := RX9) (T := TX9) (N := 16) (ci := 9) (ty := (.array .int)) hx hb hts ly_X9 tyX9 tyX9_ok nmX9 hown hK hP (kz_D (D := D) hlt) hz hS rfl 14 (by decide) (hts _ fl_X9_46.2.2.1) (fun _ h9 => h9) (Or.inr ⟨rfl, hin, rfl⟩) (by decide +kernel) rfl rfl (Nat.le_of_ble_eq_true rfl) dX9_init_105 (fun H locs hz hP hS => ?_)
  have hP : va_P D vwCl ((h0, .inr (9, [.ref (sz + 0), .ref (sz + 1), .int 0, .ref (sz + 2), .int 0, .ref (sz + 3), .ref (sz + 4), .ref (sz + 5), .ref (sz + 6), .ref (sz + 7), .ref (sz + 8), .ref (sz + 9), .ref (sz + 10), .ref (sz + 11), .ref (sz + 12), .null])) :: kz_r (kz_ad h0 sz) K4 hk_90 sh_9 1 13) H := hP
  refine lv_aload_n hx hb dX9_init_108 rfl (lv_at hl 0 rfl) ?_
  refine lv_bipush (v := nI 9) hx hb dX9_init_109 (by decide) ?_
  refine kz_newi hx hb (hts _ (kx_t1 105 (by decide +kernel) rfl)) hK hP hz hS rfl (by omega) (Nat.le_of_ble_eq_true rfl) (Nat.le_of_ble_eq_true rfl) dX9_init_111 (fun H hz hP hS => ?_)
  have hP := kz_push1 hP rfl
  have hz : H.size = sz + 14 := hz
  refine W.widen (k := 14) (n := 602) (Nat.le_of_ble_eq_true rfl) (Nat.le_of_ble_eq_true rfl) ?_
  refine kz_put (C := RX9) (T := TX9) (N := 16) (ci := 9) (ty := (.array .int)) hx hb hts ly_X9 tyX9 tyX9_ok nmX9 hown hK hP (kz_D (D := D) hlt) hz hS rfl 15 (by decide) (hts _ fl_X9_49.2.2.1) (fun _ h9 => h9) (Or.inr ⟨rfl, hin, rfl⟩) (by decide +kernel) rfl rfl (Nat.le_of_ble_eq_true rfl) dX9_init_113 (fun H locs hz hP hS => ?_)
  have hP : va_P D vwCl ((h0, .inr (9, [.ref (sz + 0), .ref (sz + 1), .int 0, .ref (sz + 2), .int 0, .ref (sz + 3), .ref (sz + 4), .ref (sz + 5), .ref (sz + 6), .ref (sz + 7), .ref (sz + 8), .ref (sz + 9), .ref (sz + 10), .ref (sz + 11), .ref (sz + 12), .ref (sz + 13)])) :: kz_r (kz_ad h0 sz) K4 hk_90 sh_9 1 14) H := hP
  refine lv_aload_n hx hb dX9_init_116 rfl (lv_at hl 0 rfl) ?_
  refine va_get (D := D) (ci := 9) (v := .ref (sz + 0)) (C := RX9) (T := TX9) (N := 16) hx hb hts ly_X9 hown hK hP 0 rfl rfl 0 (by decide) (hts _ fl_X9_7.2.2.1) (fun _ h9 => h9) rfl dX9_init_117 ?_
  refine lv_iconst (v := nI 4) hx hb dX9_init_120 (by decide) ?_
  refine lv_bipush (v := -4) hx hb dX9_init_121 (by decide) ?_
  refine kz_iast hx hb hK hP (kz_D (D := D) hlt) hz hS 1 (a := sz + 0) (n := 141) (f := hk_90 (1 + 0)) rfl (by omega) (by omega) dX9_init_123 (fun H locs hz hP hS => ?_)
  have hP : va_P D vwCl ((h0, .inr (9, [.ref (sz + 0), .ref (sz + 1), .int 0, .ref (sz + 2), .int 0, .ref (sz + 3), .ref (sz + 4), .ref (sz + 5), .ref (sz + 6), .ref (sz + 7), .ref (sz + 8), .ref (sz + 9), .ref (sz + 10), .ref (sz + 11), .ref (sz + 12), .ref (sz + 13)])) :: kz_r (kz_ad h0 sz) K4 hk_91 sh_9 1 14) H := by
    have e := kz_set (q := (h0, .inr (9, [.ref (sz + 0), .ref (sz + 1), .int 0, .ref (sz + 2), .int 0, .ref (sz + 3), .ref (sz + 4), .ref (sz + 5), .ref (sz + 6), .ref (sz + 7), .ref (sz + 8), .ref (sz + 9), .ref (sz + 10), .ref (sz + 11), .ref (sz + 12), .ref (sz + 13)]))) (ad := kz_ad h0 sz) (K4 := K4) (h := hk_90) (sh := sh_9) (n := 14) (j := 0) (N := 141) (k := 4) (x := (-4)) rfl
    rw [show hk_91 = kx_up hk_90 (1 + 0) 4 (-4) from rfl, ← e]
    exact hP
  refine lv_aload_n hx hb dX9_init_124 rfl (lv_at hl 0 rfl) ?_
  refine va_get (D := D) (ci := 9) (v := .ref (sz + 0)) (C := RX9) (T := TX9) (N := 16) hx hb hts ly_X9 hown hK hP 0 rfl rfl 0 (by decide) (hts _ fl_X9_7.2.2.1) (fun _ h9 => h9) rfl dX9_init_125 ?_
  refine lv_iconst (v := nI 5) hx hb dX9_init_128 (by decide) ?_
  refine lv_bipush (v := -4) hx hb dX9_init_129 (by decide) ?_
  refine kz_iast hx hb hK hP (kz_D (D := D) hlt) hz hS 1 (a := sz + 0) (n := 141) (f := hk_91 (1 + 0)) rfl (by omega) (by omega) dX9_init_131 (fun H locs hz hP hS => ?_)
  have hP : va_P D vwCl ((h0, .inr (9, [.ref (sz + 0), .ref (sz + 1), .int 0, .ref (sz + 2), .int 0, .ref (sz + 3), .ref (sz + 4), .ref (sz + 5), .ref (sz + 6), .ref (sz + 7), .ref (sz + 8), .ref (sz + 9), .ref (sz + 10), .ref (sz + 11), .ref (sz + 12), .ref (sz + 13)])) :: kz_r (kz_ad h0 sz) K4 hk_92 sh_9 1 14) H := by
    have e := kz_set (q := (h0, .inr (9, [.ref (sz + 0), .ref (sz + 1), .int 0, .ref (sz + 2), .int 0, .ref (sz + 3), .ref (sz + 4), .ref (sz + 5), .ref (sz + 6), .ref (sz + 7), .ref (sz + 8), .ref (sz + 9), .ref (sz + 10), .ref (sz + 11), .ref (sz + 12), .ref (sz + 13)]))) (ad := kz_ad h0 sz) (K4 := K4) (h := hk_91) (sh := sh_9) (n := 14) (j := 0) (N := 141) (k := 5) (x := (-4)) rfl
    rw [show hk_92 = kx_up hk_91 (1 + 0) 5 (-4) from rfl, ← e]
    exact hP
  refine lv_aload_n hx hb dX9_init_132 rfl (lv_at hl 0 rfl) ?_
  refine va_get (D := D) (ci := 9) (v := .ref (sz + 0)) (C := RX9) (T := TX9) (N := 16) hx hb hts ly_X9 hown hK hP 0 rfl rfl 0 (by decide) (hts _ fl_X9_7.2.2.1) (fun _ h9 => h9) rfl dX9_init_133 ?_
  refine lv_bipush (v := nI 6) hx hb dX9_init_136 (by decide) ?_
  refine lv_bipush (v := -4) hx hb dX9_init_138 (by decide) ?_
  refine kz_iast hx hb hK hP (kz_D (D := D) hlt) hz hS 1 (a := sz + 0) (n := 141) (f := hk_92 (1 + 0)) rfl (by omega) (by omega) dX9_init_140 (fun H locs hz hP hS => ?_)
  have hP : va_P D vwCl ((h0, .inr (9, [.ref (sz + 0), .ref (sz + 1), .int 0, .ref (sz + 2), .int 0, .ref (sz + 3), .ref (sz + 4), .ref (sz + 5), .ref (sz + 6), .ref (sz + 7), .ref (sz + 8), .ref (sz + 9), .ref (sz + 10), .ref (sz + 11), .ref (sz + 12), .ref (sz + 13)])) :: kz_r (kz_ad h0 sz) K4 hk_93 sh_9 1 14) H := by
    have e := kz_set (q := (h0, .inr (9, [.ref (sz + 0), .ref (sz + 1), .int 0, .ref (sz + 2), .int 0, .ref (sz + 3), .ref (sz + 4), .ref (sz + 5), .ref (sz + 6), .ref (sz + 7), .ref (sz + 8), .ref (sz + 9), .ref (sz + 10), .ref (sz + 11), .ref (sz + 12), .ref (sz + 13)]))) (ad := kz_ad h0 sz) (K4 := K4) (h := hk_92) (sh := sh_9) (n := 14) (j := 0) (N := 141) (k := 6) (x := (-4)) rfl
    rw [show hk_93 = kx_up hk_92 (1 + 0) 6 (-4) from rfl, ← e]
    exact hP
  refine lv_aload_n hx hb dX9_init_141 rfl (lv_at hl 0 rfl) ?_
  refine va_get (D := D) (ci := 9) (v := .ref (sz + 0)) (C := RX9) (T := TX9) (N := 16) hx hb hts ly_X9 hown hK hP 0 rfl rfl 0 (by decide) (hts _ fl_X9_7.2.2.1) (fun _ h9 => h9) rfl dX9_init_142 ?_
  refine lv_bipush (v := nI 8) hx hb dX9_init_145 (by decide) ?_
  refine lv_bipush (v := nI 20) hx hb dX9_init_147 (by decide) ?_
  refine kz_iast hx hb hK hP (kz_D (D := D) hlt) hz hS 1 (a := sz + 0) (n := 141) (f := hk_93 (1 + 0)) rfl (by omega) (by omega) dX9_init_149 (fun H locs hz hP hS => ?_)
  have hP : va_P D vwCl ((h0, .inr (9, [.ref (sz + 0), .ref (sz + 1), .int 0, .ref (sz + 2), .int 0, .ref (sz + 3), .ref (sz + 4), .ref (sz + 5), .ref (sz + 6), .ref (sz + 7), .ref (sz + 8), .ref (sz + 9), .ref (sz + 10), .ref (sz + 11), .ref (sz + 12), .ref (sz + 13)])) :: kz_r (kz_ad h0 sz) K4 hk_94 sh_9 1 14) H := by
    have e := kz_set (q := (h0, .inr (9, [.ref (sz + 0), .ref (sz + 1), .int 0, .ref (sz + 2), .int 0, .ref (sz + 3), .ref (sz + 4), .ref (sz + 5), .ref (sz + 6), .ref (sz + 7), .ref (sz + 8), .ref (sz + 9), .ref (sz + 10), .ref (sz + 11), .ref (sz + 12), .ref (sz + 13)]))) (ad := kz_ad h0 sz) (K4 := K4) (h := hk_93) (sh := sh_9) (n := 14) (j := 0) (N := 141) (k := 8) (x := (nI 20)) rfl
    rw [show hk_94 = kx_up hk_93 (1 + 0) 8 (nI 20) from rfl, ← e]
    exact hP
  refine lv_iconst (v := nI 0) hx hb dX9_init_150 (by decide) ?_
  refine lv_istore_n (lv' := [(1, .int (nI 0)), (0, .ref h0)]) hx hb dX9_init_151 rfl hl (by decide) rfl (fun ls hl => ?_)
  refine lv_iload_n hx hb dX9_init_152 rfl (lv_at hl 0 rfl) ?_
  refine lv_iconst (v := nI 4) hx hb dX9_init_153 (by decide) ?_
  refine lv_icmp_ge (tgt := 170) hx hb dX9_init_154 (by decide) (fun c1 => ?_) (fun c1 => ?_)
  · exact absurd c1 (by decide)
  refine lv_aload_n hx hb dX9_init_157 rfl (lv_at hl 1 rfl) ?_
  refine va_get (D := D) (ci := 9) (v := .ref (sz + 3)) (C := RX9) (T := TX9) (N := 16) hx hb hts ly_X9 hown hK hP 0 rfl rfl 5 (by decide) (hts _ fl_X9_19.2.2.1) (fun _ h9 => h9) rfl dX9_init_158 ?_
  refine lv_iload_n hx hb dX9_init_161 rfl (lv_at hl 0 rfl) ?_
  refine lv_iconst (v := -1) hx hb dX9_init_162 (by decide) ?_
  refine kz_iast hx hb hK hP (kz_D (D := D) hlt) hz hS 4 (a := sz + 3) (n := 4) (f := hk_94 (1 + 3)) rfl (by omega) (by omega) dX9_init_163 (fun H locs hz hP hS => ?_)
  have hP : va_P D vwCl ((h0, .inr (9, [.ref (sz + 0), .ref (sz + 1), .int 0, .ref (sz + 2), .int 0, .ref (sz + 3), .ref (sz + 4), .ref (sz + 5), .ref (sz + 6), .ref (sz + 7), .ref (sz + 8), .ref (sz + 9), .ref (sz + 10), .ref (sz + 11), .ref (sz + 12), .ref (sz + 13)])) :: kz_r (kz_ad h0 sz) K4 hk_95 sh_9 1 14) H := by
    have e := kz_set (q := (h0, .inr (9, [.ref (sz + 0), .ref (sz + 1), .int 0, .ref (sz + 2), .int 0, .ref (sz + 3), .ref (sz + 4), .ref (sz + 5), .ref (sz + 6), .ref (sz + 7), .ref (sz + 8), .ref (sz + 9), .ref (sz + 10), .ref (sz + 11), .ref (sz + 12), .ref (sz + 13)]))) (ad := kz_ad h0 sz) (K4 := K4) (h := hk_94) (sh := sh_9) (n := 14) (j := 3) (N := 4) (k := 0) (x := (-1)) rfl
    rw [show hk_95 = kx_up hk_94 (1 + 3) 0 (-1) from rfl, ← e]
    exact hP
  refine lv_iinc (v := nI 1) (lv' := [(1, .int (nI 1)), (0, .ref h0)]) hx hb dX9_init_164 hl (k := 0) rfl rfl (by decide) rfl (fun ls hl => ?_)
  refine lv_goto (tgt := 152) hx hb dX9_init_167 (by decide) ?_
  refine lv_iload_n hx hb dX9_init_152 rfl (lv_at hl 0 rfl) ?_
  refine lv_iconst (v := nI 4) hx hb dX9_init_153 (by decide) ?_
  refine lv_icmp_ge (tgt := 170) hx hb dX9_init_154 (by decide) (fun c1 => ?_) (fun c1 => ?_)
  · exact absurd c1 (by decide)
  refine lv_aload_n hx hb dX9_init_157 rfl (lv_at hl 1 rfl) ?_
  refine va_get (D := D) (ci := 9) (v := .ref (sz + 3)) (C := RX9) (T := TX9) (N := 16) hx hb hts ly_X9 hown hK hP 0 rfl rfl 5 (by decide) (hts _ fl_X9_19.2.2.1) (fun _ h9 => h9) rfl dX9_init_158 ?_
  refine lv_iload_n hx hb dX9_init_161 rfl (lv_at hl 0 rfl) ?_
  refine lv_iconst (v := -1) hx hb dX9_init_162 (by decide) ?_
  refine kz_iast hx hb hK hP (kz_D (D := D) hlt) hz hS 4 (a := sz + 3) (n := 4) (f := hk_95 (1 + 3)) rfl (by omega) (by omega) dX9_init_163 (fun H locs hz hP hS => ?_)
  have hP : va_P D vwCl ((h0, .inr (9, [.ref (sz + 0), .ref (sz + 1), .int 0, .ref (sz + 2), .int 0, .ref (sz + 3), .ref (sz + 4), .ref (sz + 5), .ref (sz + 6), .ref (sz + 7), .ref (sz + 8), .ref (sz + 9), .ref (sz + 10), .ref (sz + 11), .ref (sz + 12), .ref (sz + 13)])) :: kz_r (kz_ad h0 sz) K4 hk_96 sh_9 1 14) H := by
    have e := kz_set (q := (h0, .inr (9, [.ref (sz + 0), .ref (sz + 1), .int 0, .ref (sz + 2), .int 0, .ref (sz + 3), .ref (sz + 4), .ref (sz + 5), .ref (sz + 6), .ref (sz + 7), .ref (sz + 8), .ref (sz + 9), .ref (sz + 10), .ref (sz + 11), .ref (sz + 12), .ref (sz + 13)]))) (ad := kz_ad h0 sz) (K4 := K4) (h := hk_95) (sh := sh_9) (n := 14) (j := 3) (N := 4) (k := 1) (x := (-1)) rfl
    rw [show hk_96 = kx_up hk_95 (1 + 3) 1 (-1) from rfl, ← e]
    exact hP
  refine lv_iinc (v := nI 2) (lv' := [(1, .int (nI 2)), (0, .ref h0)]) hx hb dX9_init_164 hl (k := 0) rfl rfl (by decide) rfl (fun ls hl => ?_)
  refine lv_goto (tgt := 152) hx hb dX9_init_167 (by decide) ?_
  refine lv_iload_n hx hb dX9_init_152 rfl (lv_at hl 0 rfl) ?_
  refine lv_iconst (v := nI 4) hx hb dX9_init_153 (by decide) ?_
  refine lv_icmp_ge (tgt := 170) hx hb dX9_init_154 (by decide) (fun c1 => ?_) (fun c1 => ?_)
  · exact absurd c1 (by decide)
  refine lv_aload_n hx hb dX9_init_157 rfl (lv_at hl 1 rfl) ?_
  refine va_get (D := D) (ci := 9) (v := .ref (sz + 3)) (C := RX9) (T := TX9) (N := 16) hx hb hts ly_X9 hown hK hP 0 rfl rfl 5 (by decide) (hts _ fl_X9_19.2.2.1) (fun _ h9 => h9) rfl dX9_init_158 ?_
  refine lv_iload_n hx hb dX9_init_161 rfl (lv_at hl 0 rfl) ?_
  refine lv_iconst (v := -1) hx hb dX9_init_162 (by decide) ?_
  refine kz_iast hx hb hK hP (kz_D (D := D) hlt) hz hS 4 (a := sz + 3) (n := 4) (f := hk_96 (1 + 3)) rfl (by omega) (by omega) dX9_init_163 (fun H locs hz hP hS => ?_)
  have hP : va_P D vwCl ((h0, .inr (9, [.ref (sz + 0), .ref (sz + 1), .int 0, .ref (sz + 2), .int 0, .ref (sz + 3), .ref (sz + 4), .ref (sz + 5), .ref (sz + 6), .ref (sz + 7), .ref (sz + 8), .ref (sz + 9), .ref (sz + 10), .ref (sz + 11), .ref (sz + 12), .ref (sz + 13)])) :: kz_r (kz_ad h0 sz) K4 hk_97 sh_9 1 14) H := by
    have e := kz_set (q := (h0, .inr (9, [.ref (sz + 0), .ref (sz + 1), .int 0, .ref (sz + 2), .int 0, .ref (sz + 3), .ref (sz + 4), .ref (sz + 5), .ref (sz + 6), .ref (sz + 7), .ref (sz + 8), .ref (sz + 9), .ref (sz + 10), .ref (sz + 11), .ref (sz + 12), .ref (sz + 13)]))) (ad := kz_ad h0 sz) (K4 := K4) (h := hk_96) (sh := sh_9) (n := 14) (j := 3) (N := 4) (k := 2) (x := (-1)) rfl
    rw [show hk_97 = kx_up hk_96 (1 + 3) 2 (-1) from rfl, ← e]
    exact hP
  refine lv_iinc (v := nI 3) (lv' := [(1, .int (nI 3)), (0, .ref h0)]) hx hb dX9_init_164 hl (k := 0) rfl rfl (by decide) rfl (fun ls hl => ?_)
  refine lv_goto (tgt := 152) hx hb dX9_init_167 (by decide) ?_
  refine lv_iload_n hx hb dX9_init_152 rfl (lv_at hl 0 rfl) ?_
  refine lv_iconst (v := nI 4) hx hb dX9_init_153 (by decide) ?_
  refine lv_icmp_ge (tgt := 170) hx hb dX9_init_154 (by decide) (fun c1 => ?_) (fun c1 => ?_)
  · exact absurd c1 (by decide)
  refine lv_aload_n hx hb dX9_init_157 rfl (lv_at hl 1 rfl) ?_
  refine va_get (D := D) (ci := 9) (v := .ref (sz + 3)) (C := RX9) (T := TX9) (N := 16) hx hb hts ly_X9 hown hK hP 0 rfl rfl 5 (by decide) (hts _ fl_X9_19.2.2.1) (fun _ h9 => h9) rfl dX9_init_158 ?_
  refine lv_iload_n hx hb dX9_init_161 rfl (lv_at hl 0 rfl) ?_
  refine lv_iconst (v := -1) hx hb dX9_init_162 (by decide) ?_
  refine kz_iast hx hb hK hP (kz_D (D := D) hlt) hz hS 4 (a := sz + 3) (n := 4) (f := hk_97 (1 + 3)) rfl (by omega) (by omega) dX9_init_163 (fun H locs hz hP hS => ?_)
  have hP : va_P D vwCl ((h0, .inr (9, [.ref (sz + 0), .ref (sz + 1), .int 0, .ref (sz + 2), .int 0, .ref (sz + 3), .ref (sz + 4), .ref (sz + 5), .ref (sz + 6), .ref (sz + 7), .ref (sz + 8), .ref (sz + 9), .ref (sz + 10), .ref (sz + 11), .ref (sz + 12), .ref (sz + 13)])) :: kz_r (kz_ad h0 sz) K4 hk_98 sh_9 1 14) H := by
    have e := kz_set (q := (h0, .inr (9, [.ref (sz + 0), .ref (sz + 1), .int 0, .ref (sz + 2), .int 0, .ref (sz + 3), .ref (sz + 4), .ref (sz + 5), .ref (sz + 6), .ref (sz + 7), .ref (sz + 8), .ref (sz + 9), .ref (sz + 10), .ref (sz + 11), .ref (sz + 12), .ref (sz + 13)]))) (ad := kz_ad h0 sz) (K4 := K4) (h := hk_97) (sh := sh_9) (n := 14) (j := 3) (N := 4) (k := 3) (x := (-1)) rfl
    rw [show hk_98 = kx_up hk_97 (1 + 3) 3 (-1) from rfl, ← e]
    exact hP
  refine lv_iinc (v := nI 4) (lv' := [(1, .int (nI 4)), (0, .ref h0)]) hx hb dX9_init_164 hl (k := 0) rfl rfl (by decide) rfl (fun ls hl => ?_)
  refine lv_goto (tgt := 152) hx hb dX9_init_167 (by decide) ?_
  refine lv_iload_n hx hb dX9_init_152 rfl (lv_at hl 0 rfl) ?_
  refine lv_iconst (v := nI 4) hx hb dX9_init_153 (by decide) ?_
  refine lv_icmp_ge (tgt := 170) hx hb dX9_init_154 (by decide) (fun c1 => ?_) (fun c1 => ?_)
  · have hP : va_P D vwCl (kz_r (kz_ad h0 sz) K4 hk_98 sh_9 0 15) H := by rw [← kz_r_one]; exact hP
    exact W.vret hx hb hr (fun t ht hW => ⟨⟨(), rfl, trivial, by rw [ht]; exact hz, by rw [ht]; exact hP⟩, hS.F ht⟩) hS.2.2 dX9_init_170
  · exact absurd (by decide) c1
