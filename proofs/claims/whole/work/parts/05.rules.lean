theorem kx_iconst {own : String} {cc : ByteArray} {nL dp : Nat} {F : kx_F} (C : kx_Ru own cc nL dp F) {pc : Nat} {L : List (Option Value)} {S : List Value} {h : kx_H} {n : Int} {v : Int32} (d : decode cc pc = .ok (.iconst n, 1)) (hv : Int32.ofInt n = v) (k : F (pc + 1) L (.int v :: S) h) : F pc L S h := by
  obtain ⟨p, l, e, R, s, m, args, below, meth, c, cells, slots, Q, D, ad, cA, A, ⟨hx, hb, hml, hown, hts⟩, hN, hK, hJ, hA, hR, rfl⟩ := C
  intro H locs ls hP hS hl
  exact lv_iconst hx hb d hv (k H locs ls hP hS hl)
theorem kx_bipush {own : String} {cc : ByteArray} {nL dp : Nat} {F : kx_F} (C : kx_Ru own cc nL dp F) {pc : Nat} {L : List (Option Value)} {S : List Value} {h : kx_H} {n : Int} {v : Int32} (d : decode cc pc = .ok (.bipush n, 2)) (hv : (Int8.ofInt n).toInt32 = v) (k : F (pc + 2) L (.int v :: S) h) : F pc L S h := by
  obtain ⟨p, l, e, R, s, m, args, below, meth, c, cells, slots, Q, D, ad, cA, A, ⟨hx, hb, hml, hown, hts⟩, hN, hK, hJ, hA, hR, rfl⟩ := C
  intro H locs ls hP hS hl
  exact lv_bipush hx hb d hv (k H locs ls hP hS hl)
theorem kx_sipush {own : String} {cc : ByteArray} {nL dp : Nat} {F : kx_F} (C : kx_Ru own cc nL dp F) {pc : Nat} {L : List (Option Value)} {S : List Value} {h : kx_H} {n : Int} {v : Int32} (d : decode cc pc = .ok (.sipush n, 3)) (hv : (Int16.ofInt n).toInt32 = v) (k : F (pc + 3) L (.int v :: S) h) : F pc L S h := by
  obtain ⟨p, l, e, R, s, m, args, below, meth, c, cells, slots, Q, D, ad, cA, A, ⟨hx, hb, hml, hown, hts⟩, hN, hK, hJ, hA, hR, rfl⟩ := C
  intro H locs ls hP hS hl
  exact lv_sipush hx hb d hv (k H locs ls hP hS hl)
theorem kx_lconst {own : String} {cc : ByteArray} {nL dp : Nat} {F : kx_F} (C : kx_Ru own cc nL dp F) {pc : Nat} {L : List (Option Value)} {S : List Value} {h : kx_H} {n : Fin 2} {v : Int64} (d : decode cc pc = .ok (.lconst n, 1)) (hv : Int64.ofNat (n : Nat) = v) (k : F (pc + 1) L (.long v :: S) h) : F pc L S h := by
  obtain ⟨p, l, e, R, s, m, args, below, meth, c, cells, slots, Q, D, ad, cA, A, ⟨hx, hb, hml, hown, hts⟩, hN, hK, hJ, hA, hR, rfl⟩ := C
  intro H locs ls hP hS hl
  exact lv_lconst hx hb d hv (k H locs ls hP hS hl)
theorem kx_ldc {own : String} {cc : ByteArray} {nL dp : Nat} {F : kx_F} (C : kx_Ru own cc nL dp F) {pc : Nat} {L : List (Option Value)} {S : List Value} {h : kx_H} {i : Nat} {v : Int32} (d : decode cc pc = .ok (.ldc i, 2)) (hc : Cond.constant own i v ∈ kx_tb) (k : F (pc + 2) L (.int v :: S) h) : F pc L S h := by
  obtain ⟨p, l, e, R, s, m, args, below, meth, c, cells, slots, Q, D, ad, cA, A, ⟨hx, hb, hml, hown, hts⟩, hN, hK, hJ, hA, hR, rfl⟩ := C
  intro H locs ls hP hS hl
  exact lv_ldc hx hb hown (hts _ hc) d (k H locs ls hP hS hl)
theorem kx_ldcw {own : String} {cc : ByteArray} {nL dp : Nat} {F : kx_F} (C : kx_Ru own cc nL dp F) {pc : Nat} {L : List (Option Value)} {S : List Value} {h : kx_H} {i : Nat} {v : Int32} (d : decode cc pc = .ok (.ldc_w i, 3)) (hc : Cond.constant own i v ∈ kx_tb) (k : F (pc + 3) L (.int v :: S) h) : F pc L S h := by
  obtain ⟨p, l, e, R, s, m, args, below, meth, c, cells, slots, Q, D, ad, cA, A, ⟨hx, hb, hml, hown, hts⟩, hN, hK, hJ, hA, hR, rfl⟩ := C
  intro H locs ls hP hS hl
  exact lv_ldcw hx hb hown (hts _ hc) d (k H locs ls hP hS hl)
theorem kx_ldc2 {own : String} {cc : ByteArray} {nL dp : Nat} {F : kx_F} (C : kx_Ru own cc nL dp F) {pc : Nat} {L : List (Option Value)} {S : List Value} {h : kx_H} {i : Nat} {v : Int64} (d : decode cc pc = .ok (.ldc2_w i, 3)) (hc : Cond.constantLong own i v ∈ kx_tb) (k : F (pc + 3) L (.long v :: S) h) : F pc L S h := by
  obtain ⟨p, l, e, R, s, m, args, below, meth, c, cells, slots, Q, D, ad, cA, A, ⟨hx, hb, hml, hown, hts⟩, hN, hK, hJ, hA, hR, rfl⟩ := C
  intro H locs ls hP hS hl
  exact lv_ldc2 hx hb hown (hts _ hc) d (k H locs ls hP hS hl)
theorem kx_iload_g {own : String} {cc : ByteArray} {nL dp : Nat} {F : kx_F} (C : kx_Ru own cc nL dp F) {pc : Nat} {L : List (Option Value)} {S : List Value} {h : kx_H} {i : Nat} {x : Int32} (d : decode cc pc = .ok (.iload i, 2)) (hi : L[i]? = some (some (.int x))) (k : F (pc + 2) L (.int x :: S) h) : F pc L S h := by
  obtain ⟨p, l, e, R, s, m, args, below, meth, c, cells, slots, Q, D, ad, cA, A, ⟨hx, hb, hml, hown, hts⟩, hN, hK, hJ, hA, hR, rfl⟩ := C
  intro H locs ls hP hS hl
  exact lv_iload hx hb d (kx_lo_at hl hi) (k H locs ls hP hS hl)
theorem kx_iloadn_g {own : String} {cc : ByteArray} {nL dp : Nat} {F : kx_F} (C : kx_Ru own cc nL dp F) {pc : Nat} {L : List (Option Value)} {S : List Value} {h : kx_H} {j : Fin 4} {x : Int32} (d : decode cc pc = .ok (.iload_n j, 1)) (hi : L[(j : Nat)]? = some (some (.int x))) (k : F (pc + 1) L (.int x :: S) h) : F pc L S h := by
  obtain ⟨p, l, e, R, s, m, args, below, meth, c, cells, slots, Q, D, ad, cA, A, ⟨hx, hb, hml, hown, hts⟩, hN, hK, hJ, hA, hR, rfl⟩ := C
  intro H locs ls hP hS hl
  exact lv_iload_n hx hb d rfl (kx_lo_at hl hi) (k H locs ls hP hS hl)
theorem kx_lload_g {own : String} {cc : ByteArray} {nL dp : Nat} {F : kx_F} (C : kx_Ru own cc nL dp F) {pc : Nat} {L : List (Option Value)} {S : List Value} {h : kx_H} {i : Nat} {x : Int64} (d : decode cc pc = .ok (.lload i, 2)) (hi : L[i]? = some (some (.long x))) (k : F (pc + 2) L (.long x :: S) h) : F pc L S h := by
  obtain ⟨p, l, e, R, s, m, args, below, meth, c, cells, slots, Q, D, ad, cA, A, ⟨hx, hb, hml, hown, hts⟩, hN, hK, hJ, hA, hR, rfl⟩ := C
  intro H locs ls hP hS hl
  exact lv_lload hx hb d (kx_lo_at hl hi) (k H locs ls hP hS hl)
theorem kx_lloadn_g {own : String} {cc : ByteArray} {nL dp : Nat} {F : kx_F} (C : kx_Ru own cc nL dp F) {pc : Nat} {L : List (Option Value)} {S : List Value} {h : kx_H} {j : Fin 4} {x : Int64} (d : decode cc pc = .ok (.lload_n j, 1)) (hi : L[(j : Nat)]? = some (some (.long x))) (k : F (pc + 1) L (.long x :: S) h) : F pc L S h := by
  obtain ⟨p, l, e, R, s, m, args, below, meth, c, cells, slots, Q, D, ad, cA, A, ⟨hx, hb, hml, hown, hts⟩, hN, hK, hJ, hA, hR, rfl⟩ := C
  intro H locs ls hP hS hl
  exact lv_lload_n hx hb d rfl (kx_lo_at hl hi) (k H locs ls hP hS hl)
theorem kx_aload_g {own : String} {cc : ByteArray} {nL dp : Nat} {F : kx_F} (C : kx_Ru own cc nL dp F) {pc : Nat} {L : List (Option Value)} {S : List Value} {h : kx_H} {i : Nat} {x : Nat} (d : decode cc pc = .ok (.aload i, 2)) (hi : L[i]? = some (some (.ref x))) (k : F (pc + 2) L (.ref x :: S) h) : F pc L S h := by
  obtain ⟨p, l, e, R, s, m, args, below, meth, c, cells, slots, Q, D, ad, cA, A, ⟨hx, hb, hml, hown, hts⟩, hN, hK, hJ, hA, hR, rfl⟩ := C
  intro H locs ls hP hS hl
  exact lv_aload hx hb d (kx_lo_at hl hi) (k H locs ls hP hS hl)
theorem kx_aloadn_g {own : String} {cc : ByteArray} {nL dp : Nat} {F : kx_F} (C : kx_Ru own cc nL dp F) {pc : Nat} {L : List (Option Value)} {S : List Value} {h : kx_H} {j : Fin 4} {x : Nat} (d : decode cc pc = .ok (.aload_n j, 1)) (hi : L[(j : Nat)]? = some (some (.ref x))) (k : F (pc + 1) L (.ref x :: S) h) : F pc L S h := by
  obtain ⟨p, l, e, R, s, m, args, below, meth, c, cells, slots, Q, D, ad, cA, A, ⟨hx, hb, hml, hown, hts⟩, hN, hK, hJ, hA, hR, rfl⟩ := C
  intro H locs ls hP hS hl
  exact lv_aload_n hx hb d rfl (kx_lo_at hl hi) (k H locs ls hP hS hl)
theorem kx_istore_g {own : String} {cc : ByteArray} {nL dp : Nat} {F : kx_F} (C : kx_Ru own cc nL dp F) {pc : Nat} {L : List (Option Value)} {S : List Value} {h : kx_H} {i : Nat} {x : Int32} (d : decode cc pc = .ok (.istore i, 2)) (hn : i < nL) (hc : kx_nl L i = true) (k : F (pc + 2) (L.set i (some (.int x))) S h) : F pc L (.int x :: S) h := by
  obtain ⟨p, l, e, R, s, m, args, below, meth, c, cells, slots, Q, D, ad, cA, A, ⟨hx, hb, hml, hown, hts⟩, hN, hK, hJ, hA, hR, rfl⟩ := C
  intro H locs ls hP hS hl
  exact lv_istore hx hb d hl hn rfl (fun ls1 hl1 => k H locs ls1 hP hS (kx_lo_set (v := .int x) hc hl1))
theorem kx_istoren_g {own : String} {cc : ByteArray} {nL dp : Nat} {F : kx_F} (C : kx_Ru own cc nL dp F) {pc : Nat} {L : List (Option Value)} {S : List Value} {h : kx_H} {j : Fin 4} {x : Int32} (d : decode cc pc = .ok (.istore_n j, 1)) (hn : (j : Nat) < nL) (hc : kx_nl L (j : Nat) = true) (k : F (pc + 1) (L.set (j : Nat) (some (.int x))) S h) : F pc L (.int x :: S) h := by
  obtain ⟨p, l, e, R, s, m, args, below, meth, c, cells, slots, Q, D, ad, cA, A, ⟨hx, hb, hml, hown, hts⟩, hN, hK, hJ, hA, hR, rfl⟩ := C
  intro H locs ls hP hS hl
  exact lv_istore_n hx hb d rfl hl hn rfl (fun ls1 hl1 => k H locs ls1 hP hS (kx_lo_set (v := .int x) hc hl1))
theorem kx_astore_g {own : String} {cc : ByteArray} {nL dp : Nat} {F : kx_F} (C : kx_Ru own cc nL dp F) {pc : Nat} {L : List (Option Value)} {S : List Value} {h : kx_H} {i : Nat} {x : Nat} (d : decode cc pc = .ok (.astore i, 2)) (hn : i < nL) (hc : kx_nl L i = true) (k : F (pc + 2) (L.set i (some (.ref x))) S h) : F pc L (.ref x :: S) h := by
  obtain ⟨p, l, e, R, s, m, args, below, meth, c, cells, slots, Q, D, ad, cA, A, ⟨hx, hb, hml, hown, hts⟩, hN, hK, hJ, hA, hR, rfl⟩ := C
  intro H locs ls hP hS hl
  exact lv_astore hx hb d hl hn rfl (fun ls1 hl1 => k H locs ls1 hP hS (kx_lo_set (v := .ref x) hc hl1))
theorem kx_astoren_g {own : String} {cc : ByteArray} {nL dp : Nat} {F : kx_F} (C : kx_Ru own cc nL dp F) {pc : Nat} {L : List (Option Value)} {S : List Value} {h : kx_H} {j : Fin 4} {x : Nat} (d : decode cc pc = .ok (.astore_n j, 1)) (hn : (j : Nat) < nL) (hc : kx_nl L (j : Nat) = true) (k : F (pc + 1) (L.set (j : Nat) (some (.ref x))) S h) : F pc L (.ref x :: S) h := by
  obtain ⟨p, l, e, R, s, m, args, below, meth, c, cells, slots, Q, D, ad, cA, A, ⟨hx, hb, hml, hown, hts⟩, hN, hK, hJ, hA, hR, rfl⟩ := C
  intro H locs ls hP hS hl
  exact lv_astore_n hx hb d rfl hl hn rfl (fun ls1 hl1 => k H locs ls1 hP hS (kx_lo_set (v := .ref x) hc hl1))
theorem kx_iinc_g {own : String} {cc : ByteArray} {nL dp : Nat} {F : kx_F} (C : kx_Ru own cc nL dp F) {pc : Nat} {L : List (Option Value)} {S : List Value} {h : kx_H} {i : Nat} {n : Int} {x v : Int32} (d : decode cc pc = .ok (.iinc i n, 3)) (hi : L[i]? = some (some (.int x))) (hv : x + Int32.ofInt n = v) (hn : i < nL) (hc : kx_nl L i = true) (k : F (pc + 3) (L.set i (some (.int v))) S h) : F pc L S h := by
  obtain ⟨p, l, e, R, s, m, args, below, meth, c, cells, slots, Q, D, ad, cA, A, ⟨hx, hb, hml, hown, hts⟩, hN, hK, hJ, hA, hR, rfl⟩ := C
  intro H locs ls hP hS hl
  obtain ⟨q, hq⟩ := List.getElem?_of_mem ((kx_lv_mem (ad := ad) L 0).mpr ⟨i, .int x, hi, rfl⟩)
  rw [Nat.zero_add] at hq
  exact lv_iinc hx hb d hl hq hv hn rfl (fun ls1 hl1 => k H locs ls1 hP hS (kx_lo_set (v := .int v) hc hl1))
theorem kx_iadd {own : String} {cc : ByteArray} {nL dp : Nat} {F : kx_F} (C : kx_Ru own cc nL dp F) {pc : Nat} {L : List (Option Value)} {S : List Value} {h : kx_H} {x y : Int32} (d : decode cc pc = .ok (.iadd, 1)) (k : F (pc + 1) L (.int (x + y) :: S) h) : F pc L (.int y :: .int x :: S) h := by
  obtain ⟨p, l, e, R, s, m, args, below, meth, c, cells, slots, Q, D, ad, cA, A, ⟨hx, hb, hml, hown, hts⟩, hN, hK, hJ, hA, hR, rfl⟩ := C
  intro H locs ls hP hS hl
  exact lv_iadd hx hb d (k H locs ls hP hS hl)
theorem kx_isub {own : String} {cc : ByteArray} {nL dp : Nat} {F : kx_F} (C : kx_Ru own cc nL dp F) {pc : Nat} {L : List (Option Value)} {S : List Value} {h : kx_H} {x y : Int32} (d : decode cc pc = .ok (.isub, 1)) (k : F (pc + 1) L (.int (x - y) :: S) h) : F pc L (.int y :: .int x :: S) h := by
  obtain ⟨p, l, e, R, s, m, args, below, meth, c, cells, slots, Q, D, ad, cA, A, ⟨hx, hb, hml, hown, hts⟩, hN, hK, hJ, hA, hR, rfl⟩ := C
  intro H locs ls hP hS hl
  exact lv_isub hx hb d (k H locs ls hP hS hl)
theorem kx_imul {own : String} {cc : ByteArray} {nL dp : Nat} {F : kx_F} (C : kx_Ru own cc nL dp F) {pc : Nat} {L : List (Option Value)} {S : List Value} {h : kx_H} {x y : Int32} (d : decode cc pc = .ok (.imul, 1)) (k : F (pc + 1) L (.int (x * y) :: S) h) : F pc L (.int y :: .int x :: S) h := by
  obtain ⟨p, l, e, R, s, m, args, below, meth, c, cells, slots, Q, D, ad, cA, A, ⟨hx, hb, hml, hown, hts⟩, hN, hK, hJ, hA, hR, rfl⟩ := C
  intro H locs ls hP hS hl
  exact lv_imul hx hb d (k H locs ls hP hS hl)
theorem kx_iand {own : String} {cc : ByteArray} {nL dp : Nat} {F : kx_F} (C : kx_Ru own cc nL dp F) {pc : Nat} {L : List (Option Value)} {S : List Value} {h : kx_H} {x y : Int32} (d : decode cc pc = .ok (.iand, 1)) (k : F (pc + 1) L (.int (x &&& y) :: S) h) : F pc L (.int y :: .int x :: S) h := by
  obtain ⟨p, l, e, R, s, m, args, below, meth, c, cells, slots, Q, D, ad, cA, A, ⟨hx, hb, hml, hown, hts⟩, hN, hK, hJ, hA, hR, rfl⟩ := C
  intro H locs ls hP hS hl
  exact lv_iand hx hb d (k H locs ls hP hS hl)
theorem kx_ior {own : String} {cc : ByteArray} {nL dp : Nat} {F : kx_F} (C : kx_Ru own cc nL dp F) {pc : Nat} {L : List (Option Value)} {S : List Value} {h : kx_H} {x y : Int32} (d : decode cc pc = .ok (.ior, 1)) (k : F (pc + 1) L (.int (x ||| y) :: S) h) : F pc L (.int y :: .int x :: S) h := by
  obtain ⟨p, l, e, R, s, m, args, below, meth, c, cells, slots, Q, D, ad, cA, A, ⟨hx, hb, hml, hown, hts⟩, hN, hK, hJ, hA, hR, rfl⟩ := C
  intro H locs ls hP hS hl
  exact lv_ior hx hb d (k H locs ls hP hS hl)
theorem kx_ixor {own : String} {cc : ByteArray} {nL dp : Nat} {F : kx_F} (C : kx_Ru own cc nL dp F) {pc : Nat} {L : List (Option Value)} {S : List Value} {h : kx_H} {x y : Int32} (d : decode cc pc = .ok (.ixor, 1)) (k : F (pc + 1) L (.int (x ^^^ y) :: S) h) : F pc L (.int y :: .int x :: S) h := by
  obtain ⟨p, l, e, R, s, m, args, below, meth, c, cells, slots, Q, D, ad, cA, A, ⟨hx, hb, hml, hown, hts⟩, hN, hK, hJ, hA, hR, rfl⟩ := C
  intro H locs ls hP hS hl
  exact lv_ixor hx hb d (k H locs ls hP hS hl)
theorem kx_ishl {own : String} {cc : ByteArray} {nL dp : Nat} {F : kx_F} (C : kx_Ru own cc nL dp F) {pc : Nat} {L : List (Option Value)} {S : List Value} {h : kx_H} {x y : Int32} (d : decode cc pc = .ok (.ishl, 1)) (k : F (pc + 1) L (.int (x <<< (y &&& 31)) :: S) h) : F pc L (.int y :: .int x :: S) h := by
  obtain ⟨p, l, e, R, s, m, args, below, meth, c, cells, slots, Q, D, ad, cA, A, ⟨hx, hb, hml, hown, hts⟩, hN, hK, hJ, hA, hR, rfl⟩ := C
  intro H locs ls hP hS hl
  exact lv_ishl hx hb d (k H locs ls hP hS hl)
theorem kx_ishr {own : String} {cc : ByteArray} {nL dp : Nat} {F : kx_F} (C : kx_Ru own cc nL dp F) {pc : Nat} {L : List (Option Value)} {S : List Value} {h : kx_H} {x y : Int32} (d : decode cc pc = .ok (.ishr, 1)) (k : F (pc + 1) L (.int (x >>> (y &&& 31)) :: S) h) : F pc L (.int y :: .int x :: S) h := by
  obtain ⟨p, l, e, R, s, m, args, below, meth, c, cells, slots, Q, D, ad, cA, A, ⟨hx, hb, hml, hown, hts⟩, hN, hK, hJ, hA, hR, rfl⟩ := C
  intro H locs ls hP hS hl
  exact lv_ishr hx hb d (k H locs ls hP hS hl)
theorem kx_iushr {own : String} {cc : ByteArray} {nL dp : Nat} {F : kx_F} (C : kx_Ru own cc nL dp F) {pc : Nat} {L : List (Option Value)} {S : List Value} {h : kx_H} {x y : Int32} (d : decode cc pc = .ok (.iushr, 1)) (k : F (pc + 1) L (.int (x.toUInt32 >>> (y.toUInt32 &&& Int32.toUInt32 31)).toInt32 :: S) h) : F pc L (.int y :: .int x :: S) h := by
  obtain ⟨p, l, e, R, s, m, args, below, meth, c, cells, slots, Q, D, ad, cA, A, ⟨hx, hb, hml, hown, hts⟩, hN, hK, hJ, hA, hR, rfl⟩ := C
  intro H locs ls hP hS hl
  exact lv_iushr hx hb d rfl (k H locs ls hP hS hl)
theorem kx_idiv {own : String} {cc : ByteArray} {nL dp : Nat} {F : kx_F} (C : kx_Ru own cc nL dp F) {pc : Nat} {L : List (Option Value)} {S : List Value} {h : kx_H} {x y : Int32} (d : decode cc pc = .ok (.idiv, 1)) (hne : ¬ y = 0) (k : F (pc + 1) L (.int (x / y) :: S) h) : F pc L (.int y :: .int x :: S) h := by
  obtain ⟨p, l, e, R, s, m, args, below, meth, c, cells, slots, Q, D, ad, cA, A, ⟨hx, hb, hml, hown, hts⟩, hN, hK, hJ, hA, hR, rfl⟩ := C
  intro H locs ls hP hS hl
  exact lv_idiv hx hb d hne (k H locs ls hP hS hl)
theorem kx_irem {own : String} {cc : ByteArray} {nL dp : Nat} {F : kx_F} (C : kx_Ru own cc nL dp F) {pc : Nat} {L : List (Option Value)} {S : List Value} {h : kx_H} {x y : Int32} (d : decode cc pc = .ok (.irem, 1)) (hne : ¬ y = 0) (k : F (pc + 1) L (.int (x - x / y * y) :: S) h) : F pc L (.int y :: .int x :: S) h := by
  obtain ⟨p, l, e, R, s, m, args, below, meth, c, cells, slots, Q, D, ad, cA, A, ⟨hx, hb, hml, hown, hts⟩, hN, hK, hJ, hA, hR, rfl⟩ := C
  intro H locs ls hP hS hl
  exact lv_irem hx hb d hne (k H locs ls hP hS hl)
theorem kx_ladd {own : String} {cc : ByteArray} {nL dp : Nat} {F : kx_F} (C : kx_Ru own cc nL dp F) {pc : Nat} {L : List (Option Value)} {S : List Value} {h : kx_H} {x y : Int64} (d : decode cc pc = .ok (.ladd, 1)) (k : F (pc + 1) L (.long (x + y) :: S) h) : F pc L (.long y :: .long x :: S) h := by
  obtain ⟨p, l, e, R, s, m, args, below, meth, c, cells, slots, Q, D, ad, cA, A, ⟨hx, hb, hml, hown, hts⟩, hN, hK, hJ, hA, hR, rfl⟩ := C
  intro H locs ls hP hS hl
  exact lv_ladd hx hb d (k H locs ls hP hS hl)
theorem kx_land {own : String} {cc : ByteArray} {nL dp : Nat} {F : kx_F} (C : kx_Ru own cc nL dp F) {pc : Nat} {L : List (Option Value)} {S : List Value} {h : kx_H} {x y : Int64} (d : decode cc pc = .ok (.land, 1)) (k : F (pc + 1) L (.long (x &&& y) :: S) h) : F pc L (.long y :: .long x :: S) h := by
  obtain ⟨p, l, e, R, s, m, args, below, meth, c, cells, slots, Q, D, ad, cA, A, ⟨hx, hb, hml, hown, hts⟩, hN, hK, hJ, hA, hR, rfl⟩ := C
  intro H locs ls hP hS hl
  exact lv_land hx hb d (k H locs ls hP hS hl)
theorem kx_lor {own : String} {cc : ByteArray} {nL dp : Nat} {F : kx_F} (C : kx_Ru own cc nL dp F) {pc : Nat} {L : List (Option Value)} {S : List Value} {h : kx_H} {x y : Int64} (d : decode cc pc = .ok (.lor, 1)) (k : F (pc + 1) L (.long (x ||| y) :: S) h) : F pc L (.long y :: .long x :: S) h := by
  obtain ⟨p, l, e, R, s, m, args, below, meth, c, cells, slots, Q, D, ad, cA, A, ⟨hx, hb, hml, hown, hts⟩, hN, hK, hJ, hA, hR, rfl⟩ := C
  intro H locs ls hP hS hl
  exact lv_lor hx hb d (k H locs ls hP hS hl)
theorem kx_lshl {own : String} {cc : ByteArray} {nL dp : Nat} {F : kx_F} (C : kx_Ru own cc nL dp F) {pc : Nat} {L : List (Option Value)} {S : List Value} {h : kx_H} {x : Int64} {y : Int32} (d : decode cc pc = .ok (.lshl, 1)) (k : F (pc + 1) L (.long (x <<< (y.toInt64 &&& 63)) :: S) h) : F pc L (.int y :: .long x :: S) h := by
  obtain ⟨p, l, e, R, s, m, args, below, meth, c, cells, slots, Q, D, ad, cA, A, ⟨hx, hb, hml, hown, hts⟩, hN, hK, hJ, hA, hR, rfl⟩ := C
  intro H locs ls hP hS hl
  exact lv_lshl hx hb d rfl (k H locs ls hP hS hl)
theorem kx_lshr {own : String} {cc : ByteArray} {nL dp : Nat} {F : kx_F} (C : kx_Ru own cc nL dp F) {pc : Nat} {L : List (Option Value)} {S : List Value} {h : kx_H} {x : Int64} {y : Int32} (d : decode cc pc = .ok (.lshr, 1)) (k : F (pc + 1) L (.long (x >>> (y.toInt64 &&& 63)) :: S) h) : F pc L (.int y :: .long x :: S) h := by
  obtain ⟨p, l, e, R, s, m, args, below, meth, c, cells, slots, Q, D, ad, cA, A, ⟨hx, hb, hml, hown, hts⟩, hN, hK, hJ, hA, hR, rfl⟩ := C
  intro H locs ls hP hS hl
  exact lv_lshr hx hb d rfl (k H locs ls hP hS hl)
theorem kx_lushr {own : String} {cc : ByteArray} {nL dp : Nat} {F : kx_F} (C : kx_Ru own cc nL dp F) {pc : Nat} {L : List (Option Value)} {S : List Value} {h : kx_H} {x : Int64} {y : Int32} (d : decode cc pc = .ok (.lushr, 1)) (k : F (pc + 1) L (.long (x.toUInt64 >>> (y.toInt64.toUInt64 &&& Int64.toUInt64 63)).toInt64 :: S) h) : F pc L (.int y :: .long x :: S) h := by
  obtain ⟨p, l, e, R, s, m, args, below, meth, c, cells, slots, Q, D, ad, cA, A, ⟨hx, hb, hml, hown, hts⟩, hN, hK, hJ, hA, hR, rfl⟩ := C
  intro H locs ls hP hS hl
  exact lv_lushr hx hb d rfl (k H locs ls hP hS hl)
theorem kx_lcmp {own : String} {cc : ByteArray} {nL dp : Nat} {F : kx_F} (C : kx_Ru own cc nL dp F) {pc : Nat} {L : List (Option Value)} {S : List Value} {h : kx_H} {x y : Int64} (d : decode cc pc = .ok (.lcmp, 1)) (k : F (pc + 1) L (.int (lg_cmp x y) :: S) h) : F pc L (.long y :: .long x :: S) h := by
  obtain ⟨p, l, e, R, s, m, args, below, meth, c, cells, slots, Q, D, ad, cA, A, ⟨hx, hb, hml, hown, hts⟩, hN, hK, hJ, hA, hR, rfl⟩ := C
  intro H locs ls hP hS hl
  exact W.lcmp hx hb d (k H locs ls hP hS hl)
theorem kx_i2l {own : String} {cc : ByteArray} {nL dp : Nat} {F : kx_F} (C : kx_Ru own cc nL dp F) {pc : Nat} {L : List (Option Value)} {S : List Value} {h : kx_H} {x : Int32} (d : decode cc pc = .ok (.i2l, 1)) (k : F (pc + 1) L (.long x.toInt64 :: S) h) : F pc L (.int x :: S) h := by
  obtain ⟨p, l, e, R, s, m, args, below, meth, c, cells, slots, Q, D, ad, cA, A, ⟨hx, hb, hml, hown, hts⟩, hN, hK, hJ, hA, hR, rfl⟩ := C
  intro H locs ls hP hS hl
  exact lv_i2l hx hb d rfl (k H locs ls hP hS hl)
theorem kx_l2i {own : String} {cc : ByteArray} {nL dp : Nat} {F : kx_F} (C : kx_Ru own cc nL dp F) {pc : Nat} {L : List (Option Value)} {S : List Value} {h : kx_H} {x : Int64} (d : decode cc pc = .ok (.l2i, 1)) (k : F (pc + 1) L (.int x.toInt32 :: S) h) : F pc L (.long x :: S) h := by
  obtain ⟨p, l, e, R, s, m, args, below, meth, c, cells, slots, Q, D, ad, cA, A, ⟨hx, hb, hml, hown, hts⟩, hN, hK, hJ, hA, hR, rfl⟩ := C
  intro H locs ls hP hS hl
  exact lv_l2i hx hb d rfl (k H locs ls hP hS hl)
theorem kx_i2b {own : String} {cc : ByteArray} {nL dp : Nat} {F : kx_F} (C : kx_Ru own cc nL dp F) {pc : Nat} {L : List (Option Value)} {S : List Value} {h : kx_H} {x : Int32} (d : decode cc pc = .ok (.i2b, 1)) (k : F (pc + 1) L (.int x.toInt8.toInt32 :: S) h) : F pc L (.int x :: S) h := by
  obtain ⟨p, l, e, R, s, m, args, below, meth, c, cells, slots, Q, D, ad, cA, A, ⟨hx, hb, hml, hown, hts⟩, hN, hK, hJ, hA, hR, rfl⟩ := C
  intro H locs ls hP hS hl
  exact lv_i2b hx hb d rfl (k H locs ls hP hS hl)
theorem kx_i2s {own : String} {cc : ByteArray} {nL dp : Nat} {F : kx_F} (C : kx_Ru own cc nL dp F) {pc : Nat} {L : List (Option Value)} {S : List Value} {h : kx_H} {x : Int32} (d : decode cc pc = .ok (.i2s, 1)) (k : F (pc + 1) L (.int x.toInt16.toInt32 :: S) h) : F pc L (.int x :: S) h := by
  obtain ⟨p, l, e, R, s, m, args, below, meth, c, cells, slots, Q, D, ad, cA, A, ⟨hx, hb, hml, hown, hts⟩, hN, hK, hJ, hA, hR, rfl⟩ := C
  intro H locs ls hP hS hl
  exact lv_i2s hx hb d rfl (k H locs ls hP hS hl)
theorem kx_dup {own : String} {cc : ByteArray} {nL dp : Nat} {F : kx_F} (C : kx_Ru own cc nL dp F) {pc : Nat} {L : List (Option Value)} {S : List Value} {h : kx_H} {v : Value} (d : decode cc pc = .ok (.dup, 1)) (hv : v.category = 1) (k : F (pc + 1) L (v :: v :: S) h) : F pc L (v :: S) h := by
  obtain ⟨p, l, e, R, s, m, args, below, meth, c, cells, slots, Q, D, ad, cA, A, ⟨hx, hb, hml, hown, hts⟩, hN, hK, hJ, hA, hR, rfl⟩ := C
  intro H locs ls hP hS hl
  exact lv_dup hx hb d (by rw [kx_val_cat]; exact hv) (k H locs ls hP hS hl)
theorem kx_pop {own : String} {cc : ByteArray} {nL dp : Nat} {F : kx_F} (C : kx_Ru own cc nL dp F) {pc : Nat} {L : List (Option Value)} {S : List Value} {h : kx_H} {v : Value} (d : decode cc pc = .ok (.pop, 1)) (hv : v.category = 1) (k : F (pc + 1) L S h) : F pc L (v :: S) h := by
  obtain ⟨p, l, e, R, s, m, args, below, meth, c, cells, slots, Q, D, ad, cA, A, ⟨hx, hb, hml, hown, hts⟩, hN, hK, hJ, hA, hR, rfl⟩ := C
  intro H locs ls hP hS hl
  exact lv_pop hx hb d (by rw [kx_val_cat]; exact hv) (k H locs ls hP hS hl)
theorem kx_dup_x1 {own : String} {cc : ByteArray} {nL dp : Nat} {F : kx_F} (C : kx_Ru own cc nL dp F) {pc : Nat} {L : List (Option Value)} {S : List Value} {h : kx_H} {v w : Value} (d : decode cc pc = .ok (.dup_x1, 1)) (hv : v.category = 1) (hw : w.category = 1) (k : F (pc + 1) L (v :: w :: v :: S) h) : F pc L (v :: w :: S) h := by
  obtain ⟨p, l, e, R, s, m, args, below, meth, c, cells, slots, Q, D, ad, cA, A, ⟨hx, hb, hml, hown, hts⟩, hN, hK, hJ, hA, hR, rfl⟩ := C
  intro H locs ls hP hS hl
  exact lv_dup_x1 hx hb d (by rw [kx_val_cat]; exact hv) (by rw [kx_val_cat]; exact hw) (k H locs ls hP hS hl)
theorem kx_dup2 {own : String} {cc : ByteArray} {nL dp : Nat} {F : kx_F} (C : kx_Ru own cc nL dp F) {pc : Nat} {L : List (Option Value)} {S : List Value} {h : kx_H} {v w : Value} (d : decode cc pc = .ok (.dup2, 1)) (hv : v.category = 1) (hw : w.category = 1) (k : F (pc + 1) L (v :: w :: v :: w :: S) h) : F pc L (v :: w :: S) h := by
  obtain ⟨p, l, e, R, s, m, args, below, meth, c, cells, slots, Q, D, ad, cA, A, ⟨hx, hb, hml, hown, hts⟩, hN, hK, hJ, hA, hR, rfl⟩ := C
  intro H locs ls hP hS hl
  exact lv_dup2_11 hx hb d (by rw [kx_val_cat]; exact hv) (by rw [kx_val_cat]; exact hw) (k H locs ls hP hS hl)
theorem kx_top {own : String} {cc : ByteArray} {nL dp : Nat} {F : kx_F} (C : kx_Ru own cc nL dp F) {pc : Nat} {L : List (Option Value)} {S : List Value} {h : kx_H} {x y : Int32} (e : x = y) (k : F pc L (.int y :: S) h) : F pc L (.int x :: S) h := by rw [e]; exact k
theorem kx_icmp_eq {own : String} {cc : ByteArray} {nL dp : Nat} {F : kx_F} (C : kx_Ru own cc nL dp F) {pc : Nat} {L : List (Option Value)} {S : List Value} {h : kx_H} {x y : Int32} {off : Int} (tgt : Nat) (d : decode cc pc = .ok (.if_icmp .eq off, 3)) (ht : (pc : Int) + off = (tgt : Int)) (kt : x = y → F tgt L S h) (kf : ¬ x = y → F (pc + 3) L S h) : F pc L (.int y :: .int x :: S) h := by
  obtain ⟨p, l, e, R, s, m, args, below, meth, c, cells, slots, Q, D, ad, cA, A, ⟨hx, hb, hml, hown, hts⟩, hN, hK, hJ, hA, hR, rfl⟩ := C
  intro H locs ls hP hS hl
  exact lv_icmp_eq hx hb d ht (fun z => kt z H locs ls hP hS hl) (fun z => kf z H locs ls hP hS hl)
theorem kx_icmp_ne {own : String} {cc : ByteArray} {nL dp : Nat} {F : kx_F} (C : kx_Ru own cc nL dp F) {pc : Nat} {L : List (Option Value)} {S : List Value} {h : kx_H} {x y : Int32} {off : Int} (tgt : Nat) (d : decode cc pc = .ok (.if_icmp .ne off, 3)) (ht : (pc : Int) + off = (tgt : Int)) (kt : ¬ x = y → F tgt L S h) (kf : x = y → F (pc + 3) L S h) : F pc L (.int y :: .int x :: S) h := by
  obtain ⟨p, l, e, R, s, m, args, below, meth, c, cells, slots, Q, D, ad, cA, A, ⟨hx, hb, hml, hown, hts⟩, hN, hK, hJ, hA, hR, rfl⟩ := C
  intro H locs ls hP hS hl
  exact lv_icmp_ne hx hb d ht (fun z => kt z H locs ls hP hS hl) (fun z => kf z H locs ls hP hS hl)
theorem kx_icmp_lt {own : String} {cc : ByteArray} {nL dp : Nat} {F : kx_F} (C : kx_Ru own cc nL dp F) {pc : Nat} {L : List (Option Value)} {S : List Value} {h : kx_H} {x y : Int32} {off : Int} (tgt : Nat) (d : decode cc pc = .ok (.if_icmp .lt off, 3)) (ht : (pc : Int) + off = (tgt : Int)) (kt : x < y → F tgt L S h) (kf : ¬ x < y → F (pc + 3) L S h) : F pc L (.int y :: .int x :: S) h := by
  obtain ⟨p, l, e, R, s, m, args, below, meth, c, cells, slots, Q, D, ad, cA, A, ⟨hx, hb, hml, hown, hts⟩, hN, hK, hJ, hA, hR, rfl⟩ := C
  intro H locs ls hP hS hl
  exact lv_icmp_lt hx hb d ht (fun z => kt z H locs ls hP hS hl) (fun z => kf z H locs ls hP hS hl)
theorem kx_icmp_ge {own : String} {cc : ByteArray} {nL dp : Nat} {F : kx_F} (C : kx_Ru own cc nL dp F) {pc : Nat} {L : List (Option Value)} {S : List Value} {h : kx_H} {x y : Int32} {off : Int} (tgt : Nat) (d : decode cc pc = .ok (.if_icmp .ge off, 3)) (ht : (pc : Int) + off = (tgt : Int)) (kt : y ≤ x → F tgt L S h) (kf : ¬ y ≤ x → F (pc + 3) L S h) : F pc L (.int y :: .int x :: S) h := by
  obtain ⟨p, l, e, R, s, m, args, below, meth, c, cells, slots, Q, D, ad, cA, A, ⟨hx, hb, hml, hown, hts⟩, hN, hK, hJ, hA, hR, rfl⟩ := C
  intro H locs ls hP hS hl
  exact lv_icmp_ge hx hb d ht (fun z => kt z H locs ls hP hS hl) (fun z => kf z H locs ls hP hS hl)
theorem kx_icmp_gt {own : String} {cc : ByteArray} {nL dp : Nat} {F : kx_F} (C : kx_Ru own cc nL dp F) {pc : Nat} {L : List (Option Value)} {S : List Value} {h : kx_H} {x y : Int32} {off : Int} (tgt : Nat) (d : decode cc pc = .ok (.if_icmp .gt off, 3)) (ht : (pc : Int) + off = (tgt : Int)) (kt : y < x → F tgt L S h) (kf : ¬ y < x → F (pc + 3) L S h) : F pc L (.int y :: .int x :: S) h := by
  obtain ⟨p, l, e, R, s, m, args, below, meth, c, cells, slots, Q, D, ad, cA, A, ⟨hx, hb, hml, hown, hts⟩, hN, hK, hJ, hA, hR, rfl⟩ := C
  intro H locs ls hP hS hl
  exact lv_icmp_gt hx hb d ht (fun z => kt z H locs ls hP hS hl) (fun z => kf z H locs ls hP hS hl)
theorem kx_icmp_le {own : String} {cc : ByteArray} {nL dp : Nat} {F : kx_F} (C : kx_Ru own cc nL dp F) {pc : Nat} {L : List (Option Value)} {S : List Value} {h : kx_H} {x y : Int32} {off : Int} (tgt : Nat) (d : decode cc pc = .ok (.if_icmp .le off, 3)) (ht : (pc : Int) + off = (tgt : Int)) (kt : x ≤ y → F tgt L S h) (kf : ¬ x ≤ y → F (pc + 3) L S h) : F pc L (.int y :: .int x :: S) h := by
  obtain ⟨p, l, e, R, s, m, args, below, meth, c, cells, slots, Q, D, ad, cA, A, ⟨hx, hb, hml, hown, hts⟩, hN, hK, hJ, hA, hR, rfl⟩ := C
  intro H locs ls hP hS hl
  exact lv_icmp_le hx hb d ht (fun z => kt z H locs ls hP hS hl) (fun z => kf z H locs ls hP hS hl)
theorem kx_if_eq {own : String} {cc : ByteArray} {nL dp : Nat} {F : kx_F} (C : kx_Ru own cc nL dp F) {pc : Nat} {L : List (Option Value)} {S : List Value} {h : kx_H} {x : Int32} {off : Int} (tgt : Nat) (d : decode cc pc = .ok (.ifCond .eq off, 3)) (ht : (pc : Int) + off = (tgt : Int)) (kt : x = 0 → F tgt L S h) (kf : ¬ x = 0 → F (pc + 3) L S h) : F pc L (.int x :: S) h := by
  obtain ⟨p, l, e, R, s, m, args, below, meth, c, cells, slots, Q, D, ad, cA, A, ⟨hx, hb, hml, hown, hts⟩, hN, hK, hJ, hA, hR, rfl⟩ := C
  intro H locs ls hP hS hl
  exact lv_if_eq hx hb d ht (fun z => kt z H locs ls hP hS hl) (fun z => kf z H locs ls hP hS hl)
theorem kx_if_ne {own : String} {cc : ByteArray} {nL dp : Nat} {F : kx_F} (C : kx_Ru own cc nL dp F) {pc : Nat} {L : List (Option Value)} {S : List Value} {h : kx_H} {x : Int32} {off : Int} (tgt : Nat) (d : decode cc pc = .ok (.ifCond .ne off, 3)) (ht : (pc : Int) + off = (tgt : Int)) (kt : ¬ x = 0 → F tgt L S h) (kf : x = 0 → F (pc + 3) L S h) : F pc L (.int x :: S) h := by
  obtain ⟨p, l, e, R, s, m, args, below, meth, c, cells, slots, Q, D, ad, cA, A, ⟨hx, hb, hml, hown, hts⟩, hN, hK, hJ, hA, hR, rfl⟩ := C
  intro H locs ls hP hS hl
  exact lv_if_ne hx hb d ht (fun z => kt z H locs ls hP hS hl) (fun z => kf z H locs ls hP hS hl)
theorem kx_if_lt {own : String} {cc : ByteArray} {nL dp : Nat} {F : kx_F} (C : kx_Ru own cc nL dp F) {pc : Nat} {L : List (Option Value)} {S : List Value} {h : kx_H} {x : Int32} {off : Int} (tgt : Nat) (d : decode cc pc = .ok (.ifCond .lt off, 3)) (ht : (pc : Int) + off = (tgt : Int)) (kt : x < 0 → F tgt L S h) (kf : ¬ x < 0 → F (pc + 3) L S h) : F pc L (.int x :: S) h := by
  obtain ⟨p, l, e, R, s, m, args, below, meth, c, cells, slots, Q, D, ad, cA, A, ⟨hx, hb, hml, hown, hts⟩, hN, hK, hJ, hA, hR, rfl⟩ := C
  intro H locs ls hP hS hl
  exact lv_if_lt hx hb d ht (fun z => kt z H locs ls hP hS hl) (fun z => kf z H locs ls hP hS hl)
theorem kx_if_ge {own : String} {cc : ByteArray} {nL dp : Nat} {F : kx_F} (C : kx_Ru own cc nL dp F) {pc : Nat} {L : List (Option Value)} {S : List Value} {h : kx_H} {x : Int32} {off : Int} (tgt : Nat) (d : decode cc pc = .ok (.ifCond .ge off, 3)) (ht : (pc : Int) + off = (tgt : Int)) (kt : 0 ≤ x → F tgt L S h) (kf : ¬ 0 ≤ x → F (pc + 3) L S h) : F pc L (.int x :: S) h := by
  obtain ⟨p, l, e, R, s, m, args, below, meth, c, cells, slots, Q, D, ad, cA, A, ⟨hx, hb, hml, hown, hts⟩, hN, hK, hJ, hA, hR, rfl⟩ := C
  intro H locs ls hP hS hl
  exact lv_if_ge hx hb d ht (fun z => kt z H locs ls hP hS hl) (fun z => kf z H locs ls hP hS hl)
theorem kx_if_gt {own : String} {cc : ByteArray} {nL dp : Nat} {F : kx_F} (C : kx_Ru own cc nL dp F) {pc : Nat} {L : List (Option Value)} {S : List Value} {h : kx_H} {x : Int32} {off : Int} (tgt : Nat) (d : decode cc pc = .ok (.ifCond .gt off, 3)) (ht : (pc : Int) + off = (tgt : Int)) (kt : 0 < x → F tgt L S h) (kf : ¬ 0 < x → F (pc + 3) L S h) : F pc L (.int x :: S) h := by
  obtain ⟨p, l, e, R, s, m, args, below, meth, c, cells, slots, Q, D, ad, cA, A, ⟨hx, hb, hml, hown, hts⟩, hN, hK, hJ, hA, hR, rfl⟩ := C
  intro H locs ls hP hS hl
  exact lv_if_gt hx hb d ht (fun z => kt z H locs ls hP hS hl) (fun z => kf z H locs ls hP hS hl)
theorem kx_if_le {own : String} {cc : ByteArray} {nL dp : Nat} {F : kx_F} (C : kx_Ru own cc nL dp F) {pc : Nat} {L : List (Option Value)} {S : List Value} {h : kx_H} {x : Int32} {off : Int} (tgt : Nat) (d : decode cc pc = .ok (.ifCond .le off, 3)) (ht : (pc : Int) + off = (tgt : Int)) (kt : x ≤ 0 → F tgt L S h) (kf : ¬ x ≤ 0 → F (pc + 3) L S h) : F pc L (.int x :: S) h := by
  obtain ⟨p, l, e, R, s, m, args, below, meth, c, cells, slots, Q, D, ad, cA, A, ⟨hx, hb, hml, hown, hts⟩, hN, hK, hJ, hA, hR, rfl⟩ := C
  intro H locs ls hP hS hl
  exact lv_if_le hx hb d ht (fun z => kt z H locs ls hP hS hl) (fun z => kf z H locs ls hP hS hl)
theorem kx_goto {own : String} {cc : ByteArray} {nL dp : Nat} {F : kx_F} (C : kx_Ru own cc nL dp F) {pc : Nat} {L : List (Option Value)} {S : List Value} {h : kx_H} {off : Int} (tgt : Nat) (d : decode cc pc = .ok (.goto off, 3)) (ht : (pc : Int) + off = (tgt : Int)) (k : F tgt L S h) : F pc L S h := by
  obtain ⟨p, l, e, R, s, m, args, below, meth, c, cells, slots, Q, D, ad, cA, A, ⟨hx, hb, hml, hown, hts⟩, hN, hK, hJ, hA, hR, rfl⟩ := C
  intro H locs ls hP hS hl
  exact lv_goto hx hb d ht (k H locs ls hP hS hl)
theorem kx_tblIn {own : String} {cc : ByteArray} {nL dp : Nat} {F : kx_F} (C : kx_Ru own cc nL dp F) {pc : Nat} {L : List (Option Value)} {S : List Value} {h : kx_H} {dflt lo hi : Int} {offs : Array Int} {len : Nat} {x : Int32} {off : Int} (tgt : Nat) (d : decode cc pc = .ok (.tableswitch dflt lo hi offs, len)) (h1 : ¬ x.toInt < lo) (h2 : ¬ hi < x.toInt) (ho : offs[(x.toInt - lo).toNat]? = some off) (ht : (pc : Int) + off = (tgt : Int)) (k : F tgt L S h) : F pc L (.int x :: S) h := by
  obtain ⟨p, l, e, R, s, m, args, below, meth, c, cells, slots, Q, D, ad, cA, A, ⟨hx, hb, hml, hown, hts⟩, hN, hK, hJ, hA, hR, rfl⟩ := C
  intro H locs ls hP hS hl
  exact lv_tableIn hx hb d h1 h2 ho ht (k H locs ls hP hS hl)
theorem kx_tblOut {own : String} {cc : ByteArray} {nL dp : Nat} {F : kx_F} (C : kx_Ru own cc nL dp F) {pc : Nat} {L : List (Option Value)} {S : List Value} {h : kx_H} {dflt lo hi : Int} {offs : Array Int} {len : Nat} {x : Int32} (tgt : Nat) (d : decode cc pc = .ok (.tableswitch dflt lo hi offs, len)) (h1 : x.toInt < lo ∨ hi < x.toInt) (ht : (pc : Int) + dflt = (tgt : Int)) (k : F tgt L S h) : F pc L (.int x :: S) h := by
  obtain ⟨p, l, e, R, s, m, args, below, meth, c, cells, slots, Q, D, ad, cA, A, ⟨hx, hb, hml, hown, hts⟩, hN, hK, hJ, hA, hR, rfl⟩ := C
  intro H locs ls hP hS hl
  exact lv_tableOut hx hb d h1 ht (k H locs ls hP hS hl)
