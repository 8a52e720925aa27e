def sh_8 : List kx_S := [(0, 8, 0, 0, [some 1, some 23, none, some 45, some 47, some 48, some 49, some 50, some 56, some 104, some 107, some 117]), (0, 2, 0, 0, [none, none, none, none, none, some 2, some 3, some 12, some 13, some 18, none, none, none, none]), (1, 8, 0, 0, []), (3, 4, 1, 8, []), (1, 9, 0, 0, []), (1, 9, 0, 0, []), (1, 9, 0, 0, []), (1, 9, 0, 0, []), (1, 9, 0, 0, []), (1, 9, 0, 0, []), (1, 9, 0, 0, []), (1, 9, 0, 0, []), (1, 4, 0, 0, []), (3, 14, 1, 4, []), (1, 4, 0, 0, []), (1, 4, 0, 0, []), (1, 4, 0, 0, []), (1, 4, 0, 0, []), (3, 19, 1, 4, []), (1, 8, 0, 0, []), (1, 8, 0, 0, []), (1, 8, 0, 0, []), (1, 8, 0, 0, []), (0, 2, 0, 0, [none, none, none, none, none, some 24, some 25, some 34, some 35, some 40, none, none, none, none]), (1, 8, 0, 0, []), (3, 26, 1, 8, []), (1, 9, 0, 0, []), (1, 9, 0, 0, []), (1, 9, 0, 0, []), (1, 9, 0, 0, []), (1, 9, 0, 0, []), (1, 9, 0, 0, []), (1, 9, 0, 0, []), (1, 9, 0, 0, []), (1, 4, 0, 0, []), (3, 36, 1, 4, []), (1, 4, 0, 0, []), (1, 4, 0, 0, []), (1, 4, 0, 0, []), (1, 4, 0, 0, []), (3, 41, 1, 4, []), (1, 8, 0, 0, []), (1, 8, 0, 0, []), (1, 8, 0, 0, []), (1, 8, 0, 0, []), (0, 7, 0, 0, [some 46, none]), (1, 24, 0, 0, []), (4, 119, 2, 4, []), (1, 16, 0, 0, []), (1, 18, 0, 0, []), (0, 6, 0, 0, [some 51, some 52, some 53, some 54, some 55, none, none, none, none, none, none]), (1, 8, 0, 0, []), (1, 8, 0, 0, []), (1, 8, 0, 0, []), (1, 5, 0, 0, []), (1, 5, 0, 0, []), (0, 0, 0, 0, [some 57, some 90, some 91, some 101, some 102, some 103, none, none, none]), (3, 58, 1, 32, []), (1, 4, 0, 0, []), (1, 4, 0, 0, []), (1, 4, 0, 0, []), (1, 4, 0, 0, []), (1, 4, 0, 0, []), (1, 4, 0, 0, []), (1, 4, 0, 0, []), (1, 4, 0, 0, []), (1, 4, 0, 0, []), (1, 4, 0, 0, []), (1, 4, 0, 0, []), (1, 4, 0, 0, []), (1, 4, 0, 0, []), (1, 4, 0, 0, []), (1, 4, 0, 0, []), (1, 4, 0, 0, []), (1, 4, 0, 0, []), (1, 4, 0, 0, []), (1, 4, 0, 0, []), (1, 4, 0, 0, []), (1, 4, 0, 0, []), (1, 4, 0, 0, []), (1, 4, 0, 0, []), (1, 4, 0, 0, []), (1, 4, 0, 0, []), (1, 4, 0, 0, []), (1, 4, 0, 0, []), (1, 4, 0, 0, []), (1, 4, 0, 0, []), (1, 4, 0, 0, []), (1, 4, 0, 0, []), (1, 4, 0, 0, []), (2, 32, 0, 0, []), (3, 92, 1, 9, []), (1, 4, 0, 0, []), (1, 4, 0, 0, []), (1, 4, 0, 0, []), (1, 4, 0, 0, []), (1, 4, 0, 0, []), (1, 4, 0, 0, []), (1, 4, 0, 0, []), (1, 4, 0, 0, []), (1, 4, 0, 0, []), (1, 4, 0, 0, []), (1, 8, 0, 0, []), (1, 8, 0, 0, []), (0, 4, 0, 0, [some 105, some 106, none, none]), (1, 256, 0, 0, []), (1, 8, 0, 0, []), (0, 3, 0, 0, [some 108, some 113, some 114, some 115, some 116, none, none, none, none]), (3, 109, 1, 4, []), (1, 9, 0, 0, []), (1, 9, 0, 0, []), (1, 9, 0, 0, []), (1, 9, 0, 0, []), (1, 4, 0, 0, []), (1, 9, 0, 0, []), (1, 3, 0, 0, []), (1, 3, 0, 0, []), (0, 1, 0, 0, [some 118, none, none, none]), (1, 9, 0, 0, []), (0, 5, 0, 0, [none, none, some 120]), (1, 24, 0, 0, []), (0, 5, 0, 0, [none, none, some 122]), (1, 24, 0, 0, []), (0, 5, 0, 0, [none, none, some 124]), (1, 24, 0, 0, []), (0, 5, 0, 0, [none, none, some 126]), (1, 24, 0, 0, [])]
def hk_8 : kx_H := fun j k => if (j = 1 ∨ j = 23) ∧ k = 4 then 20 else if (j = 1 ∨ j = 23) ∧ k = 10 then -1 else if (j = 119 ∨ j = 121 ∨ j = 123 ∨ j = 125) ∧ k = 0 then -1 else 0
def fz_8 : List Value := [.null, .null, .int 0, .null, .null, .null, .null, .null, .null, .null, .null, .null]
def kz_nest8 : List (String × Nat × MethodName × String) := [(RX8, 9, yX2_init, "SpunTales"), (RX8, 21, yX7_init, "SpunTales"), (RX8, 41, yX6_init, "SpunTales"), (RX8, 48, yX0_init, "SpunTales"), (RX8, 55, yX4_init, "SpunTales"), (RX8, 62, yX3_init, "SpunTales"), (RX8, 69, yX1_init, "SpunTales"), (RX8, 74, yX5_init, "SpunTales")]
def kz_N8 (U : State) : Prop := va_AO "SpunTales$Sheet" U ∧ ∀ q ∈ kz_nest8, va_Nw (.methodLinkNest q.1 q.2.1 q.2.2.1 q.2.2.2) U
theorem kz_N8.warm {s U : State} (hW : s.WarmedH U.vm) (h : kz_N8 s) : kz_N8 U := ⟨h.1.moved hW.alike, fun q hq => va_Nw.warmM hW (h.2 q hq)⟩
theorem kz_N8.same {s U : State} (hv : s.vm = U.vm) (h : kz_N8 s) : kz_N8 U := ⟨h.1.moved (by rw [hv]; exact Vm.Alike.refl _), fun q hq => va_Nw.same rfl hv (h.2 q hq)⟩
theorem kz_left {D : va_G} {w1 w2 : va_W} {H : Heap} (h : va_P D vwCl (w1 ++ w2) H) : va_P D vwCl w1 H := fun k q hq => h k q (by rw [List.getElem?_append_left (List.getElem?_eq_some_iff.mp hq).1]; exact hq)
theorem kz_right {D : va_G} {w1 w2 : va_W} {H : Heap} (h : va_P D vwCl (w1 ++ w2) H) : va_P D vwCl w2 H := fun k q hq => h (w1.length + k) q (by rw [List.getElem?_append_right (by omega), Nat.add_sub_cancel_left]; exact hq)
theorem kz_mem {D : va_G} {w1 w2 : va_W} {H : Heap} (h : va_P D vwCl w1 H) (hm : ∀ q ∈ w2, q ∈ w1) : va_P D vwCl w2 H := fun k q hq => by
  obtain ⟨i, hi⟩ := List.getElem?_of_mem (hm q (List.mem_of_getElem? hq))
  exact h i q hi
theorem kz_refs {D : va_G} {a n : Nat} {c : ClassId} {f g : Nat → Option Nat} {H : Heap} (h : va_at D vwCl (a, .inl (c, n, .inr (.inr (.inr (.inr f))))) H) (hfg : ∀ j, j < n → f j = g j) : va_at D vwCl (a, .inl (c, n, .inr (.inr (.inr (.inr g))))) H := by
  have h1 : H[a]? = some (vp_cell c (n, .inr (.inr (.inr (.inr f))))) := h
  show H[a]? = some (vp_cell c (n, .inr (.inr (.inr (.inr g)))))
  rw [h1, vp_cell_q, vp_cell_q]
  congr 1
  exact kz_arrV c (fun j hj => by rw [hfg j hj])
section KZ2
variable {p : Program} {l : Launch} {e : Env} {R : Room} {s : State} {m : MethodId} {args : Array Value} {below : List Frame} {meth : Method} {c : Code} {H : Heap} {locs : List Loc} {cells slots : Nat} {Q : State → Prop}
variable {cc : ByteArray} {pc : Nat} {ls : Array Slot} {rest : List Value} {D : va_G} {A : Nat → Prop} {ws : va_W} {H0 : Heap} {K4 : Nat → ClassId}
theorem kz_newq (hx : p.tables.exec = Jvm.exec) (hb : c.code = cc) {own : String} {index : Nat} (hown : s.vm.findClass own = some m.cls) (hcl : (Cond.classLink own index "SpunTales$Sheet").before args s = true) (hov : va_AO "SpunTales$Sheet" s) (hK : va_K D vwCl (kz_K K4) s) (hP : va_P D vwCl ws H) {z : Nat} (hz : H.size = z) (hS : va_S A H0 H locs) {n : Int32} {N : Nat} (hn : n = nI N) (hN : N < 1000) (hcells : cells + 1 ≤ R.cells) (hslots : slots + N ≤ R.slots) (d : decode cc pc = .ok (.anewarray index, 3))
    (kk : ∀ H1 : Heap, H1.size = z + 1 → va_P D vwCl (ws ++ [(z, .inl (K4 4, N, .inr (.inr (.inr (.inr (fun _ => none))))))]) H1 → va_S A H0 H1 locs → W p l e R s m args below meth c H1 locs (cells + 1) (slots + N) Q (F0 m (pc + 3) ls (.ref z :: rest))) : W p l e R s m args below meth c H locs cells slots Q (F0 m pc ls (.int n :: rest)) := by
  subst hn; subst hz
  have c1 : (nI N).toNatClampNeg = N := nI_clamp (by omega)
  refine W.anew hx hb hown hcl (va_AO.use hov) rfl d rfl (nI_pos (by omega)) (by rw [c1]; omega) hcells (by rw [c1]; exact hslots) fun cA kA comp f1 f2 f3 f4 => ?_
  rw [c1]
  obtain ⟨kB, comp2, k1, k2, k3, k4⟩ := (hK.2 3 _ rfl).2
  have hc : K4 4 = cA := Option.some.inj (k4.symm.trans f1)
  subst hc
  obtain ⟨g1, g2⟩ := kz_grow (H1 := H.push ({ cls := K4 4, slots := Array.replicate N .null, vm := .none } : Cell)) (k := 1) rfl (by rw [Array.size_push]) (fun q hq => by rw [Array.getElem?_push, if_neg (Nat.ne_of_lt hq)]) hP hS
  refine kk _ (by rw [Array.size_push]) (g1.app (kz_P1 ?_)) g2
  show (H.push _)[H.size]? = some (vp_cell _ _)
  rw [Array.getElem?_push_size, arrV_new]
  rfl
theorem kz_mk {own C : String} {T : u_T} {N ci i1 i2 nL n ms : Nat} {y : MethodName} {cy : ByteArray} {hk : kx_H} {shk : List kx_S} {fs : List Value} (S : CallFix p m c cc nL s args kx_tb own) (hin : ∀ w ∈ u_ws C T N, w ∈ kx_tb) (ty : Nat → FieldType) (hty : ∀ k, k < N → parseFieldDescriptor (T k).2.2.1 = some (ty k)) (hcl : Cond.classLink own i1 C ∈ kx_tb) (hinst : Cond.instantiable C N ∈ kx_tb) (hini : Cond.initialized C ∈ kx_tb) (hc : vwCl[ci]? = some (C, T, N)) (hfs : ∀ j, j < N → defaultValue (ty j) = vp_V fs j) (hM : kz_In 1 12 y cy 1 hk shk ci fs n ms) (hcode : Cond.code y cy 1 none ∈ kx_tb) (hyi : Cond.instanceMethod y ∈ kx_tb) (hy : y.name = "<init>") (hyc : y.cls = C) (hnm : kx_nm y 0) (hlk : va_Nw (.methodLinkNest own i2 y "SpunTales") s)
    (hK : va_K D vwCl (kz_K K4) s) (hov : kz_AOA s) (hP : va_P D vwCl ws H) {z : Nat} (hz : H.size = z) (hS : va_S A H0 H locs) (hA : ∀ q, H0.size ≤ q → A q) (hcells : cells + 1 + n ≤ R.cells) (hslots : slots + N + ms ≤ R.slots) (hfr : 2 ≤ R.frames) (hlo : 32 ≤ R.locals) (hls : ls.size = nL) (hcat : ((Value.ref z :: rest).map fun v => v.category).sum ≤ 8) (d1 : decode cc pc = .ok (.new i1, 3)) (d2 : decode cc (pc + 3) = .ok (.dup, 1)) (d3 : decode cc (pc + 4) = .ok (.invokespecial i2, 3))
    (kk : ∀ (H1 : Heap) (locs1 : List Loc), H1.size = z + 1 + n → va_P D vwCl (ws ++ kz_r (kz_ad z (z + 1)) K4 hk shk 0 (n + 1)) H1 → va_S A H0 H1 locs1 → W p l e R s m args below meth c H1 locs1 (cells + 1 + n) (slots + N + ms) Q (F0 m (pc + 7) ls (.ref z :: rest))) : W p l e R s m args below meth c H locs cells slots Q (F0 m pc ls rest) := by
  obtain ⟨hx, hb, hml, hown, hts⟩ := id S
  have hzs : H0.size ≤ z := by rw [← hz]; exact hS.1
  have hlt : ∀ (k : Nat) (q : Nat × va_E), ws[k]? = some q → q.1 < z := fun k q hq => by rw [← hz]; exact (hP k q hq).lt
  refine kz_new hx hb hts hin ty hty hown (hts _ hcl) (hts _ hinst) (hts _ hini) hK hP hz hS hc hfs (by omega) (by omega) d1 (fun H1 hz1 hP1 hS1 => ?_)
  refine lv_dup hx hb d2 rfl ?_
  have hPc : va_P D vwCl [(z, .inr (ci, fs))] H1 := kz_right hP1
  have hPl : va_P D vwCl ws H1 := kz_left hP1
  refine va_callv (va_runIN (As := []) (rest := .ref z :: rest) S (hM l D K4 z (z + 1)) ⟨va_cnB 0 hts (kx_goodIn hcode) rfl rfl rfl hlk (by rw [hyc]; exact hts _ hini) hnm ⟨by show 1 + 1 ≤ R.frames; omega, by show 8 + (1 + 11) + 12 ≤ R.locals; omega⟩, hy, hts _ hyi⟩ ⟨kz_blind, fun U hU hW => ⟨rfl, by rw [hU]; exact hz1, by omega, by rw [hU]; exact hPc, va_K.moved hW.alike hK, hov.moved hW.alike⟩⟩ rfl rfl hls rfl (lv_room hcat) d3 ⟨hcells, hslots⟩) hS1 (fun q _ hq => hA q (by rcases hq with h | h <;> omega)) (fun q hq => hA q (by rcases hq with h | h <;> omega)) (fun u t H2 locs1 ht hvm hp hB hz2 hk1 hS2 => ?_)
  obtain ⟨b1, b2⟩ := hB
  rw [ht] at b1 b2
  refine kk H2 locs1 b1 ((hPl.kept (fun k x hx2 => hk1 x.1 (by have := hlt k x hx2; omega) (fun hq => by have := hlt k x hx2; rcases hq with h | h <;> omega))).app b2) hS2
end KZ2
/-- behind the outer row of sheets: object, outer row, the rest -/
theorem kz_D2 {D : va_G} {h0 sz : Nat} {e e2 : va_E} {K4 : Nat → ClassId} {h : kx_H} {sh : List kx_S} {k : Nat} (hlt : h0 < sz) : va_D (kz_A h0 sz) ((h0, e) :: (sz + 46, e2) :: (kz_r (kz_ad h0 sz) K4 h sh 1 46 ++ kz_r (kz_ad h0 sz) K4 h sh 48 k)) := by
  refine kz_D1 (D := D) ?_ ?_
  · rw [List.map_cons, List.map_cons, List.map_append, kz_r_adr (by omega), kz_r_adr (by omega), List.nodup_cons, List.nodup_cons, List.nodup_append]
    refine ⟨fun z => ?_, fun z => ?_, ?_, ?_, fun a ha b hb => ?_⟩
    · rcases List.mem_cons.mp z with z | z
      · dsimp only at z; omega
      · rcases List.mem_append.mp z with z | z
        · obtain ⟨j, -, hj⟩ := List.mem_map.mp z
          dsimp only at hj; omega
        · obtain ⟨j, -, hj⟩ := List.mem_map.mp z
          dsimp only at hj; omega
    · rcases List.mem_append.mp z with z | z
      · obtain ⟨j, hj1, hj⟩ := List.mem_map.mp z
        have := List.mem_range.mp hj1
        dsimp only at hj; omega
      · obtain ⟨j, -, hj⟩ := List.mem_map.mp z
        dsimp only at hj; omega
    · rw [List.Nodup, List.pairwise_map]
      exact List.nodup_range.imp (fun hab e => hab (by omega))
    · rw [List.Nodup, List.pairwise_map]
      exact List.nodup_range.imp (fun hab e => hab (by omega))
    · obtain ⟨j, hj1, hj⟩ := List.mem_map.mp ha
      obtain ⟨i, -, hi⟩ := List.mem_map.mp hb
      have := List.mem_range.mp hj1
      omega
  · intro a ha
    rw [List.map_cons, List.map_cons, List.map_append, kz_r_adr (by omega), kz_r_adr (by omega)] at ha
    rcases List.mem_cons.mp ha with z | z
    · exact Or.inl z
    · rcases List.mem_cons.mp z with z | z
      · exact Or.inr (by dsimp only at z; omega)
      · rcases List.mem_append.mp z with z | z
        · obtain ⟨j, -, hj⟩ := List.mem_map.mp z
          exact Or.inr (by omega)
        · obtain ⟨j, -, hj⟩ := List.mem_map.mp z
          exact Or.inr (by omega)
theorem kz_push2 {D : va_G} {q q2 c : Nat × va_E} {ad : Nat → Nat} {K4 : Nat → ClassId} {h : kx_H} {sh : List kx_S} {m : Nat} {H : Heap} (hP : va_P D vwCl ((q :: q2 :: (kz_r ad K4 h sh 1 46 ++ kz_r ad K4 h sh 48 m)) ++ [c]) H) (hc : c = kz_c ad K4 h sh (48 + m)) : va_P D vwCl (q :: q2 :: (kz_r ad K4 h sh 1 46 ++ kz_r ad K4 h sh 48 (m + 1))) H := by
  rw [kz_r_succ (a := 48), ← hc, ← List.append_assoc]; exact hP
theorem kz_pushn {D : va_G} {q q2 : Nat × va_E} {X : va_W} {ad : Nat → Nat} {K4 : Nat → ClassId} {h : kx_H} {sh : List kx_S} {m n : Nat} {H : Heap} (hP : va_P D vwCl ((q :: q2 :: (kz_r ad K4 h sh 1 46 ++ kz_r ad K4 h sh 48 m)) ++ X) H) (hc : X = kz_r ad K4 h sh (48 + m) n) : va_P D vwCl (q :: q2 :: (kz_r ad K4 h sh 1 46 ++ kz_r ad K4 h sh 48 (m + n))) H := by
  rw [kz_r_add (a := 48), ← hc, ← List.append_assoc]; exact hP
theorem kz_sheetAt {q q2 : Nat × va_E} {ad : Nat → Nat} {K4 : Nat → ClassId} {h : kx_H} {sh : List kx_S} {k j : Nat} (hj : j < k) : (q :: q2 :: (kz_r ad K4 h sh 1 46 ++ kz_r ad K4 h sh 48 k))[48 + j]? = some (kz_c ad K4 h sh (48 + j)) := by
  have e : (q :: q2 :: (kz_r ad K4 h sh 1 46 ++ kz_r ad K4 h sh 48 k))[(46 + j) + 1 + 1]? = some (kz_c ad K4 h sh (48 + j)) := by
    rw [List.getElem?_cons_succ, List.getElem?_cons_succ, List.getElem?_append_right (by rw [kz_r_len]; omega), kz_r_len, Nat.add_sub_cancel_left, kz_r_at hj]
  rw [show 46 + j + 1 + 1 = 48 + j by omega] at e
  exact e
