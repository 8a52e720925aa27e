/-! THE CLAIM OUT OF ONE WALK OF THE LAW'S BODY. Your part is whole_start (and what it stands on); all else here is the same for every law, but numbers. -/
def R_law : String := "SpunTalesLaw"
def lw_P (b : Addr) (xs : List Int32) (args : Array Value) (s : State) : Prop := args = #[.ref b] ∧ s.IntsAt b xs ∧ xs.length ≤ 4096 ∧ (Jvm.Cond.and given_1 narrow_1).before args s = true
def lw_Q (_ : Array Value) (s : State) (o : Outcome) (t : State) : Prop := o = .returned (some (.int 1)) ∧ Framed s o t [] 600000 7302250
def lw_Z (below : List Frame) (a : Array Value) (s : State) : State → Prop := fun t => ∃ o, t.status = .running ∧ Ended t below o ∧ lw_Q a s o t
/-- the law's own end, with 1 on the stack, nothing written that was there before, its room as the claim has it -/
theorem lw_ret {p : Program} {l : Launch} {e : Env} {s : State} {m : MethodId} {below : List Frame} {meth : Method} {c : Code} {b : Nat} (hx : p.tables.exec = Jvm.exec) (hb : c.code = code) (hr : meth.sig.returnType = ret) (hlocks : meth.locks = false) {pc : Nat} {H : Heap} {ls : Array Slot} (hdg : decode code pc = .ok (.ireturn, 1)) : W p l e room_1 s m #[Value.ref b] below meth c H [] 600000 7302250 (lw_Z below #[Value.ref b] s) (F0 m pc ls [.int 1]) := by
  intro T hT X
  obtain ⟨fs, hret, hrun, hended, hW, hframe⟩ := X.leave (v := some (.int 1)) (hlocks := hlocks) (fun h => by rw [hr] at h; cases h)
  have hmeth' : T.vm.method? m = some meth := X.method'
  refine ⟨T.setFrames fs, ?_, .returned (some (.int 1)), hrun, hended, rfl, ⟨_, rfl⟩, hW, hframe⟩
  jvm_step X.here [X.here.top, hx, hb, hdg, hmeth', hr, ret, narrow_b1]
  (try refine ⟨rfl, ?_⟩); (try refine ⟨rfl, ?_⟩)
  first | (intro acts; rw [hret _ acts rfl rfl rfl]) | rw [hret _ _ rfl rfl rfl]
  exact Steps.refl _
/-- what holds at the law's entry: the machine, the code, the tables' words (any of lw_tbl by 'hts w (by decide +kernel)'), the script of L ints xs at the cell b, what the Statement gives of the start (any of its parts by flat_of_before) -/
def lw_At (p : Program) (s : State) (m : MethodId) (meth : Method) (c : Code) (b L : Nat) (xs : Nat → Int32) : Prop :=
  p.tables.exec = Jvm.exec ∧ c.code = code ∧ meth.sig.returnType = ret ∧ c.maxLocals = 4 ∧ s.vm.findClass R_law = some m.cls ∧ (∀ w ∈ lw_tbl, w.before #[Value.ref b] s = true) ∧ va_X b L xs s s.heap ∧ b < s.heap.size ∧ meth.locks = false ∧ (Jvm.Cond.and given_1 narrow_1).before #[Value.ref b] s = true
theorem lw_cls {args : Array Value} {s : State} (hts : ∀ w ∈ kx_tb, w.before args s = true) : ∃ D : va_G, ∀ (k : Nat) (q : vw_C), vwCl[k]? = some q → u_Kn s q.1 q.2.1 q.2.2 (D.1 k) (D.2 k) := by
  obtain ⟨c0, i0, k0⟩ := u_known (C := RX0) (T := TX0) (N := 9) (n := 9) hts ly_X0 (hts (.instantiable RX0 9) (kx_t1 165 (by decide +kernel) rfl))
  obtain ⟨c1, i1, k1⟩ := u_known (C := RX1) (T := TX1) (N := 4) (n := 4) hts ly_X1 (hts (.instantiable RX1 4) (kx_t1 262 (by decide +kernel) rfl))
  obtain ⟨c2, i2, k2⟩ := u_known (C := RX2) (T := TX2) (N := 14) (n := 14) hts ly_X2 (hts (.instantiable RX2 14) (kx_t1 23 (by decide +kernel) rfl))
  obtain ⟨c3, i3, k3⟩ := u_known (C := RX3) (T := TX3) (N := 9) (n := 9) hts ly_X3 (hts (.instantiable RX3 9) (kx_t1 225 (by decide +kernel) rfl))
  obtain ⟨c4, i4, k4⟩ := u_known (C := RX4) (T := TX4) (N := 4) (n := 4) hts ly_X4 (hts (.instantiable RX4 4) (kx_t1 203 (by decide +kernel) rfl))
  obtain ⟨c5, i5, k5⟩ := u_known (C := RX5) (T := TX5) (N := 3) (n := 3) hts ly_X5 (hts (.instantiable RX5 3) (kx_t1 282 (by decide +kernel) rfl))
  obtain ⟨c6, i6, k6⟩ := u_known (C := RX6) (T := TX6) (N := 11) (n := 11) hts ly_X6 (hts (.instantiable RX6 11) (kx_t1 123 (by decide +kernel) rfl))
  obtain ⟨c7, i7, k7⟩ := u_known (C := RX7) (T := TX7) (N := 2) (n := 2) hts ly_X7 (hts (.instantiable RX7 2) (kx_t1 107 (by decide +kernel) rfl))
  obtain ⟨c8, i8, k8⟩ := u_known (C := RX8) (T := TX8) (N := 12) (n := 12) hts ly_X8 (hts (.instantiable RX8 12) (kx_t1 15 (by decide +kernel) rfl))
  obtain ⟨c9, i9, k9⟩ := u_known (C := RX9) (T := TX9) (N := 16) (n := 16) hts ly_X9 (hts (.instantiable RX9 16) (kx_t1 718 (by decide +kernel) rfl))
  refine ⟨(fun k => match k with | 0 => c0 | 1 => c1 | 2 => c2 | 3 => c3 | 4 => c4 | 5 => c5 | 6 => c6 | 7 => c7 | 8 => c8 | 9 => c9 | _ => c0, fun k => match k with | 0 => i0 | 1 => i1 | 2 => i2 | 3 => i3 | 4 => i4 | 5 => i5 | 6 => i6 | 7 => i7 | 8 => i8 | 9 => i9 | _ => i0), ?_⟩
  intro k q hq
  match k, hq with
  | 0, hq => cases hq; exact k0
  | 1, hq => cases hq; exact k1
  | 2, hq => cases hq; exact k2
  | 3, hq => cases hq; exact k3
  | 4, hq => cases hq; exact k4
  | 5, hq => cases hq; exact k5
  | 6, hq => cases hq; exact k6
  | 7, hq => cases hq; exact k7
  | 8, hq => cases hq; exact k8
  | 9, hq => cases hq; exact k9
  | k + 10, hq => simp [vwCl] at hq
theorem lw_arr {args : Array Value} {s : State} (hts : ∀ w ∈ lw_tbl, w.before args s = true) : ∃ K4 : Nat → ClassId, ∀ (k : Nat) (q : ClassId × FieldType), (kz_K K4)[k]? = some q → ArrOfT s q.1 q.2 ∧ va_RA s q.1 q.2 := by
  obtain ⟨c1, k1, d1, a1, a2, a3⟩ := Cond.arrayClass_spec (hts (.arrayClass .int) (List.mem_append_right _ (List.mem_of_getElem? (i := 105) (by decide +kernel))))
  obtain ⟨c2, k2, d2, b1, b2, b3⟩ := Cond.arrayClass_spec (hts (.arrayClass .boolean) (List.mem_append_right _ (List.mem_of_getElem? (i := 201) (by decide +kernel))))
  obtain ⟨d3, c3, k3, -, -, e1, e2, e3⟩ := arrayOverA_spec (hts (.arrayOver (.array .int)) (List.mem_append_right _ (List.mem_of_getElem? (i := 29) (by decide +kernel))))
  obtain ⟨d4, c4, k4, f0, -, f1, f2, f3⟩ := Cond.arrayOver_spec (hts (.arrayOver (.object "SpunTales$Sheet")) (List.mem_append_right _ (List.mem_of_getElem? (i := 121) (by decide +kernel))))
  refine ⟨fun k => match k with | 1 => c1 | 2 => c2 | 3 => c3 | _ => c4, ?_⟩
  intro k q hq
  match k, hq with
  | 0, hq => cases hq; exact ⟨fun n z => ⟨fun k h => (by cases h), k1, a2, d1, a3⟩, a1⟩
  | 1, hq => cases hq; exact ⟨fun n z => ⟨fun k h => (by cases h), k2, b2, d2, b3⟩, b1⟩
  | 2, hq => cases hq; exact ⟨fun n z => ⟨fun k h => (by cases h), k3, e1, d3, e2⟩, e3⟩
  | 3, hq => cases hq; exact ⟨fun n z => ⟨fun k h => (by cases h), k4, f1, d4, f2⟩, k4, d4, f1, f2, f0, f3⟩
  | k + 4, hq => simp [kz_K] at hq
theorem kz_blind8 {D : va_G} {K4 : Nat → ClassId} {ci : Nat} {fs : List Value} {h0 sz : Nat} {av : List Value} : FrameBlind (va_Pc av (fun U => kz_Pre D K4 ci fs h0 sz U ∧ kz_N8 U)) := by
  intro a U g mk hq
  obtain ⟨e, ⟨q1, q2, q3, q4, q5⟩, q6⟩ := hq
  exact ⟨e, ⟨q1, q2, q3, va_K.moved (u := U) (U := U.calling g mk a) (Vm.Alike.refl U.vm) q4, kz_AOA.moved (u := U) (U := U.calling g mk a) (Vm.Alike.refl U.vm) q5⟩, q6.same rfl⟩
section LWM
variable {p : Program} {l : Launch} {e : Env} {R : Room} {s : State} {m : MethodId} {args : Array Value} {below : List Frame} {meth : Method} {c : Code} {H : Heap} {locs : List Loc} {cells slots : Nat} {Q : State → Prop}
variable {cc : ByteArray} {pc : Nat} {ls : Array Slot} {rest : List Value} {D : va_G} {A : Nat → Prop} {ws : va_W} {H0 : Heap} {K4 : Nat → ClassId}
theorem lw_mk {own C : String} {T : u_T} {N ci i1 i2 nL nLy n ms fr lo z : Nat} {y : MethodName} {cy : ByteArray} {hk : kx_H} {shk : List kx_S} {fs : List Value} {Pre : State → Prop} (S : CallFix p m c cc nL s args kx_tb own) (hin : ∀ w ∈ u_ws C T N, w ∈ kx_tb) (ty : Nat → FieldType) (hty : ∀ k, k < N → parseFieldDescriptor (T k).2.2.1 = some (ty k)) (hcl : Cond.classLink own i1 C ∈ kx_tb) (hinst : Cond.instantiable C N ∈ kx_tb) (hini : Cond.initialized C ∈ kx_tb) (hc : vwCl[ci]? = some (C, T, N)) (hfs : ∀ j, j < N → defaultValue (ty j) = vp_V fs j)
    (hM : Met l y (.code y cy nLy none :: kx_tb) { frames := fr, cells := n, slots := ms, locals := lo } (va_Pc [.ref z] Pre) (va_Qv (fun _ : Unit => True) (kz_Po D K4 hk shk z (z + 1) n) (kz_A z (z + 1))) n ms (kz_A z (z + 1))) (hbd : FrameBlind (va_Pc [.ref z] Pre)) (hPre : ∀ (H1 : Heap) (U : State), H1.size = z + 1 → va_P D vwCl [(z, .inr (ci, fs))] H1 → U.heap = H1 → s.WarmedH U.vm → Pre U) (hcode : Cond.code y cy nLy none ∈ kx_tb) (hyi : Cond.instanceMethod y ∈ kx_tb) (hy : y.name = "<init>") (hyc : y.cls = C) (hnm : kx_nm y 0) (hlk : Cond.methodLink own i2 y ∈ kx_tb)
    {tys : List (ClassId × FieldType)} (hK : va_K D vwCl tys s) (hP : va_P D vwCl ws H) (hz : H.size = z) (hS : va_S A H0 H locs) (hA : ∀ q, H0.size ≤ q → A q) (hcells : cells + 1 + n ≤ R.cells) (hslots : slots + N + ms ≤ R.slots) (hfr : fr + 1 ≤ R.frames) (hlo : 8 + (nLy + 11) + lo ≤ R.locals) (hls : ls.size = nL) (hcat : ((Value.ref z :: rest).map fun v => v.category).sum ≤ 8) (d1 : decode cc pc = .ok (.new i1, 3)) (d2 : decode cc (pc + 3) = .ok (.dup, 1)) (d3 : decode cc (pc + 4) = .ok (.invokespecial i2, 3))
    (kk : ∀ (H1 : Heap) (locs1 : List Loc), H1.size = z + 1 + n → va_P D vwCl (ws ++ kz_r (kz_ad z (z + 1)) K4 hk shk 0 (n + 1)) H1 → va_S A H0 H1 locs1 → W p l e R s m args below meth c H1 locs1 (cells + 1 + n) (slots + N + ms) Q (F0 m (pc + 7) ls (.ref z :: rest))) : W p l e R s m args below meth c H locs cells slots Q (F0 m pc ls rest) := by
  obtain ⟨hx, hb, hml, hown, hts⟩ := id S
  have hzs : H0.size ≤ z := by rw [← hz]; exact hS.1
  have hlt : ∀ (k : Nat) (q : Nat × va_E), ws[k]? = some q → q.1 < z := fun k q hq => by rw [← hz]; exact (hP k q hq).lt
  refine kz_new hx hb hts hin ty hty hown (hts _ hcl) (hts _ hinst) (hts _ hini) hK hP hz hS hc hfs (by omega) (by omega) d1 (fun H1 hz1 hP1 hS1 => ?_)
  refine lv_dup hx hb d2 rfl ?_
  have hPc : va_P D vwCl [(z, .inr (ci, fs))] H1 := kz_right hP1
  have hPl : va_P D vwCl ws H1 := kz_left hP1
  refine va_callv (va_runI (As := []) (rest := .ref z :: rest) S hM ⟨callB_of 0 hts (kx_goodIn hcode) rfl rfl rfl (by rw [hyc]; exact hts _ hini) (hts _ hlk) hnm ⟨hfr, hlo⟩, hy, hts _ hyi⟩ ⟨hbd, fun U hU hW => ⟨rfl, hPre H1 U hz1 hPc hU hW⟩⟩ rfl rfl hls rfl (lv_room hcat) d3 ⟨hcells, hslots⟩) hS1 (fun q _ hq => hA q (by rcases hq with h | h <;> omega)) (fun q hq => hA q (by rcases hq with h | h <;> omega)) (fun u t H2 locs1 ht hvm hp hB hz2 hk1 hS2 => ?_)
  obtain ⟨b1, b2⟩ := hB
  rw [ht] at b1 b2
  refine kk H2 locs1 b1 ((hPl.kept (fun k x hx2 => hk1 x.1 (by have := hlt k x hx2; omega) (fun hq => by have := hlt k x hx2; rcases hq with h | h <;> omega))).app b2) hS2
end LWM
theorem lmk_8 : (Cond.classLink RL 7 RX8 ∈ kx_tb ∧ Cond.instantiable RX8 12 ∈ kx_tb ∧ Cond.initialized RX8 ∈ kx_tb) ∧ Cond.code yX8_init cX8_init 2 none ∈ kx_tb ∧ Cond.instanceMethod yX8_init ∈ kx_tb ∧ kx_nm yX8_init 0 ∧ Cond.methodLink RL 9 yX8_init ∈ kx_tb := ⟨⟨(kx_t1 14 (by decide +kernel) rfl), (kx_t1 15 (by decide +kernel) rfl), (kx_t1 1 (by decide +kernel) rfl)⟩, (kx_t1 18 (by decide +kernel) rfl), (kx_t1 17 (by decide +kernel) rfl), by unfold kx_nm; decide +kernel, (kx_t1 16 (by decide +kernel) rfl)⟩
theorem fz_ok_8 : ∀ j, j < 12 → defaultValue (tyX8 j) = vp_V fz_8 j := by
  intro j hj
  match j, hj with
  | 0, _ => rfl
  | 1, _ => rfl
  | 2, _ => rfl
  | 3, _ => rfl
  | 4, _ => rfl
  | 5, _ => rfl
  | 6, _ => rfl
  | 7, _ => rfl
  | 8, _ => rfl
  | 9, _ => rfl
  | 10, _ => rfl
  | 11, _ => rfl
  | j + 12, hj => omega
theorem lmk_9 : (Cond.classLink RL 10 RX9 ∈ kx_tb ∧ Cond.instantiable RX9 16 ∈ kx_tb ∧ Cond.initialized RX9 ∈ kx_tb) ∧ Cond.code yX9_init cX9_init 2 none ∈ kx_tb ∧ Cond.instanceMethod yX9_init ∈ kx_tb ∧ kx_nm yX9_init 0 ∧ Cond.methodLink RL 12 yX9_init ∈ kx_tb := ⟨⟨(kx_t1 717 (by decide +kernel) rfl), (kx_t1 718 (by decide +kernel) rfl), (kx_t1 10 (by decide +kernel) rfl)⟩, (kx_t1 721 (by decide +kernel) rfl), (kx_t1 720 (by decide +kernel) rfl), by unfold kx_nm; decide +kernel, (kx_t1 719 (by decide +kernel) rfl)⟩
theorem fz_ok_9 : ∀ j, j < 16 → defaultValue (tyX9 j) = vp_V fz_9 j := by
  intro j hj
  match j, hj with
  | 0, _ => rfl
  | 1, _ => rfl
  | 2, _ => rfl
  | 3, _ => rfl
  | 4, _ => rfl
  | 5, _ => rfl
  | 6, _ => rfl
  | 7, _ => rfl
  | 8, _ => rfl
  | 9, _ => rfl
  | 10, _ => rfl
  | 11, _ => rfl
  | 12, _ => rfl
  | 13, _ => rfl
  | 14, _ => rfl
  | 15, _ => rfl
  | j + 16, hj => omega
set_option maxHeartbeats 4000000 in
set_option maxRecDepth 20000 in
/-- from the entry, for every script of at most 4096 ints, the law comes to its end with true -/
theorem whole_start {p : Program} {e : Env} {s : State} {m : MethodId} {below : List Frame} {meth : Method} {c : Code} (l : Launch) {b L : Nat} {xs : Nat → Int32} (hL : L ≤ 4096) (C0 : lw_At p s m meth c b L xs) : W p l e room_1 s m #[Value.ref b] below meth c s.heap [] 0 0 (lw_Z below #[Value.ref b] s) (entryFrame m ([Value.ref b] : List Value).toArray 4) := by
  obtain ⟨hx, hb, hr, hml, hown, hts, hX, hbl, hlocks, hgv⟩ := id C0
  have hb : c.code = cL_law := hb
  have hown : s.vm.findClass RL = some m.cls := hown
  have hk : ∀ w ∈ kx_tb, w.before #[Value.ref b] s = true := fun w hw => hts w (kx_sub hw)
  have hA : ∀ q : Nat, s.heap.size ≤ q → (fun q : Nat => s.heap.size ≤ q) q := fun _ h => h
  have hbA : ¬ (fun q : Nat => s.heap.size ≤ q) b := Nat.not_le.mpr hbl
  obtain ⟨D, hKc⟩ := lw_cls hk
  obtain ⟨K4, hKa⟩ := lw_arr hts
  have hK : va_K D vwCl (kz_K K4) s := ⟨hKc, hKa⟩
  have hov : kz_AOA s := kz_AOA.of (hts (.arrayOver (.array .int)) (List.mem_append_right _ (List.mem_of_getElem? (i := 29) (by decide +kernel))))
  have hao : va_AO "SpunTales$Sheet" s := va_AO.of (hts (.arrayOver (.object "SpunTales$Sheet")) (List.mem_append_right _ (List.mem_of_getElem? (i := 121) (by decide +kernel))))
  have hN8 : kz_N8 s := ⟨hao, fun q hq => va_Nw.of rfl (hts _ (lw_nst8 q hq))⟩
  have hNw : kx_Nw s := fun q hq => va_Nw.of rfl (hts _ (lw_nst q hq))
  have hS : va_S (fun q : Nat => s.heap.size ≤ q) s.heap s.heap [] := va_S.rf
  have hP : va_P D vwCl [] s.heap := fun k q h => by simp at h
  have hl := lv_entry ([.ref b]) (n := 4) (Nat.le_of_ble_eq_true rfl)
  rw [lg_entry_eq]
  generalize (lg_sl ([.ref b]) ++ List.replicate (4 - (lg_sl ([.ref b])).length) Slot.unset).toArray = ls at hl ⊢
  have hl : lv_has ls 4 [(0, .ref b)] := hl
  refine lw_mk (z := s.heap.size) (nLy := 2) ⟨hx, hb, hml, hown, hk⟩ ly_X8 tyX8 tyX8_ok lmk_8.1.1 lmk_8.1.2.1 lmk_8.1.2.2 rfl fz_ok_8 (in_X8 l D K4 s.heap.size (s.heap.size + 1)) kz_blind8 (fun H1 U hz1 hP1 hU hW => ⟨⟨by rw [hU]; exact hz1, by omega, by rw [hU]; exact hP1, va_K.moved hW.alike hK, hov.moved hW.alike⟩, hN8.warm hW⟩) lmk_8.2.1 lmk_8.2.2.1 rfl rfl lmk_8.2.2.2.1 lmk_8.2.2.2.2 hK hP rfl hS hA (Nat.le_of_ble_eq_true rfl) (Nat.le_of_ble_eq_true rfl) (Nat.le_of_ble_eq_true rfl) (Nat.le_of_ble_eq_true rfl) hl.1 (Nat.le_of_ble_eq_true rfl) dL_law_0 dL_law_3 dL_law_4 (fun H locs hz hP hS => ?_)
  refine lv_astore_n (lv' := [(1, .ref s.heap.size), (0, .ref b)]) hx hb dL_law_7 rfl hl (by decide) rfl (fun ls hl => ?_)
  have hz : H.size = s.heap.size + 127 := hz
  refine lw_mk (z := s.heap.size + 127) (nLy := 2) ⟨hx, hb, hml, hown, hk⟩ ly_X9 tyX9 tyX9_ok lmk_9.1.1 lmk_9.1.2.1 lmk_9.1.2.2 rfl fz_ok_9 (in_X9 l D K4 (s.heap.size + 127) (s.heap.size + 127 + 1)) kz_blind (fun H1 U hz1 hP1 hU hW => ⟨by rw [hU]; exact hz1, by omega, by rw [hU]; exact hP1, va_K.moved hW.alike hK, hov.moved hW.alike⟩) lmk_9.2.1 lmk_9.2.2.1 rfl rfl lmk_9.2.2.2.1 lmk_9.2.2.2.2 hK hP hz hS hA (Nat.le_of_ble_eq_true rfl) (Nat.le_of_ble_eq_true rfl) (Nat.le_of_ble_eq_true rfl) (Nat.le_of_ble_eq_true rfl) hl.1 (Nat.le_of_ble_eq_true rfl) dL_law_8 dL_law_11 dL_law_12 (fun H locs hz hP hS => ?_)
  refine lv_astore_n (lv' := [(2, .ref (s.heap.size + 127)), (1, .ref s.heap.size), (0, .ref b)]) hx hb dL_law_15 rfl hl (by decide) rfl (fun ls hl => ?_)
  refine lv_iconst (v := nI 0) hx hb dL_law_16 (by decide) ?_
  refine lv_istore_n (lv' := [(3, .int (nI 0)), (2, .ref (s.heap.size + 127)), (1, .ref s.heap.size), (0, .ref b)]) hx hb dL_law_17 rfl hl (by decide) rfl (fun ls hl => ?_)
  have hW0 := lw_world (b := b) (w := 127) rfl (kz_right (kz_left hP)) (kz_right hP)
  have C : kx_Ru RL cL_law 4 14 (fun pc L9 S h => ∀ (H : Heap) (locs : List Loc) (ls : Array Slot), va_P D vwCl (kx_wl (lw_ad b s.heap.size) (lw_cA K4) h) H → va_S (fun q : Nat => s.heap.size ≤ q) s.heap H locs → lv_has ls 4 (kx_lv (lw_ad b s.heap.size) 0 L9) → W p l e room_1 s m #[Value.ref b] below meth c H locs (0 + 1 + 126 + 1 + 14) (0 + 12 + 1156 + 16 + 602) (lw_Z below #[Value.ref b] s) (F0 m pc ls (S.map (kx_val (lw_ad b s.heap.size))))) :=
    ⟨p, l, e, room_1, s, m, _, below, meth, c, _, _, _, D, lw_ad b s.heap.size, lw_cA K4, _, ⟨hx, hb, hml, hown, hk⟩, hNw, lw_tys hK, lw_ad_inj, fun i hi => by rw [lw_ad_o hi]; exact Nat.le_add_right _ _, ⟨Nat.le_of_ble_eq_true rfl, Nat.le_of_ble_eq_true rfl, Nat.le_of_ble_eq_true rfl, Nat.le_of_ble_eq_true rfl⟩, rfl⟩
  refine lw_loop C (xs := xs) hL ?_ ?_ ?_ L 0 lw_h0 (by omega) (by omega) lw_I0 H locs ls hW0 hS (lv_sub hl [3, 2, 1, 0] rfl)
  · intro pc L9 S h j hj d kk H locs ls hP hS hl
    exact va_sld hx hb hX hbl hbA hS (vp_in_nI hj (by omega)) d (by rw [nI_clamp (by omega)]; exact kk H locs ls hP hS hl)
  · intro pc L9 S h d kk H locs ls hP hS hl
    exact va_slen hx hb hX hbl hbA hS d (kk H locs ls hP hS hl)
  · intro i h H locs ls hP hS hl
    refine lv_iconst (v := 1) hx hb dL_law_1317 (by decide) ?_
    refine W.widen (k := 600000) (n := 7302250) (Nat.le_of_ble_eq_true rfl) (Nat.le_of_ble_eq_true rfl) ?_
    refine va_forget (fun q hq => hS.2.2 q hq) ?_
    exact lw_ret hx hb hr hlocks dL_law_1318
