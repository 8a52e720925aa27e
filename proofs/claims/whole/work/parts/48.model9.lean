/-! the reference's evening -/
def st_EP (h g : kx_H) (a : Nat → Nat) (Y H : Nat → Nat → Nat) : Prop := g 128 3 = nI (a 3 + 1) ∧ (∀ k, k < 93 → k ≠ 3 → k ≠ 4 → k ≠ 5 → k ≠ 6 → g 128 k = nI (a k)) ∧ (∀ u k, u < 4 → k < 4 → g 128 (93 + 4 * u + k) = nI (Y u k)) ∧ (∀ u v, u < 4 → v < 8 → g 128 (109 + 8 * u + v) = nI (H u v)) ∧ (∀ k, k = 4 ∨ k = 5 ∨ k = 6 → g 128 k = h 128 k) ∧ ∀ d j, d ≠ 128 → g d j = h d j
theorem st_EP.yd {h g : kx_H} {a : Nat → Nat} {Y Y2 H : Nat → Nat → Nat} (hp : st_EP h g a Y H) {s k v : Nat} (hs : s < 4) (hk : k < 4) (hY : ∀ u j, u < 4 → j < 4 → Y2 u j = if u = s ∧ j = k then v else Y u j) : st_EP h (kx_up g 128 (93 + 4 * s + k) (nI v)) a Y2 H := by
  obtain ⟨h1, h2, h3, h4, h5, h6⟩ := hp
  refine ⟨by rw [kx_up, if_neg (by omega)]; exact h1, fun k hk a1 a2 a3 a4 => by rw [kx_up, if_neg (by omega)]; exact h2 k hk a1 a2 a3 a4, fun u j hu hj => ?_, fun u v hu hv => by rw [kx_up, if_neg (by omega)]; exact h4 u v hu hv, fun k hk => by rw [kx_up, if_neg (by omega)]; exact h5 k hk, fun d j hd => by rw [kx_up, if_neg (by omega)]; exact h6 d j hd⟩
  rw [hY u j hu hj]
  by_cases z : u = s ∧ j = k
  · rw [if_pos z, kx_up, if_pos ⟨rfl, by omega⟩]
  · rw [if_neg z, kx_up, if_neg (by omega)]; exact h3 u j hu hj
theorem st_EP.hd {h g : kx_H} {a : Nat → Nat} {Y H H2 : Nat → Nat → Nat} (hp : st_EP h g a Y H) {s t v : Nat} (hs : s < 4) (ht : t < 8) (hY : ∀ u j, u < 4 → j < 8 → H2 u j = if u = s ∧ j = t then v else H u j) : st_EP h (kx_up g 128 (109 + 8 * s + t) (nI v)) a Y H2 := by
  obtain ⟨h1, h2, h3, h4, h5, h6⟩ := hp
  refine ⟨by rw [kx_up, if_neg (by omega)]; exact h1, fun k hk a1 a2 a3 a4 => by rw [kx_up, if_neg (by omega)]; exact h2 k hk a1 a2 a3 a4, fun u v hu hv => by rw [kx_up, if_neg (by omega)]; exact h3 u v hu hv, fun u j hu hj => ?_, fun k hk => by rw [kx_up, if_neg (by omega)]; exact h5 k hk, fun d j hd => by rw [kx_up, if_neg (by omega)]; exact h6 d j hd⟩
  rw [hY u j hu hj]
  by_cases z : u = s ∧ j = t
  · rw [if_pos z, kx_up, if_pos ⟨rfl, by omega⟩]
  · rw [if_neg z, kx_up, if_neg (by omega)]; exact h4 u j hu hj
theorem st_EP.cong {h g : kx_H} {a : Nat → Nat} {Y Y2 H H2 : Nat → Nat → Nat} (hp : st_EP h g a Y H) (h1 : ∀ u k, u < 4 → k < 4 → Y2 u k = Y u k) (h2 : ∀ u v, u < 4 → v < 8 → H2 u v = H u v) : st_EP h g a Y2 H2 := by
  obtain ⟨q1, q2, q3, q4, q5, q6⟩ := hp
  exact ⟨q1, q2, fun u k hu hk => by rw [h1 u k hu hk]; exact q3 u k hu hk, fun u v hu hv => by rw [h2 u v hu hv]; exact q4 u v hu hv, q5, q6⟩
def sp_Yp (a : Nat → Nat) (e t n w s u k : Nat) : Nat := a (93 + 4 * u + k) + if u < s ∧ w / 2 ^ u % 2 = 1 then sp_yc a e t n u k else 0
def sp_Hp (a : Nat → Nat) (e t n w s u v : Nat) : Nat := if a (81 + t) ≤ sp_to a e t n ∧ v = t ∧ u < s ∧ sp_wh a e t w / 2 ^ u % 2 = 1 then a 3 + 1 else a (109 + 8 * u + v)
def sp_wb (w : Nat) (s : Nat) : Nat := sp_ct (fun i => decide (w / 2 ^ i % 2 = 1)) s
theorem sp_wb_pop : ∀ S, S < 5 → ∀ w, w < 2 ^ S → sp_wb w S = sp_pop w := by decide +kernel
theorem sp_wb_le (w s : Nat) : sp_wb w s ≤ s := sp_ct_le _ s
theorem sp_bit_and : ∀ x, x < 16 → ∀ w, w < 16 → ∀ s, s < 4 → (x &&& w) / 2 ^ s % 2 = 1 → w / 2 ^ s % 2 = 1 := by decide +kernel
theorem sp_te_up3 {a : Nat → Nat} {v e t i : Nat} : sp_te (up a 3 v) e t i = sp_te a e t i := by
  unfold sp_te
  rw [up_o (by omega), up_o (by omega), up_o (by omega)]
theorem st_RB.up3 {a : Nat → Nat} (h : st_RB a) {v : Nat} : st_RB (up a 3 v) :=
  ⟨fun t ht => by rw [up_o (by omega)]; exact h.1 t ht, fun t i ht hi => by rw [up_o (by omega)]; exact h.2.1 t i ht hi, fun e he => by rw [up_o (by omega)]; exact h.2.2 e he⟩
set_option maxHeartbeats 4000000 in
set_option maxRecDepth 100000 in
theorem m_X9_evening {h : kx_H} {a : Nat → Nat} (te tt tn tw : Int32) (hH : st_MH 128 h a) (hB : st_B a) : kx_MI 4 yX9_evening cX9_evening 14 .int [.ref 127, .int te, .int tt, .int tn, .int tw] h (fun r h1 => r = sp_evening a te tt tn tw ∧ st_MH 128 h1 (sp_eveningA a te tt tn tw) ∧ ∀ d j, d ≠ 128 → h1 d j = h d j) := by
  refine kx_mkI (own := RX9) (L0 := [some (.ref 127), some (.int te), some (.int tt), some (.int tn), some (.int tw), none, none, none, none, none, none, none, none, none]) rfl (by decide +kernel) (Nat.le_of_ble_eq_true rfl) rfl (fun F C hR => ?_)
  obtain ⟨hM, hMB⟩ := id hH
  obtain ⟨⟨b0, b1, b2, b3, b8, b8'⟩, hRB, bl, byy, bh, bz, bb⟩ := id hB
  have hl9 := hRB.1
  have hT : h 128 0 = nI (a 0) := hM 0 (by omega) (by omega) (by omega) (by omega)
  have hE : h 128 1 = nI (a 1) := hM 1 (by omega) (by omega) (by omega) (by omega)
  have hS : h 128 2 = nI (a 2) := hM 2 (by omega) (by omega) (by omega) (by omega)
  have hev : h 128 3 = nI (a 3) := hM 3 (by omega) (by omega) (by omega) (by omega)
  have hme : h 128 8 = nI (a 8) := hM 8 (by omega) (by omega) (by omega) (by omega)
  have p16 : 2 ^ a 2 ≤ 16 := Nat.pow_le_pow_right (n := 2) (by decide) b2
  have main : ∀ (e t n w : Nat), e < a 1 → t < a 0 → 1 ≤ n → n ≤ 9 → w < 2 ^ a 2 → a 3 < 9999 → (∀ r, r = nI ((sp_to a e t n - sp_fr a e t) * sp_pop w) → r = sp_evening a te tt tn tw) → (sp_eveningA a te tt tn tw = sp_ev a e t n w) → F 76 [some (.ref 127), some (.int (nI e)), some (.int (nI t)), some (.int (nI n)), some (.int (nI w)), none, none, none, none, none, none, none, none, none] [] (kx_up h 128 3 (nI (a 3 + 1))) := by
    intro e t n w he ht hn1 hn9 hw h9 hfin hA
    have hl := hl9 t (by omega)
    have hfr := sp_fr_lt hB (e := e) ht
    have hwl := sp_wh_lt hB (e := e) (t := t) (w := w) (by omega)
    have hto1 : sp_to a e t n ≤ a (81 + t) := by unfold sp_to; omega
    have hto2 : sp_fr a e t ≤ sp_to a e t n := by unfold sp_to; omega
    have whb : ∀ s, s < 4 → sp_wh a e t w / 2 ^ s % 2 = 1 → w / 2 ^ s % 2 = 1 := fun s hs => by
      unfold sp_wh
      split
      · next q => exact sp_bit_and (a 7) (bb (by omega)).2.2.2.2 w (by omega) s hs
      · exact fun z => z
    have last : ∀ (g : kx_H) (on s : Int32) (o11 o12 o13 : Option Value), st_EP h g a (sp_Yp a e t n w (a 2)) (sp_Hp a e t n w (a 2)) → F 343 [some (.ref 127), some (.int (nI e)), some (.int (nI t)), some (.int (nI n)), some (.int (nI w)), some (.int on), some (.int (nI (sp_fr a e t))), some (.int (nI (sp_wh a e t w))), some (.int (nI (sp_to a e t n))), some (.int (nI ((sp_to a e t n - sp_fr a e t) * sp_wb w (a 2)))), some (.int s), o11, o12, o13] [] g := by
      intro g on s o11 o12 o13 hp
      obtain ⟨p1, p2, p3, p4, p5, p6⟩ := hp
      have epop := sp_wb_pop (a 2) (by omega) w hw
      have oth : ∀ k, k < 141 → k ≠ 4 → k ≠ 5 → k ≠ 6 → k ≠ 7 → g 128 k = nI (sp_ev a e t n w k) := by
        intro k hk k4 k5 k6 k7
        rcases Nat.lt_or_ge k 93 with q | q
        · by_cases z : k = 3
          · subst z; rw [p1]; rfl
          · rw [p2 k q z k4 k5 k6, sp_ev_o (by omega)]
        · rcases Nat.lt_or_ge k 109 with q2 | q2
          · rw [show k = 93 + 4 * ((k - 93) / 4) + (k - 93) % 4 by omega, p3 _ _ (by omega) (by omega), sp_ev_y (by omega) (by omega)]; rfl
          · rw [show k = 109 + 8 * ((k - 109) / 8) + (k - 109) % 8 by omega, p4 _ _ (by omega) (by omega), sp_ev_h (by omega) (by omega)]; rfl
      have e81 : g 128 (81 + t) = nI (a (81 + t)) := p2 _ (by omega) (by omega) (by omega) (by omega) (by omega)
      have yes : sp_to a e t n = a (81 + t) → F 364 [some (.ref 127), some (.int (nI e)), some (.int (nI t)), some (.int (nI n)), some (.int (nI w)), some (.int on), some (.int (nI (sp_fr a e t))), some (.int (nI (sp_wh a e t w))), some (.int (nI (sp_to a e t n))), some (.int (nI ((sp_to a e t n - sp_fr a e t) * sp_wb w (a 2)))), some (.int (nI 1)), o11, o12, o13] [] g := by
        intro hends
        refine kx_ald0 (pc := 364) C dX9_evening_364 ?_
        refine kx_getr (pc := 365) C fl_X9_7 fd_127_0 dX9_evening_365 ?_
        refine kx_iconst (pc := 368) C (v := nI 4) dX9_evening_368 (by decide) ?_
        refine kx_ild10 (pc := 369) C dX9_evening_369 ?_
        refine kx_if_eq (pc := 371) C 379 dX9_evening_371 (by decide) (fun c371 => ?_) (fun c371 => ?_)
        · exact absurd c371 (by decide)
        · refine kx_bipush (pc := 374) C (v := -4) dX9_evening_374 (by decide) ?_
          refine kx_goto (pc := 376) C 380 dX9_evening_376 (by decide) ?_
          refine kx_iast (pc := 380) C ia_128 (by omega) dX9_evening_380 ?_
          refine kx_ald0 (pc := 381) C dX9_evening_381 ?_
          refine kx_getr (pc := 382) C fl_X9_7 fd_127_0 dX9_evening_382 ?_
          refine kx_iconst (pc := 385) C (v := nI 5) dX9_evening_385 (by decide) ?_
          refine kx_ild10 (pc := 386) C dX9_evening_386 ?_
          refine kx_if_eq (pc := 388) C 396 dX9_evening_388 (by decide) (fun c388 => ?_) (fun c388 => ?_)
          · exact absurd c388 (by decide)
          · refine kx_bipush (pc := 391) C (v := -4) dX9_evening_391 (by decide) ?_
            refine kx_goto (pc := 393) C 397 dX9_evening_393 (by decide) ?_
            refine kx_iast (pc := 397) C ia_128 (by omega) dX9_evening_397 ?_
            refine kx_ald0 (pc := 398) C dX9_evening_398 ?_
            refine kx_getr (pc := 399) C fl_X9_7 fd_127_0 dX9_evening_399 ?_
            refine kx_bipush (pc := 402) C (v := nI 6) dX9_evening_402 (by decide) ?_
            refine kx_ild10 (pc := 404) C dX9_evening_404 ?_
            refine kx_if_eq (pc := 406) C 414 dX9_evening_406 (by decide) (fun c406 => ?_) (fun c406 => ?_)
            · exact absurd c406 (by decide)
            · refine kx_bipush (pc := 409) C (v := -4) dX9_evening_409 (by decide) ?_
              refine kx_goto (pc := 411) C 416 dX9_evening_411 (by decide) ?_
              refine kx_iast (pc := 416) C ia_128 (by omega) dX9_evening_416 ?_
              refine kx_ald0 (pc := 417) C dX9_evening_417 ?_
              refine kx_getr (pc := 418) C fl_X9_7 fd_127_0 dX9_evening_418 ?_
              refine kx_bipush (pc := 421) C (v := nI 7) dX9_evening_421 (by decide) ?_
              refine kx_ild10 (pc := 423) C dX9_evening_423 ?_
              refine kx_if_eq (pc := 425) C 432 dX9_evening_425 (by decide) (fun c425 => ?_) (fun c425 => ?_)
              · exact absurd c425 (by decide)
              · refine kx_iconst (pc := 428) C (v := nI 0) dX9_evening_428 (by decide) ?_
                refine kx_goto (pc := 429) C 434 dX9_evening_429 (by decide) ?_
                refine kx_iast (pc := 434) C ia_128 (by omega) dX9_evening_434 ?_
                refine kx_ild9 (pc := 435) C dX9_evening_435 ?_
                refine hR dX9_evening_437 rfl ⟨hfin _ (by rw [epop]), ?_, fun d j hd => by rw [kx_up, if_neg (by omega), kx_up, if_neg (by omega), kx_up, if_neg (by omega), kx_up, if_neg (by omega)]; exact p6 d j hd⟩
                rw [hA]
                refine ⟨fun k hk k4 k5 k6 => ?_, Or.inl ⟨?_, ?_, ?_, ?_⟩⟩
                · by_cases z : k = 7
                  · rw [z, kx_up, if_pos ⟨rfl, rfl⟩]
                    show _ = nI (if sp_to a e t n < a (81 + t) then sp_wh a e t w else 0)
                    rw [if_neg (by omega)]
                  · rw [kx_up, if_neg (by omega), kx_up, if_neg (by omega), kx_up, if_neg (by omega), kx_up, if_neg (by omega)]; exact oth k hk k4 k5 k6 z
                · show (if sp_to a e t n < a (81 + t) then t + 1 else 0) = 0
                  rw [if_neg (by omega)]
                · rw [kx_up, if_neg (by omega), kx_up, if_neg (by omega), kx_up, if_neg (by omega), kx_up, if_pos ⟨rfl, rfl⟩]
                · rw [kx_up, if_neg (by omega), kx_up, if_neg (by omega), kx_up, if_pos ⟨rfl, rfl⟩]
                · rw [kx_up, if_neg (by omega), kx_up, if_pos ⟨rfl, rfl⟩]
      have no : sp_to a e t n < a (81 + t) → F 364 [some (.ref 127), some (.int (nI e)), some (.int (nI t)), some (.int (nI n)), some (.int (nI w)), some (.int on), some (.int (nI (sp_fr a e t))), some (.int (nI (sp_wh a e t w))), some (.int (nI (sp_to a e t n))), some (.int (nI ((sp_to a e t n - sp_fr a e t) * sp_wb w (a 2)))), some (.int (nI 0)), o11, o12, o13] [] g := by
        intro hends
        refine kx_ald0 (pc := 364) C dX9_evening_364 ?_
        refine kx_getr (pc := 365) C fl_X9_7 fd_127_0 dX9_evening_365 ?_
        refine kx_iconst (pc := 368) C (v := nI 4) dX9_evening_368 (by decide) ?_
        refine kx_ild10 (pc := 369) C dX9_evening_369 ?_
        refine kx_if_eq (pc := 371) C 379 dX9_evening_371 (by decide) (fun c371 => ?_) (fun c371 => ?_)
        · refine kx_ild2 (pc := 379) C dX9_evening_379 ?_
          refine kx_iast (pc := 380) C ia_128 (by omega) dX9_evening_380 ?_
          refine kx_ald0 (pc := 381) C dX9_evening_381 ?_
          refine kx_getr (pc := 382) C fl_X9_7 fd_127_0 dX9_evening_382 ?_
          refine kx_iconst (pc := 385) C (v := nI 5) dX9_evening_385 (by decide) ?_
          refine kx_ild10 (pc := 386) C dX9_evening_386 ?_
          refine kx_if_eq (pc := 388) C 396 dX9_evening_388 (by decide) (fun c388 => ?_) (fun c388 => ?_)
          · refine kx_ild1 (pc := 396) C dX9_evening_396 ?_
            refine kx_iast (pc := 397) C ia_128 (by omega) dX9_evening_397 ?_
            refine kx_ald0 (pc := 398) C dX9_evening_398 ?_
            refine kx_getr (pc := 399) C fl_X9_7 fd_127_0 dX9_evening_399 ?_
            refine kx_bipush (pc := 402) C (v := nI 6) dX9_evening_402 (by decide) ?_
            refine kx_ild10 (pc := 404) C dX9_evening_404 ?_
            refine kx_if_eq (pc := 406) C 414 dX9_evening_406 (by decide) (fun c406 => ?_) (fun c406 => ?_)
            · refine kx_ild8 (pc := 414) C dX9_evening_414 ?_
              refine kx_iast (pc := 416) C ia_128 (by omega) dX9_evening_416 ?_
              refine kx_ald0 (pc := 417) C dX9_evening_417 ?_
              refine kx_getr (pc := 418) C fl_X9_7 fd_127_0 dX9_evening_418 ?_
              refine kx_bipush (pc := 421) C (v := nI 7) dX9_evening_421 (by decide) ?_
              refine kx_ild10 (pc := 423) C dX9_evening_423 ?_
              refine kx_if_eq (pc := 425) C 432 dX9_evening_425 (by decide) (fun c425 => ?_) (fun c425 => ?_)
              · refine kx_ild7 (pc := 432) C dX9_evening_432 ?_
                refine kx_iast (pc := 434) C ia_128 (by omega) dX9_evening_434 ?_
                refine kx_ild9 (pc := 435) C dX9_evening_435 ?_
                refine hR dX9_evening_437 rfl ⟨hfin _ (by rw [epop]), ?_, fun d j hd => by rw [kx_up, if_neg (by omega), kx_up, if_neg (by omega), kx_up, if_neg (by omega), kx_up, if_neg (by omega)]; exact p6 d j hd⟩
                rw [hA]
                have s4 : sp_ev a e t n w 4 = t + 1 := if_pos hends
                have s5 : sp_ev a e t n w 5 = e := if_pos hends
                have s6 : sp_ev a e t n w 6 = sp_to a e t n := if_pos hends
                refine ⟨fun k hk k4 k5 k6 => ?_, Or.inr ⟨?_, ?_, ?_, ?_⟩⟩
                · by_cases z : k = 7
                  · rw [z, kx_up, if_pos ⟨rfl, rfl⟩]
                    show _ = nI (if sp_to a e t n < a (81 + t) then sp_wh a e t w else 0)
                    rw [if_pos (by omega)]
                  · rw [kx_up, if_neg (by omega), kx_up, if_neg (by omega), kx_up, if_neg (by omega), kx_up, if_neg (by omega)]; exact oth k hk k4 k5 k6 z
                · rw [s4]; omega
                · rw [kx_up, if_neg (by omega), kx_up, if_neg (by omega), kx_up, if_neg (by omega), kx_up, if_pos ⟨rfl, rfl⟩, s4, Nat.add_sub_cancel]
                · rw [kx_up, if_neg (by omega), kx_up, if_neg (by omega), kx_up, if_pos ⟨rfl, rfl⟩, s5]
                · rw [kx_up, if_neg (by omega), kx_up, if_pos ⟨rfl, rfl⟩, s6]
              · exact absurd rfl c425
            · exact absurd rfl c406
          · exact absurd rfl c388
        · exact absurd rfl c371
      refine kx_ild8 (pc := 343) C dX9_evening_343 ?_
      refine kx_ald0 (pc := 345) C dX9_evening_345 ?_
      refine kx_getr (pc := 346) C fl_X9_7 fd_127_0 dX9_evening_346 ?_
      refine kx_bipush (pc := 349) C (v := nI 81) dX9_evening_349 (by decide) ?_
      refine kx_ild2 (pc := 351) C dX9_evening_351 ?_
      first | refine kx_iaddN (pc := 352) C dX9_evening_352 ?_ | refine kx_iadd (pc := 352) C dX9_evening_352 ?_
      refine kx_iald (pc := 353) C ia_128 (by omega) e81 dX9_evening_353 ?_
      refine kx_icmp_neN (pc := 354) C 361 (by omega) (by omega) dX9_evening_354 (by decide) (fun c354 => ?_) (fun c354 => ?_)
      · refine kx_iconst (pc := 361) C (v := nI 0) dX9_evening_361 (by decide) ?_
        refine kx_ist10 (pc := 362) C dX9_evening_362 (by decide) rfl ?_
        first | exact yes c354 | exact no (by omega)
      · refine kx_iconst (pc := 357) C (v := nI 1) dX9_evening_357 (by decide) ?_
        refine kx_goto (pc := 358) C 362 dX9_evening_358 (by decide) ?_
        refine kx_ist10 (pc := 362) C dX9_evening_362 (by decide) rfl ?_
        first | exact yes c354 | exact no (by omega)
    have loop : ∀ (q s : Nat) (g : kx_H) (on : Int32) (o11 o12 o13 : Option Value), a 2 - s = q → s ≤ a 2 → st_EP h g a (sp_Yp a e t n w s) (sp_Hp a e t n w s) → F 183 [some (.ref 127), some (.int (nI e)), some (.int (nI t)), some (.int (nI n)), some (.int (nI w)), some (.int on), some (.int (nI (sp_fr a e t))), some (.int (nI (sp_wh a e t w))), some (.int (nI (sp_to a e t n))), some (.int (nI ((sp_to a e t n - sp_fr a e t) * sp_wb w s))), some (.int (nI s)), o11, o12, o13] [] g := by
      intro q
      induction q with
      | zero =>
        intro s g on o11 o12 o13 hq hs hp
        have es : s = a 2 := by omega
        subst es
        have e2 : g 128 2 = nI (a 2) := hp.2.1 _ (by omega) (by omega) (by omega) (by omega) (by omega)
        refine kx_ild10 (pc := 183) C dX9_evening_183 ?_
        refine kx_ald0 (pc := 185) C dX9_evening_185 ?_
        refine kx_getr (pc := 186) C fl_X9_7 fd_127_0 dX9_evening_186 ?_
        refine kx_iconst (pc := 189) C (v := nI 2) dX9_evening_189 (by decide) ?_
        refine kx_iald (pc := 190) C ia_128 (by omega) e2 dX9_evening_190 ?_
        refine kx_icmp_geN (pc := 191) C 343 (by omega) (by omega) dX9_evening_191 (by decide) (fun c191 => ?_) (fun c191 => ?_)
        · exact last g on _ _ _ _ hp
        · omega
      | succ q ih =>
        intro s g on o11 o12 o13 hq hs hp
        have e2 : g 128 2 = nI (a 2) := hp.2.1 _ (by omega) (by omega) (by omega) (by omega) (by omega)
        have e3 : g 128 3 = nI (a 3 + 1) := hp.1
        have wbl := sp_wb_le w s
        have bhs := bh s t (by omega) (by omega)
        have mle := sp_m_le a s t (a 3 + 1)
        have nS : ∀ (g : kx_H) (o11 o12 o13 : Option Value) (c : Nat), c = (sp_to a e t n - sp_fr a e t) * sp_wb w (s + 1) → st_EP h g a (sp_Yp a e t n w (s + 1)) (sp_Hp a e t n w (s + 1)) → F 337 [some (.ref 127), some (.int (nI e)), some (.int (nI t)), some (.int (nI n)), some (.int (nI w)), some (.int on), some (.int (nI (sp_fr a e t))), some (.int (nI (sp_wh a e t w))), some (.int (nI (sp_to a e t n))), some (.int (nI c)), some (.int (nI s)), o11, o12, o13] [] g := by
          intro g o11 o12 o13 c hc hp
          subst hc
          first | refine kx_inc10 (pc := 337) C (v := nI (_ + 1)) dX9_evening_337 (by decide) rfl (nI_1 _) ?_ | refine kx_inc10 (pc := 337) C dX9_evening_337 (by decide) rfl rfl ?_
          refine kx_goto (pc := 340) C 183 dX9_evening_340 (by decide) ?_
          exact ih (s + 1) g on _ _ _ (by omega) (by omega) hp
        have inner : w / 2 ^ s % 2 = 1 → ∀ (c i : Nat) (g : kx_H) (o13 : Option Value), sp_to a e t n - i = c → i ≤ sp_to a e t n → sp_fr a e t ≤ i → st_EP h g a (fun u k => if u = s then a (93 + 4 * s + k) + sp_cn (fun i => sp_so (sp_m a s t (a 3 + 1)) (sp_te a e t i)) k (sp_fr a e t) (i - sp_fr a e t) else sp_Yp a e t n w s u k) (sp_Hp a e t n w s) → F 226 [some (.ref 127), some (.int (nI e)), some (.int (nI t)), some (.int (nI n)), some (.int (nI w)), some (.int on), some (.int (nI (sp_fr a e t))), some (.int (nI (sp_wh a e t w))), some (.int (nI (sp_to a e t n))), some (.int (nI ((sp_to a e t n - sp_fr a e t) * sp_wb w s + (i - sp_fr a e t)))), some (.int (nI s)), some (.int (nI (sp_m a s t (a 3 + 1)))), some (.int (nI i)), o13] [] g := by
          intro hbit c
          have wbs : sp_wb w (s + 1) = sp_wb w s + 1 := sp_ct_yes (decide_eq_true hbit)
          induction c with
          | zero =>
            intro i g o13 hc hi hfi hp
            have ei : i = sp_to a e t n := by omega
            have e81 : g 128 (81 + t) = nI (a (81 + t)) := hp.2.1 _ (by omega) (by omega) (by omega) (by omega) (by omega)
            have e3 : g 128 3 = nI (a 3 + 1) := hp.1
            have hY : ∀ u k, u < 4 → k < 4 → sp_Yp a e t n w (s + 1) u k = if u = s then a (93 + 4 * s + k) + sp_cn (fun i => sp_so (sp_m a s t (a 3 + 1)) (sp_te a e t i)) k (sp_fr a e t) (i - sp_fr a e t) else sp_Yp a e t n w s u k := fun u k _ _ => by
              unfold sp_Yp
              by_cases z : u = s
              · rw [if_pos z, z, if_pos ⟨by omega, hbit⟩, ei]; rfl
              · rw [if_neg z]
                congr 1
                exact kx_ifx (by omega) _ _
            have ec : (sp_to a e t n - sp_fr a e t) * sp_wb w s + (i - sp_fr a e t) = (sp_to a e t n - sp_fr a e t) * sp_wb w (s + 1) := by rw [wbs, Nat.mul_add, Nat.mul_one, ei]
            refine kx_ild12 (pc := 226) C dX9_evening_226 ?_
            refine kx_ild8 (pc := 228) C dX9_evening_228 ?_
            refine kx_icmp_geN (pc := 230) C 291 (by omega) (by omega) dX9_evening_230 (by decide) (fun c230 => ?_) (fun c230 => ?_)
            · refine kx_ild8 (pc := 291) C dX9_evening_291 ?_
              refine kx_ald0 (pc := 293) C dX9_evening_293 ?_
              refine kx_getr (pc := 294) C fl_X9_7 fd_127_0 dX9_evening_294 ?_
              refine kx_bipush (pc := 297) C (v := nI 81) dX9_evening_297 (by decide) ?_
              refine kx_ild2 (pc := 299) C dX9_evening_299 ?_
              first | refine kx_iaddN (pc := 300) C dX9_evening_300 ?_ | refine kx_iadd (pc := 300) C dX9_evening_300 ?_
              refine kx_iald (pc := 301) C ia_128 (by omega) e81 dX9_evening_301 ?_
              refine kx_icmp_neN (pc := 302) C 337 (by omega) (by omega) dX9_evening_302 (by decide) (fun c302 => ?_) (fun c302 => ?_)
              · refine nS _ _ _ _ _ ec ?_
                first
                  | (refine (hp.hd (H2 := sp_Hp a e t n w (s + 1)) (by omega) (by omega) (fun u j hu hj => ?_)).cong hY (fun _ _ _ _ => rfl)
                     unfold sp_Hp
                     by_cases z : u = s ∧ j = t
                     · rw [if_pos z, z.1, z.2, if_pos ⟨by omega, rfl, by omega, c313⟩]
                     · rw [if_neg z]
                       exact kx_ifx (by omega) _ _)
                  | (refine hp.cong hY (fun u v _ _ => ?_)
                     unfold sp_Hp
                     by_cases z : u = s
                     · subst z
                       first
                         | rw [if_neg (fun z => c313 z.2.2.2), if_neg (fun z => c313 z.2.2.2)]
                         | rw [if_neg (by omega), if_neg (by omega)]
                     · exact kx_ifx (by omega) _ _)
              · refine kx_ild7 (pc := 305) C dX9_evening_305 ?_
                refine kx_ild10 (pc := 307) C dX9_evening_307 ?_
                refine kx_ishr (pc := 309) C dX9_evening_309 ?_
                refine kx_iconst (pc := 310) C (v := nI 1) dX9_evening_310 (by decide) ?_
                refine kx_iand (pc := 311) C dX9_evening_311 ?_
                rw [kx_bit (by omega) (by omega)]
                refine kx_iconst (pc := 312) C (v := nI 1) dX9_evening_312 (by decide) ?_
                refine kx_icmp_neN (pc := 313) C 337 (by omega) (by omega) dX9_evening_313 (by decide) (fun c313 => ?_) (fun c313 => ?_)
                · refine nS _ _ _ _ _ ec ?_
                  first
                    | (refine (hp.hd (H2 := sp_Hp a e t n w (s + 1)) (by omega) (by omega) (fun u j hu hj => ?_)).cong hY (fun _ _ _ _ => rfl)
                       unfold sp_Hp
                       by_cases z : u = s ∧ j = t
                       · rw [if_pos z, z.1, z.2, if_pos ⟨by omega, rfl, by omega, c313⟩]
                       · rw [if_neg z]
                         exact kx_ifx (by omega) _ _)
                    | (refine hp.cong hY (fun u v _ _ => ?_)
                       unfold sp_Hp
                       by_cases z : u = s
                       · subst z
                         first
                           | rw [if_neg (fun z => c313 z.2.2.2), if_neg (fun z => c313 z.2.2.2)]
                           | rw [if_neg (by omega), if_neg (by omega)]
                       · exact kx_ifx (by omega) _ _)
                · refine kx_ald0 (pc := 316) C dX9_evening_316 ?_
                  refine kx_getr (pc := 317) C fl_X9_7 fd_127_0 dX9_evening_317 ?_
                  refine kx_bipush (pc := 320) C (v := nI 109) dX9_evening_320 (by decide) ?_
                  refine kx_bipush (pc := 322) C (v := nI 8) dX9_evening_322 (by decide) ?_
                  refine kx_ild10 (pc := 324) C dX9_evening_324 ?_
                  first | refine kx_imulN (pc := 326) C dX9_evening_326 ?_ | refine kx_imul (pc := 326) C dX9_evening_326 ?_
                  first | refine kx_iaddN (pc := 327) C dX9_evening_327 ?_ | refine kx_iadd (pc := 327) C dX9_evening_327 ?_
                  refine kx_ild2 (pc := 328) C dX9_evening_328 ?_
                  first | refine kx_iaddN (pc := 329) C dX9_evening_329 ?_ | refine kx_iadd (pc := 329) C dX9_evening_329 ?_
                  refine kx_ald0 (pc := 330) C dX9_evening_330 ?_
                  refine kx_getr (pc := 331) C fl_X9_7 fd_127_0 dX9_evening_331 ?_
                  refine kx_iconst (pc := 334) C (v := nI 3) dX9_evening_334 (by decide) ?_
                  refine kx_iald (pc := 335) C ia_128 (by omega) e3 dX9_evening_335 ?_
                  refine kx_iast (pc := 336) C ia_128 (by omega) dX9_evening_336 ?_
                  refine nS _ _ _ _ _ ec ?_
                  first
                    | (refine (hp.hd (H2 := sp_Hp a e t n w (s + 1)) (by omega) (by omega) (fun u j hu hj => ?_)).cong hY (fun _ _ _ _ => rfl)
                       unfold sp_Hp
                       by_cases z : u = s ∧ j = t
                       · rw [if_pos z, z.1, z.2, if_pos ⟨by omega, rfl, by omega, c313⟩]
                       · rw [if_neg z]
                         exact kx_ifx (by omega) _ _)
                    | (refine hp.cong hY (fun u v _ _ => ?_)
                       unfold sp_Hp
                       by_cases z : u = s
                       · subst z
                         first
                           | rw [if_neg (fun z => c313 z.2.2.2), if_neg (fun z => c313 z.2.2.2)]
                           | rw [if_neg (by omega), if_neg (by omega)]
                       · exact kx_ifx (by omega) _ _)
            · omega
          | succ c ih2 =>
            intro i g o13 hc hi hfi hp
            have t9 := sp_te_le hRB (e := e) (t := t) (i := i) (by omega) (by omega)
            have hMg : ∀ k, k < 141 → k ≠ 4 → k ≠ 5 → k ≠ 6 → k < 93 → g 128 k = nI (up a 3 (a 3 + 1) k) := fun k _ k4 k5 k6 k93 => by
              by_cases z : k = 3
              · rw [z, up_s]; exact hp.1
              · rw [up_o z]; exact hp.2.1 k k93 z k4 k5 k6
            have e81 : g 128 (81 + t) = nI (a (81 + t)) := hp.2.1 _ (by omega) (by omega) (by omega) (by omega) (by omega)
            have hYs : ∀ k, k < 4 → g 128 (93 + 4 * s + k) = nI (a (93 + 4 * s + k) + sp_cn (fun i => sp_so (sp_m a s t (a 3 + 1)) (sp_te a e t i)) k (sp_fr a e t) (i - sp_fr a e t)) := fun k hk => by rw [hp.2.2.1 s k (by omega) hk]; exact congrArg nI (if_pos rfl)
            have nxt : ∀ (X : Nat) (o : Option Value), X = sp_so (sp_m a s t (a 3 + 1)) (sp_te a e t i) → X < 4 → F 226 [some (.ref 127), some (.int (nI e)), some (.int (nI t)), some (.int (nI n)), some (.int (nI w)), some (.int on), some (.int (nI (sp_fr a e t))), some (.int (nI (sp_wh a e t w))), some (.int (nI (sp_to a e t n))), some (.int (nI ((sp_to a e t n - sp_fr a e t) * sp_wb w s + (i - sp_fr a e t) + 1))), some (.int (nI s)), some (.int (nI (sp_m a s t (a 3 + 1)))), some (.int (nI (i + 1))), o] [] (kx_up g 128 (93 + 4 * s + X) (nI (a (93 + 4 * s + X) + sp_cn (fun i => sp_so (sp_m a s t (a 3 + 1)) (sp_te a e t i)) X (sp_fr a e t) (i - sp_fr a e t) + 1))) := by
              intro X o hX hX4
              have h4 := ih2 (i + 1) (kx_up g 128 (93 + 4 * s + X) (nI (a (93 + 4 * s + X) + sp_cn (fun i => sp_so (sp_m a s t (a 3 + 1)) (sp_te a e t i)) X (sp_fr a e t) (i - sp_fr a e t) + 1))) o (by omega) (by omega) (by omega)
              rw [show i + 1 - sp_fr a e t = i - sp_fr a e t + 1 by omega, ← Nat.add_assoc] at h4
              refine h4 (hp.yd (by omega) hX4 (fun u j hu hj => ?_))
              by_cases z : u = s
              · rw [if_pos z, if_pos z, show sp_cn (fun i => sp_so (sp_m a s t (a 3 + 1)) (sp_te a e t i)) j (sp_fr a e t) (i - sp_fr a e t + 1) = sp_cn (fun i => sp_so (sp_m a s t (a 3 + 1)) (sp_te a e t i)) j (sp_fr a e t) (i - sp_fr a e t) + if sp_so (sp_m a s t (a 3 + 1)) (sp_te a e t (sp_fr a e t + (i - sp_fr a e t))) = j then 1 else 0 from rfl, show sp_fr a e t + (i - sp_fr a e t) = i by omega, ← hX]
                by_cases y : X = j
                · rw [if_pos y, if_pos ⟨z, y.symm⟩, ← y]; omega
                · rw [if_neg y, if_neg (fun q => y q.2.symm), Nat.add_zero]
              · rw [if_neg z, if_neg (fun q => z q.1), if_neg z]
            refine kx_ild12 (pc := 226) C dX9_evening_226 ?_
            refine kx_ild8 (pc := 228) C dX9_evening_228 ?_
            refine kx_icmp_geN (pc := 230) C 291 (by omega) (by omega) dX9_evening_230 (by decide) (fun c230 => ?_) (fun c230 => ?_)
            · omega
            · refine kx_ald0 (pc := 233) C dX9_evening_233 ?_
              refine kx_ild1 (pc := 234) C dX9_evening_234 ?_
              refine kx_ild2 (pc := 235) C dX9_evening_235 ?_
              refine kx_ild12 (pc := 236) C dX9_evening_236 ?_
              refine kx_callVI3 (pc := 238) C cs_X9_93 ob_127 (m_X9_tellsIt hMg hRB.up3 (by omega) (by omega) (by rw [up_o (by omega)]; omega)) (by decide) dX9_evening_238 (Nat.le_of_ble_eq_true rfl) (fun r238 h238 q238 => ?_)
              obtain ⟨z238, rfl⟩ := q238
              have z238 := z238.symm
              subst z238
              rw [sp_te_up3]
              refine kx_callSI1 (pc := 241) C cs_X9_111 (m_X9_sortOf (by omega)) (by decide) dX9_evening_241 (Nat.le_of_ble_eq_true rfl) (fun r241 h241 q241 => ?_)
              obtain ⟨z241, rfl⟩ := q241
              have z241 := z241.symm
              subst z241
              refine kx_ist13 (pc := 244) C dX9_evening_244 (by decide) rfl ?_
              refine kx_ald0 (pc := 246) C dX9_evening_246 ?_
              refine kx_getr (pc := 247) C fl_X9_7 fd_127_0 dX9_evening_247 ?_
              refine kx_bipush (pc := 250) C (v := nI 93) dX9_evening_250 (by decide) ?_
              refine kx_iconst (pc := 252) C (v := nI 4) dX9_evening_252 (by decide) ?_
              refine kx_ild10 (pc := 253) C dX9_evening_253 ?_
              first | refine kx_imulN (pc := 255) C dX9_evening_255 ?_ | refine kx_imul (pc := 255) C dX9_evening_255 ?_
              first | refine kx_iaddN (pc := 256) C dX9_evening_256 ?_ | refine kx_iadd (pc := 256) C dX9_evening_256 ?_
              refine kx_ild11 (pc := 257) C dX9_evening_257 ?_
              refine kx_if_eqN (pc := 259) C 274 (by omega) dX9_evening_259 (by decide) (fun c259 => ?_) (fun c259 => ?_)
              · refine kx_ild13 (pc := 274) C dX9_evening_274 ?_
                first | refine kx_iaddN (pc := 276) C dX9_evening_276 ?_ | refine kx_iadd (pc := 276) C dX9_evening_276 ?_
                refine kx_dup2 (pc := 277) C dX9_evening_277 rfl rfl ?_
                refine kx_iald (pc := 278) C ia_128 (by omega) (hYs _ (by omega)) dX9_evening_278 ?_
                refine kx_iconst (pc := 279) C (v := nI 1) dX9_evening_279 (by decide) ?_
                first | refine kx_iaddN (pc := 280) C dX9_evening_280 ?_ | refine kx_iadd (pc := 280) C dX9_evening_280 ?_
                refine kx_iast (pc := 281) C ia_128 (by omega) dX9_evening_281 ?_
                first | refine kx_inc9 (pc := 282) C (v := nI (_ + 1)) dX9_evening_282 (by decide) rfl (nI_1 _) ?_ | refine kx_inc9 (pc := 282) C dX9_evening_282 (by decide) rfl rfl ?_
                first | refine kx_inc12 (pc := 285) C (v := nI (_ + 1)) dX9_evening_285 (by decide) rfl (nI_1 _) ?_ | refine kx_inc12 (pc := 285) C dX9_evening_285 (by decide) rfl rfl ?_
                refine kx_goto (pc := 288) C 226 dX9_evening_288 (by decide) ?_
                first
                  | exact nxt _ _ (by unfold sp_so; rw [if_pos c259]) (by omega)
                  | exact nxt _ _ (by unfold sp_so; rw [if_neg (by omega)]; omega) (by omega)
                  | exact nxt _ _ (by unfold sp_so; rw [if_neg (by omega)]) (by omega)
              · refine kx_ild13 (pc := 262) C dX9_evening_262 ?_
                refine kx_if_leN (pc := 264) C 274 (by omega) dX9_evening_264 (by decide) (fun c264 => ?_) (fun c264 => ?_)
                · refine kx_ild13 (pc := 274) C dX9_evening_274 ?_
                  first | refine kx_iaddN (pc := 276) C dX9_evening_276 ?_ | refine kx_iadd (pc := 276) C dX9_evening_276 ?_
                  refine kx_dup2 (pc := 277) C dX9_evening_277 rfl rfl ?_
                  refine kx_iald (pc := 278) C ia_128 (by omega) (hYs _ (by omega)) dX9_evening_278 ?_
                  refine kx_iconst (pc := 279) C (v := nI 1) dX9_evening_279 (by decide) ?_
                  first | refine kx_iaddN (pc := 280) C dX9_evening_280 ?_ | refine kx_iadd (pc := 280) C dX9_evening_280 ?_
                  refine kx_iast (pc := 281) C ia_128 (by omega) dX9_evening_281 ?_
                  first | refine kx_inc9 (pc := 282) C (v := nI (_ + 1)) dX9_evening_282 (by decide) rfl (nI_1 _) ?_ | refine kx_inc9 (pc := 282) C dX9_evening_282 (by decide) rfl rfl ?_
                  first | refine kx_inc12 (pc := 285) C (v := nI (_ + 1)) dX9_evening_285 (by decide) rfl (nI_1 _) ?_ | refine kx_inc12 (pc := 285) C dX9_evening_285 (by decide) rfl rfl ?_
                  refine kx_goto (pc := 288) C 226 dX9_evening_288 (by decide) ?_
                  first
                    | exact nxt _ _ (by unfold sp_so; rw [if_pos c259]) (by omega)
                    | exact nxt _ _ (by unfold sp_so; rw [if_neg (by omega)]; omega) (by omega)
                    | exact nxt _ _ (by unfold sp_so; rw [if_neg (by omega)]) (by omega)
                · refine kx_ild13 (pc := 267) C dX9_evening_267 ?_
                  refine kx_iconst (pc := 269) C (v := nI 1) dX9_evening_269 (by decide) ?_
                  refine kx_isubN (pc := 270) C (by omega) dX9_evening_270 ?_
                  refine kx_goto (pc := 271) C 276 dX9_evening_271 (by decide) ?_
                  first | refine kx_iaddN (pc := 276) C dX9_evening_276 ?_ | refine kx_iadd (pc := 276) C dX9_evening_276 ?_
                  refine kx_dup2 (pc := 277) C dX9_evening_277 rfl rfl ?_
                  refine kx_iald (pc := 278) C ia_128 (by omega) (hYs _ (by omega)) dX9_evening_278 ?_
                  refine kx_iconst (pc := 279) C (v := nI 1) dX9_evening_279 (by decide) ?_
                  first | refine kx_iaddN (pc := 280) C dX9_evening_280 ?_ | refine kx_iadd (pc := 280) C dX9_evening_280 ?_
                  refine kx_iast (pc := 281) C ia_128 (by omega) dX9_evening_281 ?_
                  first | refine kx_inc9 (pc := 282) C (v := nI (_ + 1)) dX9_evening_282 (by decide) rfl (nI_1 _) ?_ | refine kx_inc9 (pc := 282) C dX9_evening_282 (by decide) rfl rfl ?_
                  first | refine kx_inc12 (pc := 285) C (v := nI (_ + 1)) dX9_evening_285 (by decide) rfl (nI_1 _) ?_ | refine kx_inc12 (pc := 285) C dX9_evening_285 (by decide) rfl rfl ?_
                  refine kx_goto (pc := 288) C 226 dX9_evening_288 (by decide) ?_
                  first
                    | exact nxt _ _ (by unfold sp_so; rw [if_pos c259]) (by omega)
                    | exact nxt _ _ (by unfold sp_so; rw [if_neg (by omega)]; omega) (by omega)
                    | exact nxt _ _ (by unfold sp_so; rw [if_neg (by omega)]) (by omega)
        have hd0 : g 128 (109 + 8 * s + t) = nI (a (109 + 8 * s + t)) := by
          rw [hp.2.2.2.1 s t (by omega) (by omega), sp_Hp, if_neg (by omega)]
        have e8 : g 128 8 = nI (a 8) := hp.2.1 _ (by omega) (by omega) (by omega) (by omega) (by omega)
        refine kx_ild10 (pc := 183) C dX9_evening_183 ?_
        refine kx_ald0 (pc := 185) C dX9_evening_185 ?_
        refine kx_getr (pc := 186) C fl_X9_7 fd_127_0 dX9_evening_186 ?_
        refine kx_iconst (pc := 189) C (v := nI 2) dX9_evening_189 (by decide) ?_
        refine kx_iald (pc := 190) C ia_128 (by omega) e2 dX9_evening_190 ?_
        refine kx_icmp_geN (pc := 191) C 343 (by omega) (by omega) dX9_evening_191 (by decide) (fun c191 => ?_) (fun c191 => ?_)
        · omega
        · refine kx_ild4 (pc := 194) C dX9_evening_194 ?_
          refine kx_ild10 (pc := 196) C dX9_evening_196 ?_
          refine kx_ishr (pc := 198) C dX9_evening_198 ?_
          refine kx_iconst (pc := 199) C (v := nI 1) dX9_evening_199 (by decide) ?_
          refine kx_iand (pc := 200) C dX9_evening_200 ?_
          rw [kx_bit (by omega) (by omega)]
          refine kx_if_neN (pc := 201) C 207 (by omega) dX9_evening_201 (by decide) (fun c201 => ?_) (fun c201 => ?_)
          · have hbit : w / 2 ^ s % 2 = 1 := by omega
            refine kx_ald0 (pc := 207) C dX9_evening_207 ?_
            refine kx_ild10 (pc := 208) C dX9_evening_208 ?_
            refine kx_ild2 (pc := 210) C dX9_evening_210 ?_
            refine kx_ald0 (pc := 211) C dX9_evening_211 ?_
            refine kx_getr (pc := 212) C fl_X9_7 fd_127_0 dX9_evening_212 ?_
            refine kx_iconst (pc := 215) C (v := nI 3) dX9_evening_215 (by decide) ?_
            refine kx_iald (pc := 216) C ia_128 (by omega) e3 dX9_evening_216 ?_
            refine kx_callVI3 (pc := 217) C cs_X9_105 ob_127 (m_X9_hasMind e8 hd0 (by omega) (by omega) b8' (by omega) (by omega)) (by decide) dX9_evening_217 (Nat.le_of_ble_eq_true rfl) (fun r217 h217 q217 => ?_)
            obtain ⟨z217, rfl⟩ := q217
            have z217 := z217.symm
            subst z217
            rw [sp_m_eq]
            refine kx_ist11 (pc := 220) C dX9_evening_220 (by decide) rfl ?_
            refine kx_ild6 (pc := 222) C dX9_evening_222 ?_
            refine kx_ist12 (pc := 224) C dX9_evening_224 (by decide) rfl ?_
            have h4 := inner hbit _ (sp_fr a e t) g o13 rfl hto2 (Nat.le_refl _) (hp.cong (fun u k hu hk => by
              by_cases z : u = s
              · rw [if_pos z, z, Nat.sub_self]
                unfold sp_Yp
                rw [if_neg (by omega)]; rfl
              · rw [if_neg z]) (fun _ _ _ _ => rfl))
            rw [Nat.sub_self, Nat.add_zero] at h4
            exact h4
          · refine kx_goto (pc := 204) C 337 dX9_evening_204 (by decide) ?_
            refine nS g _ _ _ _ (by rw [show sp_wb w (s + 1) = sp_wb w s from sp_ct_nope (decide_eq_false (by omega))]) (hp.cong (fun u k hu hk => ?_) (fun u v hu hv => ?_))
            · unfold sp_Yp
              congr 1
              by_cases z : u = s
              · subst z; rw [if_neg (by omega), if_neg (by omega)]
              · exact kx_ifx (by omega) _ _
            · unfold sp_Hp
              by_cases z : u = s
              · subst z
                rw [if_neg (fun z => by have := whb u (by omega) z.2.2.2; omega), if_neg (by omega)]
              · exact kx_ifx (by omega) _ _
    have mid : ∀ on : Int32, F 177 [some (.ref 127), some (.int (nI e)), some (.int (nI t)), some (.int (nI n)), some (.int (nI w)), some (.int on), some (.int (nI (sp_fr a e t))), some (.int (nI (sp_wh a e t w))), some (.int (nI (sp_to a e t n))), none, none, none, none, none] [] (kx_up h 128 3 (nI (a 3 + 1))) := by
      intro on
      refine kx_iconst (pc := 177) C (v := nI 0) dX9_evening_177 (by decide) ?_
      refine kx_ist9 (pc := 178) C dX9_evening_178 (by decide) rfl ?_
      refine kx_iconst (pc := 180) C (v := nI 0) dX9_evening_180 (by decide) ?_
      refine kx_ist10 (pc := 181) C dX9_evening_181 (by decide) rfl ?_
      have h4 := loop _ 0 (kx_up h 128 3 (nI (a 3 + 1))) on none none none rfl (by omega) ⟨by rw [kx_up, if_pos ⟨rfl, rfl⟩], fun k k93 k3 k4 k5 k6 => by rw [kx_up, if_neg (by omega)]; exact hM k (by omega) k4 k5 k6, fun u k hu hk => by
          unfold sp_Yp
          rw [kx_up, if_neg (by omega), if_neg (by omega)]; exact hM _ (by omega) (by omega) (by omega) (by omega), fun u v hu hv => by
          unfold sp_Hp
          rw [kx_up, if_neg (by omega), if_neg (by omega)]; exact hM _ (by omega) (by omega) (by omega) (by omega), fun k hk => by rw [kx_up, if_neg (by omega)], fun d j hd => by rw [kx_up, if_neg (by omega)]⟩
      rw [show sp_wb w 0 = 0 from rfl, Nat.mul_zero] at h4
      exact h4
    have ev1 : ∀ k, k ≠ 3 → kx_up h 128 3 (nI (a 3 + 1)) 128 k = h 128 k := fun k hk => by rw [kx_up, if_neg (by omega)]
    have v81 : kx_up h 128 3 (nI (a 3 + 1)) 128 (81 + t) = nI (a (81 + t)) := by rw [ev1 _ (by omega)]; exact hM _ (by omega) (by omega) (by omega) (by omega)
    have onY : (a 4 = t + 1 ∧ a 5 = e) → F 103 [some (.ref 127), some (.int (nI e)), some (.int (nI t)), some (.int (nI n)), some (.int (nI w)), some (.int (nI 1)), none, none, none, none, none, none, none, none] [] (kx_up h 128 3 (nI (a 3 + 1))) := by
      intro hon
      have q6 : h 128 6 = nI (a 6) := by
        rcases hMB with ⟨z, -⟩ | ⟨-, -, -, q⟩
        · omega
        · exact q
      have v6 : kx_up h 128 3 (nI (a 3 + 1)) 128 6 = nI (a 6) := by rw [ev1 _ (by omega)]; exact q6
      have v7 : kx_up h 128 3 (nI (a 3 + 1)) 128 7 = nI (a 7) := by rw [ev1 _ (by omega)]; exact hM 7 (by omega) (by omega) (by omega) (by omega)
      have e1 : sp_fr a e t = a 6 := if_pos hon
      have e2 : sp_wh a e t w = a 7 &&& w := if_pos hon
      have h3 := mid (nI 1)
      rw [e2] at h3
      refine kx_ild5 (pc := 103) C dX9_evening_103 ?_
      refine kx_if_eq (pc := 105) C 118 dX9_evening_105 (by decide) (fun c105 => ?_) (fun c105 => ?_)
      · exact absurd c105 (by decide)
      · refine kx_ald0 (pc := 108) C dX9_evening_108 ?_
        refine kx_getr (pc := 109) C fl_X9_7 fd_127_0 dX9_evening_109 ?_
        refine kx_bipush (pc := 112) C (v := nI 6) dX9_evening_112 (by decide) ?_
        refine kx_iald (pc := 114) C ia_128 (by omega) v6 dX9_evening_114 ?_
        refine kx_goto (pc := 115) C 119 dX9_evening_115 (by decide) ?_
        refine kx_ist6 (pc := 119) C dX9_evening_119 (by decide) rfl ?_
        refine kx_ild5 (pc := 121) C dX9_evening_121 ?_
        refine kx_if_eq (pc := 123) C 139 dX9_evening_123 (by decide) (fun c123 => ?_) (fun c123 => ?_)
        · exact absurd c123 (by decide)
        · refine kx_ald0 (pc := 126) C dX9_evening_126 ?_
          refine kx_getr (pc := 127) C fl_X9_7 fd_127_0 dX9_evening_127 ?_
          refine kx_bipush (pc := 130) C (v := nI 7) dX9_evening_130 (by decide) ?_
          refine kx_iald (pc := 132) C ia_128 (by omega) v7 dX9_evening_132 ?_
          refine kx_ild4 (pc := 133) C dX9_evening_133 ?_
          refine kx_iand (pc := 135) C dX9_evening_135 ?_
          rw [kx_and]
          refine kx_goto (pc := 136) C 141 dX9_evening_136 (by decide) ?_
          refine kx_ist7 (pc := 141) C dX9_evening_141 (by decide) rfl ?_
          refine kx_ild6 (pc := 143) C dX9_evening_143 ?_
          refine kx_ild3 (pc := 145) C dX9_evening_145 ?_
          first | refine kx_iaddN (pc := 146) C dX9_evening_146 ?_ | refine kx_iadd (pc := 146) C dX9_evening_146 ?_
          refine kx_ald0 (pc := 147) C dX9_evening_147 ?_
          refine kx_getr (pc := 148) C fl_X9_7 fd_127_0 dX9_evening_148 ?_
          refine kx_bipush (pc := 151) C (v := nI 81) dX9_evening_151 (by decide) ?_
          refine kx_ild2 (pc := 153) C dX9_evening_153 ?_
          first | refine kx_iaddN (pc := 154) C dX9_evening_154 ?_ | refine kx_iadd (pc := 154) C dX9_evening_154 ?_
          refine kx_iald (pc := 155) C ia_128 (by omega) v81 dX9_evening_155 ?_
          refine kx_icmp_geN (pc := 156) C 166 (by omega) (by omega) dX9_evening_156 (by decide) (fun c156 => ?_) (fun c156 => ?_)
          · refine kx_ald0 (pc := 166) C dX9_evening_166 ?_
            refine kx_getr (pc := 167) C fl_X9_7 fd_127_0 dX9_evening_167 ?_
            refine kx_bipush (pc := 170) C (v := nI 81) dX9_evening_170 (by decide) ?_
            refine kx_ild2 (pc := 172) C dX9_evening_172 ?_
            first | refine kx_iaddN (pc := 173) C dX9_evening_173 ?_ | refine kx_iadd (pc := 173) C dX9_evening_173 ?_
            refine kx_iald (pc := 174) C ia_128 (by omega) v81 dX9_evening_174 ?_
            refine kx_ist8 (pc := 175) C dX9_evening_175 (by decide) rfl ?_
            first
              | (rw [show sp_to a e t n = a 6 + n by unfold sp_to; rw [e1]; omega, e1] at h3
                 exact h3)
              | (rw [show sp_to a e t n = a (81 + t) by unfold sp_to; rw [e1]; omega, e1] at h3
                 exact h3)
          · refine kx_ild6 (pc := 159) C dX9_evening_159 ?_
            refine kx_ild3 (pc := 161) C dX9_evening_161 ?_
            first | refine kx_iaddN (pc := 162) C dX9_evening_162 ?_ | refine kx_iadd (pc := 162) C dX9_evening_162 ?_
            refine kx_goto (pc := 163) C 175 dX9_evening_163 (by decide) ?_
            refine kx_ist8 (pc := 175) C dX9_evening_175 (by decide) rfl ?_
            first
              | (rw [show sp_to a e t n = a 6 + n by unfold sp_to; rw [e1]; omega, e1] at h3
                 exact h3)
              | (rw [show sp_to a e t n = a (81 + t) by unfold sp_to; rw [e1]; omega, e1] at h3
                 exact h3)
    have onN : ¬ (a 4 = t + 1 ∧ a 5 = e) → F 103 [some (.ref 127), some (.int (nI e)), some (.int (nI t)), some (.int (nI n)), some (.int (nI w)), some (.int (nI 0)), none, none, none, none, none, none, none, none] [] (kx_up h 128 3 (nI (a 3 + 1))) := by
      intro hon
      have e1 : sp_fr a e t = 0 := if_neg hon
      have e2 : sp_wh a e t w = w := if_neg hon
      have h3 := mid (nI 0)
      rw [e2] at h3
      refine kx_ild5 (pc := 103) C dX9_evening_103 ?_
      refine kx_if_eq (pc := 105) C 118 dX9_evening_105 (by decide) (fun c105 => ?_) (fun c105 => ?_)
      · refine kx_iconst (pc := 118) C (v := nI 0) dX9_evening_118 (by decide) ?_
        refine kx_ist6 (pc := 119) C dX9_evening_119 (by decide) rfl ?_
        refine kx_ild5 (pc := 121) C dX9_evening_121 ?_
        refine kx_if_eq (pc := 123) C 139 dX9_evening_123 (by decide) (fun c123 => ?_) (fun c123 => ?_)
        · refine kx_ild4 (pc := 139) C dX9_evening_139 ?_
          refine kx_ist7 (pc := 141) C dX9_evening_141 (by decide) rfl ?_
          refine kx_ild6 (pc := 143) C dX9_evening_143 ?_
          refine kx_ild3 (pc := 145) C dX9_evening_145 ?_
          first | refine kx_iaddN (pc := 146) C dX9_evening_146 ?_ | refine kx_iadd (pc := 146) C dX9_evening_146 ?_
          refine kx_ald0 (pc := 147) C dX9_evening_147 ?_
          refine kx_getr (pc := 148) C fl_X9_7 fd_127_0 dX9_evening_148 ?_
          refine kx_bipush (pc := 151) C (v := nI 81) dX9_evening_151 (by decide) ?_
          refine kx_ild2 (pc := 153) C dX9_evening_153 ?_
          first | refine kx_iaddN (pc := 154) C dX9_evening_154 ?_ | refine kx_iadd (pc := 154) C dX9_evening_154 ?_
          refine kx_iald (pc := 155) C ia_128 (by omega) v81 dX9_evening_155 ?_
          refine kx_icmp_geN (pc := 156) C 166 (by omega) (by omega) dX9_evening_156 (by decide) (fun c156 => ?_) (fun c156 => ?_)
          · refine kx_ald0 (pc := 166) C dX9_evening_166 ?_
            refine kx_getr (pc := 167) C fl_X9_7 fd_127_0 dX9_evening_167 ?_
            refine kx_bipush (pc := 170) C (v := nI 81) dX9_evening_170 (by decide) ?_
            refine kx_ild2 (pc := 172) C dX9_evening_172 ?_
            first | refine kx_iaddN (pc := 173) C dX9_evening_173 ?_ | refine kx_iadd (pc := 173) C dX9_evening_173 ?_
            refine kx_iald (pc := 174) C ia_128 (by omega) v81 dX9_evening_174 ?_
            refine kx_ist8 (pc := 175) C dX9_evening_175 (by decide) rfl ?_
            first
              | (rw [show sp_to a e t n = 0 + n by unfold sp_to; rw [e1]; omega, e1] at h3
                 exact h3)
              | (rw [show sp_to a e t n = a (81 + t) by unfold sp_to; rw [e1]; omega, e1] at h3
                 exact h3)
          · refine kx_ild6 (pc := 159) C dX9_evening_159 ?_
            refine kx_ild3 (pc := 161) C dX9_evening_161 ?_
            first | refine kx_iaddN (pc := 162) C dX9_evening_162 ?_ | refine kx_iadd (pc := 162) C dX9_evening_162 ?_
            refine kx_goto (pc := 163) C 175 dX9_evening_163 (by decide) ?_
            refine kx_ist8 (pc := 175) C dX9_evening_175 (by decide) rfl ?_
            first
              | (rw [show sp_to a e t n = 0 + n by unfold sp_to; rw [e1]; omega, e1] at h3
                 exact h3)
              | (rw [show sp_to a e t n = a (81 + t) by unfold sp_to; rw [e1]; omega, e1] at h3
                 exact h3)
        · exact absurd rfl c123
      · exact absurd rfl c105
    have hq4 := hH.eq hB (j := t) (by omega)
    refine kx_ald0 (pc := 76) C dX9_evening_76 ?_
    refine kx_getr (pc := 77) C fl_X9_7 fd_127_0 dX9_evening_77 ?_
    refine kx_iconst (pc := 80) C (v := nI 4) dX9_evening_80 (by decide) ?_
    refine kx_iald (pc := 81) C ia_128 (by omega) (ev1 4 (by omega)) dX9_evening_81 ?_
    refine kx_ild2 (pc := 82) C dX9_evening_82 ?_
    refine kx_icmp_ne (pc := 83) C 100 dX9_evening_83 (by decide) (fun c83 => ?_) (fun c83 => ?_)
    · refine kx_iconst (pc := 100) C (v := nI 0) dX9_evening_100 (by decide) ?_
      refine kx_ist5 (pc := 101) C dX9_evening_101 (by decide) rfl ?_
      first
        | (have f4 := hq4.mp c83
           have q5 : h 128 5 = nI (a 5) := by
             rcases hMB with ⟨z, -⟩ | ⟨-, -, q, -⟩
             · omega
             · exact q
           have := bb (by omega)
           rw [q5, nI_eq (by omega) (by omega)] at c93
           exact onY ⟨f4, c93⟩)
        | (have f4 := hq4.mp c83
           have q5 : h 128 5 = nI (a 5) := by
             rcases hMB with ⟨z, -⟩ | ⟨-, -, q, -⟩
             · omega
             · exact q
           have := bb (by omega)
           rw [q5, nI_eq (by omega) (by omega)] at c93
           exact onN (fun z => c93 z.2))
        | exact onN (fun z => c83 (hq4.mpr z.1))
    · refine kx_ald0 (pc := 86) C dX9_evening_86 ?_
      refine kx_getr (pc := 87) C fl_X9_7 fd_127_0 dX9_evening_87 ?_
      refine kx_iconst (pc := 90) C (v := nI 5) dX9_evening_90 (by decide) ?_
      refine kx_iald (pc := 91) C ia_128 (by omega) (ev1 5 (by omega)) dX9_evening_91 ?_
      refine kx_ild1 (pc := 92) C dX9_evening_92 ?_
      refine kx_icmp_ne (pc := 93) C 100 dX9_evening_93 (by decide) (fun c93 => ?_) (fun c93 => ?_)
      · refine kx_iconst (pc := 100) C (v := nI 0) dX9_evening_100 (by decide) ?_
        refine kx_ist5 (pc := 101) C dX9_evening_101 (by decide) rfl ?_
        first
          | (have f4 := hq4.mp c83
             have q5 : h 128 5 = nI (a 5) := by
               rcases hMB with ⟨z, -⟩ | ⟨-, -, q, -⟩
               · omega
               · exact q
             have := bb (by omega)
             rw [q5, nI_eq (by omega) (by omega)] at c93
             exact onY ⟨f4, c93⟩)
          | (have f4 := hq4.mp c83
             have q5 : h 128 5 = nI (a 5) := by
               rcases hMB with ⟨z, -⟩ | ⟨-, -, q, -⟩
               · omega
               · exact q
             have := bb (by omega)
             rw [q5, nI_eq (by omega) (by omega)] at c93
             exact onN (fun z => c93 z.2))
          | exact onN (fun z => c83 (hq4.mpr z.1))
      · refine kx_iconst (pc := 96) C (v := nI 1) dX9_evening_96 (by decide) ?_
        refine kx_goto (pc := 97) C 101 dX9_evening_97 (by decide) ?_
        refine kx_ist5 (pc := 101) C dX9_evening_101 (by decide) rfl ?_
        first
          | (have f4 := hq4.mp c83
             have q5 : h 128 5 = nI (a 5) := by
               rcases hMB with ⟨z, -⟩ | ⟨-, -, q, -⟩
               · omega
               · exact q
             have := bb (by omega)
             rw [q5, nI_eq (by omega) (by omega)] at c93
             exact onY ⟨f4, c93⟩)
          | (have f4 := hq4.mp c83
             have q5 : h 128 5 = nI (a 5) := by
               rcases hMB with ⟨z, -⟩ | ⟨-, -, q, -⟩
               · omega
               · exact q
             have := bb (by omega)
             rw [q5, nI_eq (by omega) (by omega)] at c93
             exact onN (fun z => c93 z.2))
          | exact onN (fun z => c83 (hq4.mpr z.1))
  refine kx_ald0 (pc := 0) C dX9_evening_0 ?_
  refine kx_ild1 (pc := 1) C dX9_evening_1 ?_
  refine kx_callVI1 (pc := 2) C cs_X9_90 ob_127 (m_X9_isTeller _ (by assumption) (by omega)) (by decide) dX9_evening_2 (Nat.le_of_ble_eq_true rfl) (fun r2 h2 q2 => ?_)
  obtain ⟨z2, rfl⟩ := q2
  have z2 := z2.symm
  subst z2
  refine kx_if_eq (pc := 5) C 49 dX9_evening_5 (by decide) (fun c5 => ?_) (fun c5 => ?_)
  · refine kx_iconst (pc := 49) C (v := -1) dX9_evening_49 (by decide) ?_
    have nc : ¬ ((0 ≤ te.toInt ∧ te.toInt < (a 1 : Int)) ∧ (0 ≤ tt.toInt ∧ tt.toInt < (a 0 : Int)) ∧ (1 ≤ tn.toInt ∧ tn.toInt ≤ 9) ∧ 0 ≤ tw.toInt ∧ tw.toInt < ((2 ^ a 2 : Nat) : Int)) := fun z => by
      first
        | exact kx_if0 c46 ⟨z.2.2.2.1, by have := z.2.2.2.2; omega⟩
        | exact kx_if0 c25 z.2.2.1
        | exact kx_if0 c13 z.2.1
        | exact kx_if0 c5 z.1
    exact hR dX9_evening_50 rfl ⟨by rw [sp_evening, if_neg nc], by rw [sp_eveningA, if_neg (fun z => nc z.1)]; exact hH, fun d j _ => rfl⟩
  · refine kx_ald0 (pc := 8) C dX9_evening_8 ?_
    refine kx_ild2 (pc := 9) C dX9_evening_9 ?_
    refine kx_callVI1 (pc := 10) C cs_X9_72 ob_127 (m_X9_isTale _ (by assumption) (by omega)) (by decide) dX9_evening_10 (Nat.le_of_ble_eq_true rfl) (fun r10 h10 q10 => ?_)
    obtain ⟨z10, rfl⟩ := q10
    have z10 := z10.symm
    subst z10
    refine kx_if_eq (pc := 13) C 49 dX9_evening_13 (by decide) (fun c13 => ?_) (fun c13 => ?_)
    · refine kx_iconst (pc := 49) C (v := -1) dX9_evening_49 (by decide) ?_
      have nc : ¬ ((0 ≤ te.toInt ∧ te.toInt < (a 1 : Int)) ∧ (0 ≤ tt.toInt ∧ tt.toInt < (a 0 : Int)) ∧ (1 ≤ tn.toInt ∧ tn.toInt ≤ 9) ∧ 0 ≤ tw.toInt ∧ tw.toInt < ((2 ^ a 2 : Nat) : Int)) := fun z => by
        first
          | exact kx_if0 c46 ⟨z.2.2.2.1, by have := z.2.2.2.2; omega⟩
          | exact kx_if0 c25 z.2.2.1
          | exact kx_if0 c13 z.2.1
          | exact kx_if0 c5 z.1
      exact hR dX9_evening_50 rfl ⟨by rw [sp_evening, if_neg nc], by rw [sp_eveningA, if_neg (fun z => nc z.1)]; exact hH, fun d j _ => rfl⟩
    · refine kx_ild3 (pc := 16) C dX9_evening_16 ?_
      refine kx_i2l (pc := 17) C dX9_evening_17 ?_
      refine kx_lconst (pc := 18) C (v := 1) dX9_evening_18 (by decide) ?_
      refine kx_ldc2 (pc := 19) C dX9_evening_19 cn_X9_80 ?_
      refine kx_callSI3 (pc := 22) C cs_X9_52 (m_X9_in (p := 1) (q := _) (r := 9) (by rfl) (kx_L _) (by rfl)) (by decide) dX9_evening_22 (Nat.le_of_ble_eq_true rfl) (fun r22 h22 q22 => ?_)
      obtain ⟨z22, rfl⟩ := q22
      have z22 := z22.symm
      subst z22
      refine kx_if_eq (pc := 25) C 49 dX9_evening_25 (by decide) (fun c25 => ?_) (fun c25 => ?_)
      · refine kx_iconst (pc := 49) C (v := -1) dX9_evening_49 (by decide) ?_
        have nc : ¬ ((0 ≤ te.toInt ∧ te.toInt < (a 1 : Int)) ∧ (0 ≤ tt.toInt ∧ tt.toInt < (a 0 : Int)) ∧ (1 ≤ tn.toInt ∧ tn.toInt ≤ 9) ∧ 0 ≤ tw.toInt ∧ tw.toInt < ((2 ^ a 2 : Nat) : Int)) := fun z => by
          first
            | exact kx_if0 c46 ⟨z.2.2.2.1, by have := z.2.2.2.2; omega⟩
            | exact kx_if0 c25 z.2.2.1
            | exact kx_if0 c13 z.2.1
            | exact kx_if0 c5 z.1
        exact hR dX9_evening_50 rfl ⟨by rw [sp_evening, if_neg nc], by rw [sp_eveningA, if_neg (fun z => nc z.1)]; exact hH, fun d j _ => rfl⟩
      · refine kx_ild4 (pc := 28) C dX9_evening_28 ?_
        refine kx_i2l (pc := 30) C dX9_evening_30 ?_
        refine kx_lconst (pc := 31) C (v := 0) dX9_evening_31 (by decide) ?_
        refine kx_iconst (pc := 32) C (v := nI 1) dX9_evening_32 (by decide) ?_
        refine kx_ald0 (pc := 33) C dX9_evening_33 ?_
        refine kx_getr (pc := 34) C fl_X9_7 fd_127_0 dX9_evening_34 ?_
        refine kx_iconst (pc := 37) C (v := nI 2) dX9_evening_37 (by decide) ?_
        refine kx_iald (pc := 38) C ia_128 (by omega) (by first | assumption | exact hM _ (by omega) (by omega) (by omega) (by omega) | rfl) dX9_evening_38 ?_
        refine kx_ishl (pc := 39) C dX9_evening_39 ?_
        rw [kx_sl1 (by omega)]
        refine kx_iconst (pc := 40) C (v := nI 1) dX9_evening_40 (by decide) ?_
        refine kx_isub (pc := 41) C dX9_evening_41 ?_
        refine kx_i2l (pc := 42) C dX9_evening_42 ?_
        refine kx_callSI3 (pc := 43) C cs_X9_52 (m_X9_in (p := 0) (q := _) (r := ((2 ^ a 2 : Nat) : Int) - 1) (by rfl) (kx_L _) (by rw [kx_L, kx_Ts (by omega) (by omega)]; rfl)) (by decide) dX9_evening_43 (Nat.le_of_ble_eq_true rfl) (fun r43 h43 q43 => ?_)
        obtain ⟨z43, rfl⟩ := q43
        have z43 := z43.symm
        subst z43
        refine kx_if_ne (pc := 46) C 51 dX9_evening_46 (by decide) (fun c46 => ?_) (fun c46 => ?_)
        · have c5 := kx_if1 c5
          have c13 := kx_if1 c13
          have c25 := kx_if1 c25
          have c46 := kx_if1 c46
          obtain ⟨e, rfl, he, he2⟩ := kx_nat c5.1
          obtain ⟨t, rfl, ht, ht2⟩ := kx_nat c13.1
          obtain ⟨n, rfl, hn, hn2⟩ := kx_nat (x := tn) (by omega)
          obtain ⟨w, rfl, hw, hw2⟩ := kx_nat c46.1
          refine kx_ald0 (pc := 51) C dX9_evening_51 ?_
          refine kx_getr (pc := 52) C fl_X9_7 fd_127_0 dX9_evening_52 ?_
          refine kx_iconst (pc := 55) C (v := nI 3) dX9_evening_55 (by decide) ?_
          refine kx_iald (pc := 56) C ia_128 (by omega) (by first | assumption | exact hM _ (by omega) (by omega) (by omega) (by omega) | rfl) dX9_evening_56 ?_
          refine kx_sipush (pc := 57) C (v := nI 9999) dX9_evening_57 (by decide) ?_
          refine kx_icmp_neN (pc := 60) C 66 (by omega) (by omega) dX9_evening_60 (by decide) (fun c60 => ?_) (fun c60 => ?_)
          · refine kx_ald0 (pc := 66) C dX9_evening_66 ?_
            refine kx_getr (pc := 67) C fl_X9_7 fd_127_0 dX9_evening_67 ?_
            refine kx_iconst (pc := 70) C (v := nI 3) dX9_evening_70 (by decide) ?_
            refine kx_dup2 (pc := 71) C dX9_evening_71 rfl rfl ?_
            refine kx_iald (pc := 72) C ia_128 (by omega) (by first | assumption | exact hM _ (by omega) (by omega) (by omega) (by omega) | rfl) dX9_evening_72 ?_
            refine kx_iconst (pc := 73) C (v := nI 1) dX9_evening_73 (by decide) ?_
            first | refine kx_iaddN (pc := 74) C dX9_evening_74 ?_ | refine kx_iadd (pc := 74) C dX9_evening_74 ?_
            refine kx_iast (pc := 75) C ia_128 (by omega) dX9_evening_75 ?_
            have cc : (0 ≤ (nI e).toInt ∧ (nI e).toInt < (a 1 : Int)) ∧ (0 ≤ (nI t).toInt ∧ (nI t).toInt < (a 0 : Int)) ∧ (1 ≤ (nI n).toInt ∧ (nI n).toInt ≤ 9) ∧ 0 ≤ (nI w).toInt ∧ (nI w).toInt < ((2 ^ a 2 : Nat) : Int) := ⟨c5, c13, c25, c46.1, by omega⟩
            refine main e t n w (by omega) (by omega) (by omega) (by omega) (by omega) (by omega) (fun r er => ?_) ?_
            · rw [sp_evening, if_pos cc, if_pos (by omega), kx_n, kx_n, kx_n, kx_n, kx_n_nI he2, kx_n_nI ht2, kx_n_nI hn2, kx_n_nI hw2]
              exact er
            · rw [sp_eveningA, if_pos ⟨cc, by omega⟩, kx_n, kx_n, kx_n, kx_n, kx_n_nI he2, kx_n_nI ht2, kx_n_nI hn2, kx_n_nI hw2]
          · refine kx_bipush (pc := 63) C (v := -3) dX9_evening_63 (by decide) ?_
            exact hR dX9_evening_65 rfl ⟨by rw [sp_evening, if_pos ⟨c5, c13, c25, c46.1, by omega⟩, if_neg (by omega)], by rw [sp_eveningA, if_neg (fun z => by have := z.2; omega)]; exact hH, fun d j _ => rfl⟩
        · refine kx_iconst (pc := 49) C (v := -1) dX9_evening_49 (by decide) ?_
          have nc : ¬ ((0 ≤ te.toInt ∧ te.toInt < (a 1 : Int)) ∧ (0 ≤ tt.toInt ∧ tt.toInt < (a 0 : Int)) ∧ (1 ≤ tn.toInt ∧ tn.toInt ≤ 9) ∧ 0 ≤ tw.toInt ∧ tw.toInt < ((2 ^ a 2 : Nat) : Int)) := fun z => by
            first
              | exact kx_if0 c46 ⟨z.2.2.2.1, by have := z.2.2.2.2; omega⟩
              | exact kx_if0 c25 z.2.2.1
              | exact kx_if0 c13 z.2.1
              | exact kx_if0 c5 z.1
          exact hR dX9_evening_50 rfl ⟨by rw [sp_evening, if_neg nc], by rw [sp_eveningA, if_neg (fun z => nc z.1)]; exact hH, fun d j _ => rfl⟩
