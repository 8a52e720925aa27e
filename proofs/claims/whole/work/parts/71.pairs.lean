/-! THE INVARIANT: both sides hold the same numbers -/
def iv_KC (h : kx_H) : Option (Nat → Nat) → Prop
  | none => h 0 2 = 0
  | some b => ¬ h 0 2 = 0 ∧ st_CK h b
def iv_KM (h : kx_H) : Option (Nat → Nat) → Prop
  | none => h 127 2 = 0
  | some b => ¬ h 127 2 = 0 ∧ st_MH 129 h b
def iv_KB : Option (Nat → Nat) → Prop
  | none => True
  | some b => st_B b
def iv_C (h : kx_H) (a : Nat → Nat) (k : Option (Nat → Nat)) (n : Nat) (tp sl sn : Nat → Nat) (it : kx_H) : Prop := st_CH h a ∧ iv_KC h k ∧ st_TP h n tp ∧ st_SH h sl sn it
def iv_M (h : kx_H) (a : Nat → Nat) (k : Option (Nat → Nat)) (n : Nat) (tp sl sn : Nat → Nat) (it : kx_H) : Prop := st_MH 128 h a ∧ iv_KM h k ∧ st_MT h n tp ∧ st_MS h sl sn it
def iv_I (h : kx_H) : Prop := ∃ (a : Nat → Nat) (k : Option (Nat → Nat)) (n : Nat) (tp sl sn : Nat → Nat) (it : kx_H), st_B a ∧ iv_KB k ∧ iv_C h a k n tp sl sn it ∧ iv_M h a k n tp sl sn it
theorem fr_CH {h g : kx_H} {a : Nat → Nat} (hC : st_CH h a) (e : ∀ d j, 1 ≤ d → d < 23 → g d j = h d j) : st_CH g a := by
  obtain ⟨⟨h1, h2, h3, h4, h5⟩, ⟨h6, h7, h8⟩, h9, h10, h11⟩ := hC
  refine ⟨⟨?_, ?_, ?_, ?_, ?_⟩, ⟨fun t ht => ?_, fun t i ht hi => ?_, fun u hu => ?_⟩, fun s k hs hk => ?_, fun s t hs ht => ?_, ?_⟩
  · rw [e 1 0 (by omega) (by omega)]; exact h1
  · rw [e 1 1 (by omega) (by omega)]; exact h2
  · rw [e 1 2 (by omega) (by omega)]; exact h3
  · rw [e 1 3 (by omega) (by omega)]; exact h4
  · rw [e 1 4 (by omega) (by omega)]; exact h5
  · rw [e 2 t (by omega) (by omega)]; exact h6 t ht
  · rw [e (4 + t) i (by omega) (by omega)]; exact h7 t i ht hi
  · rw [e 12 u (by omega) (by omega)]; exact h8 u hu
  · rw [e (14 + s) k (by omega) (by omega)]; exact h9 s k hs hk
  · rw [e (19 + s) t (by omega) (by omega)]; exact h10 s t hs ht
  · unfold st_BR
    rw [e 1 10 (by omega) (by omega), e 1 11 (by omega) (by omega), e 1 12 (by omega) (by omega), e 1 13 (by omega) (by omega)]
    exact h11
theorem fr_CK {h g : kx_H} {a : Nat → Nat} (hC : st_CK h a) (e : ∀ d j, 23 ≤ d → d < 45 → g d j = h d j) : st_CK g a := by
  obtain ⟨⟨h1, h2, h3, h4, h5⟩, ⟨h6, h7, h8⟩, h9, h10, h11⟩ := hC
  refine ⟨⟨?_, ?_, ?_, ?_, ?_⟩, ⟨fun t ht => ?_, fun t i ht hi => ?_, fun u hu => ?_⟩, fun s k hs hk => ?_, fun s t hs ht => ?_, ?_⟩
  · rw [e 23 0 (by omega) (by omega)]; exact h1
  · rw [e 23 1 (by omega) (by omega)]; exact h2
  · rw [e 23 2 (by omega) (by omega)]; exact h3
  · rw [e 23 3 (by omega) (by omega)]; exact h4
  · rw [e 23 4 (by omega) (by omega)]; exact h5
  · rw [e 24 t (by omega) (by omega)]; exact h6 t ht
  · rw [e (26 + t) i (by omega) (by omega)]; exact h7 t i ht hi
  · rw [e 34 u (by omega) (by omega)]; exact h8 u hu
  · rw [e (36 + s) k (by omega) (by omega)]; exact h9 s k hs hk
  · rw [e (41 + s) t (by omega) (by omega)]; exact h10 s t hs ht
  · unfold st_BR
    rw [e 23 10 (by omega) (by omega), e 23 11 (by omega) (by omega), e 23 12 (by omega) (by omega), e 23 13 (by omega) (by omega)]
    exact h11
theorem fr_MH {h g : kx_H} {a : Nat → Nat} {c : Nat} (hC : st_MH c h a) (e : ∀ j, g c j = h c j) : st_MH c g a := by
  obtain ⟨h1, h2⟩ := hC
  refine ⟨fun k hk k4 k5 k6 => ?_, ?_⟩
  · rw [e]; exact h1 k hk k4 k5 k6
  · rw [e, e, e]; exact h2
theorem fr_TP {h g : kx_H} {n : Nat} {tp : Nat → Nat} (hC : st_TP h n tp) (e : ∀ d j, d = 45 ∨ d = 46 → g d j = h d j) : st_TP g n tp := by
  obtain ⟨h1, h2, h3, h4⟩ := hC
  refine ⟨?_, h2, fun k hk => ?_, h4⟩
  · rw [e 45 1 (by omega)]; exact h1
  · rw [e 46 k (by omega)]; exact h3 k hk
theorem fr_MT {h g : kx_H} {n : Nat} {tp : Nat → Nat} (hC : st_MT h n tp) (e1 : g 127 4 = h 127 4) (e : ∀ j, g 130 j = h 130 j) : st_MT g n tp := by
  obtain ⟨h1, h2, h3, h4⟩ := hC
  refine ⟨?_, h2, fun k hk => ?_, h4⟩
  · rw [e1]; exact h1
  · rw [e]; exact h3 k hk
theorem fr_SH {h g : kx_H} {sl sn : Nat → Nat} {it : kx_H} (hC : st_SH h sl sn it) (e : ∀ d j, 48 ≤ d → d < 56 → g d j = h d j) : st_SH g sl sn it := by
  intro j hj
  obtain ⟨h1, h2, h3⟩ := hC j hj
  rw [e (48 + 2 * j) 0 (by omega) (by omega), e (48 + 2 * j) 1 (by omega) (by omega)]
  exact ⟨h1, h2, fun k hk => by rw [e (49 + 2 * j) k (by omega) (by omega)]; exact h3 k hk⟩
theorem fr_MS {h g : kx_H} {sl sn : Nat → Nat} {it : kx_H} (hC : st_MS h sl sn it) (e : ∀ d j, 131 ≤ d → d < 134 → g d j = h d j) : st_MS g sl sn it := by
  intro j hj
  obtain ⟨h1, h2, h3⟩ := hC j hj
  rw [e 131 j (by omega) (by omega), e 132 j (by omega) (by omega)]
  exact ⟨h1, h2, fun k hk => by rw [e 133 _ (by omega) (by omega)]; exact h3 k hk⟩
theorem fr_KC {h g : kx_H} : ∀ {k : Option (Nat → Nat)}, iv_KC h k → g 0 2 = h 0 2 → (∀ d j, 23 ≤ d → d < 45 → g d j = h d j) → iv_KC g k
  | none, hk, e1, _ => e1.trans hk
  | some _, hk, e1, e => ⟨by rw [e1]; exact hk.1, fr_CK hk.2 e⟩
theorem fr_KM {h g : kx_H} : ∀ {k : Option (Nat → Nat)}, iv_KM h k → g 127 2 = h 127 2 → (∀ j, g 129 j = h 129 j) → iv_KM g k
  | none, hk, e1, _ => e1.trans hk
  | some _, hk, e1, e => ⟨by rw [e1]; exact hk.1, fr_MH hk.2 e⟩
theorem fr_C {h g : kx_H} {a : Nat → Nat} {k : Option (Nat → Nat)} {n : Nat} {tp sl sn : Nat → Nat} {it : kx_H} (H : iv_C h a k n tp sl sn it) (e : ∀ d j, d < 56 → g d j = h d j) : iv_C g a k n tp sl sn it :=
  ⟨fr_CH H.1 (fun d j _ _ => e d j (by omega)), fr_KC H.2.1 (e 0 2 (by omega)) (fun d j _ _ => e d j (by omega)), fr_TP H.2.2.1 (fun d j _ => e d j (by omega)), fr_SH H.2.2.2 (fun d j _ _ => e d j (by omega))⟩
theorem fr_M {h g : kx_H} {a : Nat → Nat} {k : Option (Nat → Nat)} {n : Nat} {tp sl sn : Nat → Nat} {it : kx_H} (H : iv_M h a k n tp sl sn it) (e : ∀ d j, 127 ≤ d → d < 134 → g d j = h d j) : iv_M g a k n tp sl sn it :=
  ⟨fr_MH H.1 (fun j => e 128 j (by omega) (by omega)), fr_KM H.2.1 (e 127 2 (by omega) (by omega)) (fun j => e 129 j (by omega) (by omega)), fr_MT H.2.2.1 (e 127 4 (by omega) (by omega)) (fun j => e 130 j (by omega) (by omega)), fr_MS H.2.2.2 (fun d j _ _ => e d j (by omega) (by omega))⟩
/-- a pair of calls: the class answers, then the reference answers the same, and the invariant stands again -/
def lk_P (y8 : MethodName) (c8 : ByteArray) (n8 : Nat) (y9 : MethodName) (c9 : ByteArray) (n9 : Nat) (as : List Value) (h : kx_H) : Prop :=
  ∃ (dp8 : Nat) (Q8 : Int32 → kx_H → Prop) (r0 : Int32), dp8 ≤ 13 ∧ kx_MI dp8 y8 c8 n8 .int (.ref 0 :: as) h Q8 ∧ ∀ r h1, Q8 r h1 → r = r0 ∧ ∃ (dp9 : Nat) (Q9 : Int32 → kx_H → Prop), dp9 ≤ 13 ∧ kx_MI dp9 y9 c9 n9 .int (.ref 127 :: as) h1 Q9 ∧ ∀ r2 h2, Q9 r2 h2 → r2 = r0 ∧ iv_I h2
set_option maxRecDepth 20000 in
theorem lk_change {h : kx_H} (t : Int32) (i : Int32) (v : Int32) (hI : iv_I h) : lk_P yX8_change cX8_change 5 yX9_change cX9_change 5 [.int t, .int i, .int v] h := by
  obtain ⟨a, k, n, tp, sl, sn, it, hB, hKB, hC, hM⟩ := hI
  refine ⟨_, _, sp_change a t i v, by decide, m_X8_change t i v hC.1 hB, fun r h1 q => ?_⟩
  obtain ⟨q1, q2, q3⟩ := q
  have M1 := fr_M (g := h1) hM (fun d j _ _ => q3 d j (by omega))
  have C1 : iv_C h1 (sp_changeA a t i v) k n tp sl sn it := ⟨q2, fr_KC hC.2.1 (q3 0 2 (by omega)) (fun d j _ _ => q3 d j (by omega)), fr_TP hC.2.2.1 (fun d j _ => q3 d j (by omega)), fr_SH hC.2.2.2 (fun d j _ _ => q3 d j (by omega))⟩
  refine ⟨q1, _, _, by decide, m_X9_change t i v M1.1 hB, fun r2 h2 p => ?_⟩
  obtain ⟨p1, p2, p3⟩ := p
  exact ⟨p1, _, k, n, tp, sl, sn, it, kb_changeA hB t i v, hKB, fr_C C1 (fun d j _ => p3 d j (by omega)), p2, fr_KM M1.2.1 (p3 127 2 (by omega)) (fun j => p3 129 j (by omega)), fr_MT M1.2.2.1 (p3 127 4 (by omega)) (fun j => p3 130 j (by omega)), fr_MS M1.2.2.2 (fun d j _ _ => p3 d j (by omega))⟩
set_option maxRecDepth 20000 in
theorem lk_teller {h : kx_H} (k1 : Int32) (hI : iv_I h) : lk_P yX8_teller cX8_teller 2 yX9_teller cX9_teller 3 [.int k1] h := by
  obtain ⟨a, k, n, tp, sl, sn, it, hB, hKB, hC, hM⟩ := hI
  refine ⟨_, _, sp_teller a k1, by decide, m_X8_teller k1 hC.1 hB, fun r h1 q => ?_⟩
  obtain ⟨q1, q2, q3⟩ := q
  have M1 := fr_M (g := h1) hM (fun d j _ _ => q3 d j (by omega))
  have C1 : iv_C h1 (sp_tellerA a k1) k n tp sl sn it := ⟨q2, fr_KC hC.2.1 (q3 0 2 (by omega)) (fun d j _ _ => q3 d j (by omega)), fr_TP hC.2.2.1 (fun d j _ => q3 d j (by omega)), fr_SH hC.2.2.2 (fun d j _ _ => q3 d j (by omega))⟩
  refine ⟨q1, _, _, by decide, m_X9_teller k1 M1.1 hB, fun r2 h2 p => ?_⟩
  obtain ⟨p1, p2, p3⟩ := p
  exact ⟨p1, _, k, n, tp, sl, sn, it, kb_tellerA hB k1, hKB, fr_C C1 (fun d j _ => p3 d j (by omega)), p2, fr_KM M1.2.1 (p3 127 2 (by omega)) (fun j => p3 129 j (by omega)), fr_MT M1.2.2.1 (p3 127 4 (by omega)) (fun j => p3 130 j (by omega)), fr_MS M1.2.2.2 (fun d j _ _ => p3 d j (by omega))⟩
set_option maxRecDepth 20000 in
theorem lk_spinner {h : kx_H}  (hI : iv_I h) : lk_P yX8_spinner cX8_spinner 1 yX9_spinner cX9_spinner 3 [] h := by
  obtain ⟨a, k, n, tp, sl, sn, it, hB, hKB, hC, hM⟩ := hI
  refine ⟨_, _, sp_spinner a, by decide, m_X8_spinner hC.1 hB, fun r h1 q => ?_⟩
  obtain ⟨q1, q2, q3⟩ := q
  have M1 := fr_M (g := h1) hM (fun d j _ _ => q3 d j (by omega))
  have C1 : iv_C h1 (sp_spinnerA a) k n tp sl sn it := ⟨q2, fr_KC hC.2.1 (q3 0 2 (by omega)) (fun d j _ _ => q3 d j (by omega)), fr_TP hC.2.2.1 (fun d j _ => q3 d j (by omega)), fr_SH hC.2.2.2 (fun d j _ _ => q3 d j (by omega))⟩
  refine ⟨q1, _, _, by decide, m_X9_spinner M1.1 hB, fun r2 h2 p => ?_⟩
  obtain ⟨p1, p2, p3⟩ := p
  exact ⟨p1, _, k, n, tp, sl, sn, it, kb_spinnerA hB, hKB, fr_C C1 (fun d j _ => p3 d j (by omega)), p2, fr_KM M1.2.1 (p3 127 2 (by omega)) (fun j => p3 129 j (by omega)), fr_MT M1.2.2.1 (p3 127 4 (by omega)) (fun j => p3 130 j (by omega)), fr_MS M1.2.2.2 (fun d j _ _ => p3 d j (by omega))⟩
set_option maxRecDepth 20000 in
theorem lk_memory {h : kx_H} (v : Int32) (hI : iv_I h) : lk_P yX8_memory cX8_memory 3 yX9_memory cX9_memory 3 [.int v] h := by
  obtain ⟨a, k, n, tp, sl, sn, it, hB, hKB, hC, hM⟩ := hI
  refine ⟨_, _, sp_memory a v, by decide, m_X8_memory v hC.1 hB, fun r h1 q => ?_⟩
  obtain ⟨q1, q2, q3⟩ := q
  have M1 := fr_M (g := h1) hM (fun d j _ _ => q3 d j (by omega))
  have C1 : iv_C h1 (sp_memoryA a v) k n tp sl sn it := ⟨q2, fr_KC hC.2.1 (q3 0 2 (by omega)) (fun d j _ _ => q3 d j (by omega)), fr_TP hC.2.2.1 (fun d j _ => q3 d j (by omega)), fr_SH hC.2.2.2 (fun d j _ _ => q3 d j (by omega))⟩
  refine ⟨q1, _, _, by decide, m_X9_memory v M1.1 hB, fun r2 h2 p => ?_⟩
  obtain ⟨p1, p2, p3⟩ := p
  exact ⟨p1, _, k, n, tp, sl, sn, it, kb_memoryA hB v, hKB, fr_C C1 (fun d j _ => p3 d j (by omega)), p2, fr_KM M1.2.1 (p3 127 2 (by omega)) (fun j => p3 129 j (by omega)), fr_MT M1.2.2.1 (p3 127 4 (by omega)) (fun j => p3 130 j (by omega)), fr_MS M1.2.2.2 (fun d j _ _ => p3 d j (by omega))⟩
set_option maxRecDepth 20000 in
theorem lk_use {h : kx_H} (s : Int32) (k1 : Int32) (n1 : Int32) (hI : iv_I h) : lk_P yX8_use cX8_use 4 yX9_use cX9_use 5 [.int s, .int k1, .int n1] h := by
  obtain ⟨a, k, n, tp, sl, sn, it, hB, hKB, hC, hM⟩ := hI
  refine ⟨_, _, sp_use a s k1 n1, by decide, m_X8_use s k1 n1 hC.1 hB, fun r h1 q => ?_⟩
  obtain ⟨q1, q2, q3⟩ := q
  have M1 := fr_M (g := h1) hM (fun d j _ _ => q3 d j (by omega))
  have C1 : iv_C h1 (sp_useA a s k1 n1) k n tp sl sn it := ⟨q2, fr_KC hC.2.1 (q3 0 2 (by omega)) (fun d j _ _ => q3 d j (by omega)), fr_TP hC.2.2.1 (fun d j _ => q3 d j (by omega)), fr_SH hC.2.2.2 (fun d j _ _ => q3 d j (by omega))⟩
  refine ⟨q1, _, _, by decide, m_X9_use s k1 n1 M1.1 hB, fun r2 h2 p => ?_⟩
  obtain ⟨p1, p2, p3⟩ := p
  exact ⟨p1, _, k, n, tp, sl, sn, it, kb_useA hB s k1 n1, hKB, fr_C C1 (fun d j _ => p3 d j (by omega)), p2, fr_KM M1.2.1 (p3 127 2 (by omega)) (fun j => p3 129 j (by omega)), fr_MT M1.2.2.1 (p3 127 4 (by omega)) (fun j => p3 130 j (by omega)), fr_MS M1.2.2.2 (fun d j _ _ => p3 d j (by omega))⟩
set_option maxRecDepth 20000 in
theorem lk_evening {h : kx_H} (e : Int32) (t : Int32) (n1 : Int32) (w : Int32) (hI : iv_I h) : lk_P yX8_evening cX8_evening 5 yX9_evening cX9_evening 14 [.int e, .int t, .int n1, .int w] h := by
  obtain ⟨a, k, n, tp, sl, sn, it, hB, hKB, hC, hM⟩ := hI
  refine ⟨_, _, sp_evening a e t n1 w, by decide, m_X8_evening e t n1 w hC.1 hB, fun r h1 q => ?_⟩
  obtain ⟨q1, q2, q3⟩ := q
  have M1 := fr_M (g := h1) hM (fun d j _ _ => q3 d j (by omega))
  have C1 : iv_C h1 (sp_eveningA a e t n1 w) k n tp sl sn it := ⟨q2, fr_KC hC.2.1 (q3 0 2 (by omega)) (fun d j _ _ => q3 d j (by omega)), fr_TP hC.2.2.1 (fun d j _ => q3 d j (by omega)), fr_SH hC.2.2.2 (fun d j _ _ => q3 d j (by omega))⟩
  refine ⟨q1, _, _, by decide, m_X9_evening e t n1 w M1.1 hB, fun r2 h2 p => ?_⟩
  obtain ⟨p1, p2, p3⟩ := p
  exact ⟨p1, _, k, n, tp, sl, sn, it, kb_eveningA hB e t n1 w, hKB, fr_C C1 (fun d j _ => p3 d j (by omega)), p2, fr_KM M1.2.1 (p3 127 2 (by omega)) (fun j => p3 129 j (by omega)), fr_MT M1.2.2.1 (p3 127 4 (by omega)) (fun j => p3 130 j (by omega)), fr_MS M1.2.2.2 (fun d j _ _ => p3 d j (by omega))⟩
set_option maxRecDepth 20000 in
theorem lk_told {h : kx_H} (t : Int32) (i : Int32) (hI : iv_I h) : lk_P yX8_told cX8_told 3 yX9_told cX9_told 3 [.int t, .int i] h := by
  obtain ⟨a, k, n, tp, sl, sn, it, hB, hKB, hC, hM⟩ := hI
  refine ⟨_, _, sp_told a t i, by decide, m_X8_told t i hC.1 hB, fun r h1 q => ?_⟩
  obtain ⟨rfl, q1⟩ := q
  refine ⟨q1, _, _, by decide, m_X9_told t i hM.1 hB, fun r2 h2 p => ?_⟩
  obtain ⟨rfl, p1⟩ := p
  exact ⟨p1, a, k, n, tp, sl, sn, it, hB, hKB, hC, hM⟩
set_option maxRecDepth 20000 in
theorem lk_tells {h : kx_H} (e : Int32) (t : Int32) (i : Int32) (hI : iv_I h) : lk_P yX8_tells cX8_tells 4 yX9_tells cX9_tells 4 [.int e, .int t, .int i] h := by
  obtain ⟨a, k, n, tp, sl, sn, it, hB, hKB, hC, hM⟩ := hI
  refine ⟨_, _, sp_tells a e t i, by decide, m_X8_tells e t i hC.1 hB, fun r h1 q => ?_⟩
  obtain ⟨rfl, q1⟩ := q
  refine ⟨q1, _, _, by decide, m_X9_tells e t i hM.1 hB, fun r2 h2 p => ?_⟩
  obtain ⟨rfl, p1⟩ := p
  exact ⟨p1, a, k, n, tp, sl, sn, it, hB, hKB, hC, hM⟩
set_option maxRecDepth 20000 in
theorem lk_yards {h : kx_H} (s : Int32) (k1 : Int32) (hI : iv_I h) : lk_P yX8_yards cX8_yards 3 yX9_yards cX9_yards 3 [.int s, .int k1] h := by
  obtain ⟨a, k, n, tp, sl, sn, it, hB, hKB, hC, hM⟩ := hI
  refine ⟨_, _, sp_yards a s k1, by decide, m_X8_yards s k1 hC.1 hB, fun r h1 q => ?_⟩
  obtain ⟨rfl, q1⟩ := q
  refine ⟨q1, _, _, by decide, m_X9_yards s k1 hM.1 hB, fun r2 h2 p => ?_⟩
  obtain ⟨rfl, p1⟩ := p
  exact ⟨p1, a, k, n, tp, sl, sn, it, hB, hKB, hC, hM⟩
set_option maxRecDepth 20000 in
theorem lk_mind {h : kx_H} (s : Int32) (hI : iv_I h) : lk_P yX8_mind cX8_mind 4 yX9_mind cX9_mind 4 [.int s] h := by
  obtain ⟨a, k, n, tp, sl, sn, it, hB, hKB, hC, hM⟩ := hI
  refine ⟨_, _, sp_mindr a s, by decide, m_X8_mind s hC.1 hB, fun r h1 q => ?_⟩
  obtain ⟨rfl, q1⟩ := q
  refine ⟨q1, _, _, by decide, m_X9_mind s hM.1 hB, fun r2 h2 p => ?_⟩
  obtain ⟨rfl, p1⟩ := p
  exact ⟨p1, a, k, n, tp, sl, sn, it, hB, hKB, hC, hM⟩
set_option maxRecDepth 20000 in
theorem lk_count {h : kx_H} (w : Int32) (hI : iv_I h) : lk_P yX8_count cX8_count 2 yX9_count cX9_count 2 [.int w] h := by
  obtain ⟨a, k, n, tp, sl, sn, it, hB, hKB, hC, hM⟩ := hI
  refine ⟨_, _, sp_count a w, by decide, m_X8_count w hC.1 hB, fun r h1 q => ?_⟩
  obtain ⟨rfl, q1⟩ := q
  refine ⟨q1, _, _, by decide, m_X9_count w hM.1 hB, fun r2 h2 p => ?_⟩
  obtain ⟨rfl, p1⟩ := p
  exact ⟨p1, a, k, n, tp, sl, sn, it, hB, hKB, hC, hM⟩
set_option maxRecDepth 20000 in
theorem lk_store {h : kx_H} (s : Int32) (n1 : Int32) (i : Int32) (hI : iv_I h) : lk_P yX8_store cX8_store 4 yX9_store cX9_store 11 [.int s, .int n1, .int i] h := by
  obtain ⟨a, k, n, tp, sl, sn, it, hB, hKB, hC, hM⟩ := hI
  refine ⟨_, _, sp_store a s n1 i, by decide, m_X8_store s n1 i hC.1 hB, fun r h1 q => ?_⟩
  obtain ⟨q1, q3⟩ := q
  have M1 := fr_M (g := h1) hM (fun d j _ _ => (by first | exact q3 d j (by omega) | exact q3 d j (by omega) (by omega) | exact q3 d j (by omega) (by omega) (by omega)))
  have C1 := fr_C (g := h1) hC (fun d j _ => (by first | exact q3 d j (by omega) | exact q3 d j (by omega) (by omega) | exact q3 d j (by omega) (by omega) (by omega)))
  refine ⟨q1, _, _, by decide, m_X9_store s n1 i M1.1 hB, fun r2 h2 p => ?_⟩
  obtain ⟨p1, p3⟩ := p
  exact ⟨p1, a, k, n, tp, sl, sn, it, hB, hKB, fr_C C1 (fun d j _ => (by first | exact p3 d j (by omega) | exact p3 d j (by omega) (by omega) | exact p3 d j (by omega) (by omega) (by omega))), fr_M M1 (fun d j _ _ => (by first | exact p3 d j (by omega) | exact p3 d j (by omega) (by omega) | exact p3 d j (by omega) (by omega) (by omega)))⟩
set_option maxRecDepth 20000 in
theorem lk_play {h : kx_H} (e : Int32) (t : Int32) (j1 : Int32) (p1 : Int32) (w : Int32) (hI : iv_I h) : lk_P yX8_play cX8_play 6 yX9_play cX9_play 6 [.int e, .int t, .int j1, .int p1, .int w] h := by
  obtain ⟨a, k, n, tp, sl, sn, it, hB, hKB, hC, hM⟩ := hI
  refine ⟨_, _, sp_play a e t j1 p1 w, by decide, m_X8_play e t j1 p1 w hC.1 hB, fun r h1 q => ?_⟩
  obtain ⟨q1, q3⟩ := q
  have M1 := fr_M (g := h1) hM (fun d j _ _ => (by first | exact q3 d j (by omega) | exact q3 d j (by omega) (by omega) | exact q3 d j (by omega) (by omega) (by omega)))
  have C1 := fr_C (g := h1) hC (fun d j _ => (by first | exact q3 d j (by omega) | exact q3 d j (by omega) (by omega) | exact q3 d j (by omega) (by omega) (by omega)))
  refine ⟨q1, _, _, by decide, m_X9_play e t j1 p1 w M1.1 hB, fun r2 h2 p => ?_⟩
  obtain ⟨rfl, p1⟩ := p
  exact ⟨p1, a, k, n, tp, sl, sn, it, hB, hKB, C1, M1⟩
set_option maxRecDepth 20000 in
theorem lk_rests {h : kx_H} (e : Int32) (t : Int32) (w : Int32) (hI : iv_I h) : lk_P yX8_rests cX8_rests 4 yX9_rests cX9_rests 10 [.int e, .int t, .int w] h := by
  obtain ⟨a, k, n, tp, sl, sn, it, hB, hKB, hC, hM⟩ := hI
  refine ⟨_, _, sp_rests a e t w, by decide, m_X8_rests e t w hC.1 hB, fun r h1 q => ?_⟩
  obtain ⟨q1, q3⟩ := q
  have M1 := fr_M (g := h1) hM (fun d j _ _ => (by first | exact q3 d j (by omega) | exact q3 d j (by omega) (by omega) | exact q3 d j (by omega) (by omega) (by omega)))
  have C1 := fr_C (g := h1) hC (fun d j _ => (by first | exact q3 d j (by omega) | exact q3 d j (by omega) (by omega) | exact q3 d j (by omega) (by omega) (by omega)))
  refine ⟨q1, _, _, by decide, m_X9_rests e t w M1.1 hB, fun r2 h2 p => ?_⟩
  obtain ⟨rfl, p1⟩ := p
  exact ⟨p1, a, k, n, tp, sl, sn, it, hB, hKB, C1, M1⟩
set_option maxRecDepth 20000 in
theorem lk_coat {h : kx_H} (s : Int32) (v : Int32) (l : Int32) (i : Int32) (k1 : Int32) (hI : iv_I h) : lk_P yX8_coat cX8_coat 7 yX9_coat cX9_coat 8 [.int s, .int v, .int l, .int i, .int k1] h := by
  obtain ⟨a, k, n, tp, sl, sn, it, hB, hKB, hC, hM⟩ := hI
  refine ⟨_, _, sp_coat a sl sn it s v l i k1, by decide, m_X8_coat s v l i k1 hC.1 hB hC.2.2.2, fun r h1 q => ?_⟩
  obtain ⟨q1, q3⟩ := q
  have M1 := fr_M (g := h1) hM (fun d j _ _ => (by first | exact q3 d j (by omega) | exact q3 d j (by omega) (by omega) | exact q3 d j (by omega) (by omega) (by omega)))
  have C1 := fr_C (g := h1) hC (fun d j _ => (by first | exact q3 d j (by omega) | exact q3 d j (by omega) (by omega) | exact q3 d j (by omega) (by omega) (by omega)))
  refine ⟨q1, _, _, by decide, m_X9_coat s v l i k1 M1.1 hB M1.2.2.2, fun r2 h2 p => ?_⟩
  obtain ⟨p1, p3⟩ := p
  exact ⟨p1, a, k, n, tp, sl, sn, it, hB, hKB, fr_C C1 (fun d j _ => (by first | exact p3 d j (by omega) | exact p3 d j (by omega) (by omega) | exact p3 d j (by omega) (by omega) (by omega))), fr_M M1 (fun d j _ _ => (by first | exact p3 d j (by omega) | exact p3 d j (by omega) (by omega) | exact p3 d j (by omega) (by omega) (by omega)))⟩
set_option maxRecDepth 20000 in
theorem lk_read {h : kx_H} (v : Int32) (l : Int32) (i : Int32) (n1 : Int32) (k1 : Int32) (hI : iv_I h) : lk_P yX8_read cX8_read 7 yX9_read cX9_read 14 [.int v, .int l, .int i, .int n1, .int k1] h := by
  obtain ⟨a, k, n, tp, sl, sn, it, hB, hKB, hC, hM⟩ := hI
  refine ⟨_, _, sp_read a sl sn it v l i n1 k1, by decide, m_X8_read v l i n1 k1 hC.1 hB hC.2.2.2, fun r h1 q => ?_⟩
  obtain ⟨q1, q3⟩ := q
  have M1 := fr_M (g := h1) hM (fun d j _ _ => (by first | exact q3 d j (by omega) | exact q3 d j (by omega) (by omega) | exact q3 d j (by omega) (by omega) (by omega)))
  have C1 := fr_C (g := h1) hC (fun d j _ => (by first | exact q3 d j (by omega) | exact q3 d j (by omega) (by omega) | exact q3 d j (by omega) (by omega) (by omega)))
  refine ⟨q1, _, _, by decide, m_X9_read v l i n1 k1 M1.1 hB M1.2.2.2, fun r2 h2 p => ?_⟩
  obtain ⟨p1, p3⟩ := p
  exact ⟨p1, a, k, n, tp, sl, sn, it, hB, hKB, fr_C C1 (fun d j _ => (by first | exact p3 d j (by omega) | exact p3 d j (by omega) (by omega) | exact p3 d j (by omega) (by omega) (by omega))), fr_M M1 (fun d j _ _ => (by first | exact p3 d j (by omega) | exact p3 d j (by omega) (by omega) | exact p3 d j (by omega) (by omega) (by omega)))⟩
set_option maxRecDepth 20000 in
theorem lk_untangle {h : kx_H} (v : Int32) (l : Int32) (i : Int32) (n1 : Int32) (w : Int32) (hI : iv_I h) : lk_P yX8_untangle cX8_untangle 11 yX9_untangle cX9_untangle 14 [.int v, .int l, .int i, .int n1, .int w] h := by
  obtain ⟨a, k, n, tp, sl, sn, it, hB, hKB, hC, hM⟩ := hI
  refine ⟨_, _, sp_unt a sl sn it v l i n1 w, by decide, m_X8_untangle v l i n1 w hC.1 hB hC.2.2.2, fun r h1 q => ?_⟩
  obtain ⟨q1, q3⟩ := q
  have M1 := fr_M (g := h1) hM (fun d j _ _ => (by first | exact q3 d j (by omega) | exact q3 d j (by omega) (by omega) | exact q3 d j (by omega) (by omega) (by omega)))
  have C1 := fr_C (g := h1) hC (fun d j _ => (by first | exact q3 d j (by omega) | exact q3 d j (by omega) (by omega) | exact q3 d j (by omega) (by omega) (by omega)))
  refine ⟨q1, _, _, by decide, m_X9_untangle v l i n1 w M1.1 hB M1.2.2.2, fun r2 h2 p => ?_⟩
  obtain ⟨p1, p3⟩ := p
  exact ⟨p1, a, k, n, tp, sl, sn, it, hB, hKB, fr_C C1 (fun d j _ => (by first | exact p3 d j (by omega) | exact p3 d j (by omega) (by omega) | exact p3 d j (by omega) (by omega) (by omega))), fr_M M1 (fun d j _ _ => (by first | exact p3 d j (by omega) | exact p3 d j (by omega) (by omega) | exact p3 d j (by omega) (by omega) (by omega)))⟩
set_option maxRecDepth 20000 in
theorem lk_passed {h : kx_H} (t : Int32) (k1 : Int32) (v : Int32) (l : Int32) (i : Int32) (n1 : Int32) (j1 : Int32) (hI : iv_I h) : lk_P yX8_passed cX8_passed 9 yX9_passed cX9_passed 14 [.int t, .int k1, .int v, .int l, .int i, .int n1, .int j1] h := by
  obtain ⟨a, k, n, tp, sl, sn, it, hB, hKB, hC, hM⟩ := hI
  refine ⟨_, _, sp_passed a sl sn it t k1 v l i n1 j1, by decide, m_X8_passed t k1 v l i n1 j1 hC.1 hB hC.2.2.2, fun r h1 q => ?_⟩
  obtain ⟨q1, q3⟩ := q
  have M1 := fr_M (g := h1) hM (fun d j _ _ => (by first | exact q3 d j (by omega) | exact q3 d j (by omega) (by omega) | exact q3 d j (by omega) (by omega) (by omega)))
  have C1 := fr_C (g := h1) hC (fun d j _ => (by first | exact q3 d j (by omega) | exact q3 d j (by omega) (by omega) | exact q3 d j (by omega) (by omega) (by omega)))
  refine ⟨q1, _, _, by decide, m_X9_passed t k1 v l i n1 j1 M1.1 hB M1.2.2.2, fun r2 h2 p => ?_⟩
  obtain ⟨p1, p3⟩ := p
  exact ⟨p1, a, k, n, tp, sl, sn, it, hB, hKB, fr_C C1 (fun d j _ => (by first | exact p3 d j (by omega) | exact p3 d j (by omega) (by omega) | exact p3 d j (by omega) (by omega) (by omega))), fr_M M1 (fun d j _ _ => (by first | exact p3 d j (by omega) | exact p3 d j (by omega) (by omega) | exact p3 d j (by omega) (by omega) (by omega)))⟩
set_option maxRecDepth 20000 in
theorem lk_type {h : kx_H} (w : Int64) (v : Int32) (hI : iv_I h) : lk_P yX8_type cX8_type 5 yX9_type cX9_type 6 [.long w, .int v] h := by
  obtain ⟨a, k, n, tp, sl, sn, it, hB, hKB, hC, hM⟩ := hI
  refine ⟨_, _, sp_type n w v, by decide, m_X8_type w v hC.2.2.1, fun r h1 q => ?_⟩
  obtain ⟨q1, q2, q3⟩ := q
  have M1 := fr_M (g := h1) hM (fun d j _ _ => q3 d j (by omega) (by omega))
  have C1 : iv_C h1 a k (sp_typeN n w v) (sp_typeT n tp w v) sl sn it := ⟨fr_CH hC.1 (fun d j _ _ => q3 d j (by omega) (by omega)), fr_KC hC.2.1 (q3 0 2 (by omega) (by omega)) (fun d j _ _ => q3 d j (by omega) (by omega)), q2, fr_SH hC.2.2.2 (fun d j _ _ => q3 d j (by omega) (by omega))⟩
  refine ⟨q1, _, _, by decide, m_X9_type w v M1.2.2.1, fun r2 h2 p => ?_⟩
  obtain ⟨p1, p2, p3, p4⟩ := p
  exact ⟨p1, a, k, _, _, sl, sn, it, hB, hKB, fr_C C1 (fun d j _ => p4 d j (by omega) (by omega)), fr_MH M1.1 (fun j => p4 128 j (by omega) (by omega)), fr_KM M1.2.1 (p3 2 (by omega)) (fun j => p4 129 j (by omega) (by omega)), p2, fr_MS M1.2.2.2 (fun d j _ _ => p4 d j (by omega) (by omega))⟩
set_option maxRecDepth 20000 in
theorem lk_tale {h : kx_H}  (hI : iv_I h) : lk_P yX8_tale cX8_tale 2 yX9_tale cX9_tale 7 [] h := by
  obtain ⟨a, k, n, tp, sl, sn, it, hB, hKB, hC, hM⟩ := hI
  refine ⟨_, _, sp_tale a n tp, by decide, m_X8_tale hC.1 hB hC.2.2.1, fun r h1 q => ?_⟩
  obtain ⟨q1, q2, q4, q3⟩ := q
  have M1 := fr_M (g := h1) hM (fun d j _ _ => q3 d j (by omega) (by omega) (by omega))
  have C1 : iv_C h1 (sp_taleA a n tp) k 0 tp sl sn it := ⟨q2, fr_KC hC.2.1 (q3 0 2 (by omega) (by omega) (by omega)) (fun d j _ _ => q3 d j (by omega) (by omega) (by omega)), q4, fr_SH hC.2.2.2 (fun d j _ _ => q3 d j (by omega) (by omega) (by omega))⟩
  refine ⟨q1, _, _, by decide, m_X9_tale M1.1 hB M1.2.2.1, fun r2 h2 p => ?_⟩
  obtain ⟨p1, p2, p5, p3, p4⟩ := p
  exact ⟨p1, _, k, 0, tp, sl, sn, it, kb_taleA hB n tp, hKB, fr_C C1 (fun d j _ => p4 d j (by omega) (by omega)), p2, fr_KM M1.2.1 (p3 2 (by omega)) (fun j => p4 129 j (by omega) (by omega)), p5, fr_MS M1.2.2.2 (fun d j _ _ => p4 d j (by omega) (by omega))⟩
set_option maxRecDepth 20000 in
theorem lk_image {h : kx_H}  (hI : iv_I h) : lk_P yX8_image cX8_image 1 yX9_image cX9_image 2 [] h := by
  obtain ⟨a, k, n, tp, sl, sn, it, hB, hKB, hC, hM⟩ := hI
  refine ⟨_, _, 1, by decide, m_X8_image hC.1 hB, fun r h1 q => ?_⟩
  obtain ⟨q1, q2, q4, q3⟩ := q
  have M1 := fr_M (g := h1) hM (fun d j _ _ => q3 d j (by omega) (by omega))
  have C1 : iv_C h1 a (some a) n tp sl sn it := ⟨fr_CH hC.1 (fun d j _ _ => q3 d j (by omega) (by omega)), ⟨by rw [q4]; decide, q2⟩, fr_TP hC.2.2.1 (fun d j _ => q3 d j (by omega) (by omega)), fr_SH hC.2.2.2 (fun d j _ _ => q3 d j (by omega) (by omega))⟩
  refine ⟨q1, _, _, by decide, m_X9_image M1.1, fun r2 h2 p => ?_⟩
  obtain ⟨p1, p2, p5, p3, p4⟩ := p
  exact ⟨p1, a, some a, n, tp, sl, sn, it, hB, hB, fr_C C1 (fun d j _ => p4 d j (by omega) (by omega)), fr_MH M1.1 (fun j => p4 128 j (by omega) (by omega)), ⟨by rw [p5]; decide, p2⟩, fr_MT M1.2.2.1 (p3 4 (by omega)) (fun j => p4 130 j (by omega) (by omega)), fr_MS M1.2.2.2 (fun d j _ _ => p4 d j (by omega) (by omega))⟩
set_option maxRecDepth 20000 in
theorem lk_restore {h : kx_H}  (hI : iv_I h) : lk_P yX8_restore cX8_restore 1 yX9_restore cX9_restore 2 [] h := by
  obtain ⟨a, k, n, tp, sl, sn, it, hB, hKB, hC, hM⟩ := hI
  cases k with
  | none =>
    have hc0 : h 0 2 = 0 := hC.2.1
    have hm0 : h 127 2 = 0 := hM.2.1
    refine ⟨_, _, -4, by decide, m_X8_restore (b := a) (fun z => absurd hc0 z), fun r h1 q => ?_⟩
    obtain ⟨q1, rfl⟩ := q.1 hc0
    refine ⟨q1, _, _, by decide, m_X9_restore (b := a) (fun z => absurd hm0 z), fun r2 h2 p => ?_⟩
    obtain ⟨p1, rfl⟩ := p.1 hm0
    exact ⟨p1, a, none, n, tp, sl, sn, it, hB, hKB, hC, hM⟩
  | some b =>
    obtain ⟨hc0, hc1⟩ := hC.2.1
    obtain ⟨hm0, hm1⟩ := hM.2.1
    refine ⟨_, _, 1, by decide, m_X8_restore (b := b) (fun _ => hc1), fun r h1 q => ?_⟩
    obtain ⟨q1, q2, q3⟩ := q.2 hc0
    have M1 := fr_M (g := h1) hM (fun d j _ _ => q3 d j (by omega))
    have C1 : iv_C h1 b (some b) n tp sl sn it := ⟨q2, fr_KC hC.2.1 (q3 0 2 (by omega)) (fun d j _ _ => q3 d j (by omega)), fr_TP hC.2.2.1 (fun d j _ => q3 d j (by omega)), fr_SH hC.2.2.2 (fun d j _ _ => q3 d j (by omega))⟩
    refine ⟨q1, _, _, by decide, m_X9_restore (b := b) (fun _ => M1.2.1.2), fun r2 h2 p => ?_⟩
    obtain ⟨p1, p2, p3⟩ := p.2 M1.2.1.1
    exact ⟨p1, b, some b, n, tp, sl, sn, it, hKB, hKB, fr_C C1 (fun d j _ => p3 d j (by omega)), p2, fr_KM M1.2.1 (p3 127 2 (by omega)) (fun j => p3 129 j (by omega)), fr_MT M1.2.2.1 (p3 127 4 (by omega)) (fun j => p3 130 j (by omega)), fr_MS M1.2.2.2 (fun d j _ _ => p3 d j (by omega))⟩
set_option maxRecDepth 20000 in
theorem lk_drop {h : kx_H} (v : Int32) (hI : iv_I h) : lk_P yX8_drop cX8_drop 2 yX9_drop cX9_drop 3 [.int v] h := by
  obtain ⟨a, k, n, tp, sl, sn, it, hB, hKB, hC, hM⟩ := hI
  refine ⟨_, _, sp_drop sl sn v, by decide, m_X8_drop v hC.2.2.2, fun r h1 q => ?_⟩
  obtain ⟨q1, q2, q3⟩ := q
  have M1 := fr_M (g := h1) hM (fun d j _ _ => (by first | exact q3 d j (by omega) | exact q3 d j (by omega) (by omega) | exact q3 d j (by omega) (by omega) (by omega)))
  have C1 : iv_C h1 a k n tp (sp_dropL sl v) sn it := ⟨fr_CH hC.1 (fun d j _ _ => (by first | exact q3 d j (by omega) | exact q3 d j (by omega) (by omega) | exact q3 d j (by omega) (by omega) (by omega))), fr_KC hC.2.1 (by first | exact q3 0 2 (by omega) | exact q3 0 2 (by omega) (by omega)) (fun d j _ _ => (by first | exact q3 d j (by omega) | exact q3 d j (by omega) (by omega) | exact q3 d j (by omega) (by omega) (by omega))), fr_TP hC.2.2.1 (fun d j _ => (by first | exact q3 d j (by omega) | exact q3 d j (by omega) (by omega) | exact q3 d j (by omega) (by omega) (by omega))), q2⟩
  refine ⟨q1, _, _, by decide, m_X9_drop v M1.2.2.2, fun r2 h2 p => ?_⟩
  obtain ⟨p1, p2, p3⟩ := p
  exact ⟨p1, a, k, n, tp, _, _, _, hB, hKB, fr_C C1 (fun d j _ => (by first | exact p3 d j (by omega) | exact p3 d j (by omega) (by omega) | exact p3 d j (by omega) (by omega) (by omega))), fr_MH M1.1 (fun j => (by first | exact p3 128 j (by omega) | exact p3 128 j (by omega) (by omega) | exact p3 128 j (by omega) (by omega) (by omega))), fr_KM M1.2.1 (by first | exact p3 127 2 (by omega) | exact p3 127 2 (by omega) (by omega) | exact p3 127 2 (by omega) (by omega) (by omega)) (fun j => (by first | exact p3 129 j (by omega) | exact p3 129 j (by omega) (by omega) | exact p3 129 j (by omega) (by omega) (by omega))), fr_MT M1.2.2.1 (by first | exact p3 127 4 (by omega) | exact p3 127 4 (by omega) (by omega) | exact p3 127 4 (by omega) (by omega) (by omega)) (fun j => (by first | exact p3 130 j (by omega) | exact p3 130 j (by omega) (by omega) | exact p3 130 j (by omega) (by omega) (by omega))), p2⟩
set_option maxRecDepth 20000 in
theorem lk_item {h : kx_H} (v : Int32) (l : Int32) (i : Int32) (x : Int64) (hI : iv_I h) : lk_P yX8_item cX8_item 7 yX9_item cX9_item 7 [.int v, .int l, .int i, .long x] h := by
  obtain ⟨a, k, n, tp, sl, sn, it, hB, hKB, hC, hM⟩ := hI
  refine ⟨_, _, sp_item sl sn v l i, by decide, m_X8_item v l i x hC.2.2.2, fun r h1 q => ?_⟩
  obtain ⟨q1, q2, q3⟩ := q
  have M1 := fr_M (g := h1) hM (fun d j _ _ => (by first | exact q3 d j (by omega) | exact q3 d j (by omega) (by omega) | exact q3 d j (by omega) (by omega) (by omega)))
  have C1 : iv_C h1 a k n tp sl sn (sp_itemI sl sn it v l i x) := ⟨fr_CH hC.1 (fun d j _ _ => (by first | exact q3 d j (by omega) | exact q3 d j (by omega) (by omega) | exact q3 d j (by omega) (by omega) (by omega))), fr_KC hC.2.1 (by first | exact q3 0 2 (by omega) | exact q3 0 2 (by omega) (by omega)) (fun d j _ _ => (by first | exact q3 d j (by omega) | exact q3 d j (by omega) (by omega) | exact q3 d j (by omega) (by omega) (by omega))), fr_TP hC.2.2.1 (fun d j _ => (by first | exact q3 d j (by omega) | exact q3 d j (by omega) (by omega) | exact q3 d j (by omega) (by omega) (by omega))), q2⟩
  refine ⟨q1, _, _, by decide, m_X9_item v l i x M1.2.2.2, fun r2 h2 p => ?_⟩
  obtain ⟨p1, p2, p3⟩ := p
  exact ⟨p1, a, k, n, tp, _, _, _, hB, hKB, fr_C C1 (fun d j _ => (by first | exact p3 d j (by omega) | exact p3 d j (by omega) (by omega) | exact p3 d j (by omega) (by omega) (by omega))), fr_MH M1.1 (fun j => (by first | exact p3 128 j (by omega) | exact p3 128 j (by omega) (by omega) | exact p3 128 j (by omega) (by omega) (by omega))), fr_KM M1.2.1 (by first | exact p3 127 2 (by omega) | exact p3 127 2 (by omega) (by omega) | exact p3 127 2 (by omega) (by omega) (by omega)) (fun j => (by first | exact p3 129 j (by omega) | exact p3 129 j (by omega) (by omega) | exact p3 129 j (by omega) (by omega) (by omega))), fr_MT M1.2.2.1 (by first | exact p3 127 4 (by omega) | exact p3 127 4 (by omega) (by omega) | exact p3 127 4 (by omega) (by omega) (by omega)) (fun j => (by first | exact p3 130 j (by omega) | exact p3 130 j (by omega) (by omega) | exact p3 130 j (by omega) (by omega) (by omega))), p2⟩
set_option maxRecDepth 20000 in
theorem lk_tangle {h : kx_H} (x1 : Int32) (y1 : Int32) (v : Int32) (l : Int32) (i : Int32) (hI : iv_I h) : lk_P yX8_tangle cX8_tangle 9 yX9_tangle cX9_tangle 9 [.int x1, .int y1, .int v, .int l, .int i] h := by
  obtain ⟨a, k, n, tp, sl, sn, it, hB, hKB, hC, hM⟩ := hI
  refine ⟨_, _, sp_tangle a sl sn x1 y1 v l i, by decide, m_X8_tangle x1 y1 v l i hC.1 hB hC.2.2.2, fun r h1 q => ?_⟩
  obtain ⟨q1, q2, q3⟩ := q
  have M1 := fr_M (g := h1) hM (fun d j _ _ => (by first | exact q3 d j (by omega) | exact q3 d j (by omega) (by omega) | exact q3 d j (by omega) (by omega) (by omega)))
  have C1 : iv_C h1 a k n tp sl sn (sp_tangleI a sl sn it x1 y1 v l i) := ⟨fr_CH hC.1 (fun d j _ _ => (by first | exact q3 d j (by omega) | exact q3 d j (by omega) (by omega) | exact q3 d j (by omega) (by omega) (by omega))), fr_KC hC.2.1 (by first | exact q3 0 2 (by omega) | exact q3 0 2 (by omega) (by omega)) (fun d j _ _ => (by first | exact q3 d j (by omega) | exact q3 d j (by omega) (by omega) | exact q3 d j (by omega) (by omega) (by omega))), fr_TP hC.2.2.1 (fun d j _ => (by first | exact q3 d j (by omega) | exact q3 d j (by omega) (by omega) | exact q3 d j (by omega) (by omega) (by omega))), q2⟩
  refine ⟨q1, _, _, by decide, m_X9_tangle x1 y1 v l i M1.1 hB M1.2.2.2, fun r2 h2 p => ?_⟩
  obtain ⟨p1, p2, p3⟩ := p
  exact ⟨p1, a, k, n, tp, _, _, _, hB, hKB, fr_C C1 (fun d j _ => (by first | exact p3 d j (by omega) | exact p3 d j (by omega) (by omega) | exact p3 d j (by omega) (by omega) (by omega))), fr_MH M1.1 (fun j => (by first | exact p3 128 j (by omega) | exact p3 128 j (by omega) (by omega) | exact p3 128 j (by omega) (by omega) (by omega))), fr_KM M1.2.1 (by first | exact p3 127 2 (by omega) | exact p3 127 2 (by omega) (by omega) | exact p3 127 2 (by omega) (by omega) (by omega)) (fun j => (by first | exact p3 129 j (by omega) | exact p3 129 j (by omega) (by omega) | exact p3 129 j (by omega) (by omega) (by omega))), fr_MT M1.2.2.1 (by first | exact p3 127 4 (by omega) | exact p3 127 4 (by omega) (by omega) | exact p3 127 4 (by omega) (by omega) (by omega)) (fun j => (by first | exact p3 130 j (by omega) | exact p3 130 j (by omega) (by omega) | exact p3 130 j (by omega) (by omega) (by omega))), p2⟩
set_option maxRecDepth 20000 in
theorem lk_sheet {h : kx_H} (v : Int32) (l : Int32) (n1 : Int32) (hI : iv_I h) : lk_P yX8_sheet cX8_sheet 4 yX9_sheet cX9_sheet 5 [.int v, .int l, .int n1] h := by
  obtain ⟨a, k, n, tp, sl, sn, it, hB, hKB, hC, hM⟩ := hI
  refine ⟨_, _, sp_sheet v l n1, by decide, m_X8_sheet v l n1 hC.2.2.2, fun r h1 q => ?_⟩
  obtain ⟨q1, q4, q2, q3⟩ := q
  have M1 := fr_M (g := h1) hM (fun d j _ _ => (by first | exact q3 d j (by omega) | exact q3 d j (by omega) (by omega) | exact q3 d j (by omega) (by omega) (by omega)))
  refine ⟨q1, _, _, by decide, m_X9_sheet v l n1 M1.2.2.2, fun r2 h2 p => ?_⟩
  obtain ⟨p1, p4, p2, p3⟩ := p
  refine ⟨p1, ?_⟩
  by_cases z : sp_sheetC v l n1
  · have q2 := q2 z
    have p2 := p2 z
    have C1 : iv_C h1 a k n tp (up sl (kx_n v) (kx_n l + 1)) (up sn (kx_n v) (kx_n n1)) (upI it (kx_n v) (fun _ => 0)) := ⟨fr_CH hC.1 (fun d j _ _ => (by first | exact q3 d j (by omega) | exact q3 d j (by omega) (by omega) | exact q3 d j (by omega) (by omega) (by omega))), fr_KC hC.2.1 (by first | exact q3 0 2 (by omega) | exact q3 0 2 (by omega) (by omega)) (fun d j _ _ => (by first | exact q3 d j (by omega) | exact q3 d j (by omega) (by omega) | exact q3 d j (by omega) (by omega) (by omega))), fr_TP hC.2.2.1 (fun d j _ => (by first | exact q3 d j (by omega) | exact q3 d j (by omega) (by omega) | exact q3 d j (by omega) (by omega) (by omega))), q2⟩
    exact ⟨a, k, n, tp, _, _, _, hB, hKB, fr_C C1 (fun d j _ => (by first | exact p3 d j (by omega) | exact p3 d j (by omega) (by omega) | exact p3 d j (by omega) (by omega) (by omega))), fr_MH M1.1 (fun j => (by first | exact p3 128 j (by omega) | exact p3 128 j (by omega) (by omega) | exact p3 128 j (by omega) (by omega) (by omega))), fr_KM M1.2.1 (by first | exact p3 127 2 (by omega) | exact p3 127 2 (by omega) (by omega) | exact p3 127 2 (by omega) (by omega) (by omega)) (fun j => (by first | exact p3 129 j (by omega) | exact p3 129 j (by omega) (by omega) | exact p3 129 j (by omega) (by omega) (by omega))), fr_MT M1.2.2.1 (by first | exact p3 127 4 (by omega) | exact p3 127 4 (by omega) (by omega) | exact p3 127 4 (by omega) (by omega) (by omega)) (fun j => (by first | exact p3 130 j (by omega) | exact p3 130 j (by omega) (by omega) | exact p3 130 j (by omega) (by omega) (by omega))), p2⟩
  · have e1 := q4 z
    have e2 := p4 z
    subst e2
    subst e1
    exact ⟨a, k, n, tp, sl, sn, it, hB, hKB, hC, hM⟩
set_option maxRecDepth 20000 in
theorem lk_copy {h : kx_H} (v : Int32) (i : Int32) (w : Int32) (j1 : Int32) (n1 : Int32) (hI : iv_I h) : lk_P yX8_copy cX8_copy 8 yX9_copy cX9_copy 8 [.int v, .int i, .int w, .int j1, .int n1] h := by
  obtain ⟨a, k, n, tp, sl, sn, it, hB, hKB, hC, hM⟩ := hI
  refine ⟨_, _, sp_copy sl sn v i w j1 n1, by decide, m_X8_copy v i w j1 n1 hC.2.2.2, fun r h1 q => ?_⟩
  obtain ⟨q1, q4, q2, q3⟩ := q
  have M1 := fr_M (g := h1) hM (fun d j _ _ => (by first | exact q3 d j (by omega) | exact q3 d j (by omega) (by omega) | exact q3 d j (by omega) (by omega) (by omega)))
  refine ⟨q1, _, _, by decide, m_X9_copy v i w j1 n1 M1.2.2.2, fun r2 h2 p => ?_⟩
  obtain ⟨p1, p4, p2, p3⟩ := p
  refine ⟨p1, ?_⟩
  by_cases z : sp_copyC sl sn v i w j1 n1
  · have q2 := q2 z
    have p2 := p2 z
    have C1 : iv_C h1 a k n tp sl sn (sp_copyI it v i w j1 n1) := ⟨fr_CH hC.1 (fun d j _ _ => (by first | exact q3 d j (by omega) | exact q3 d j (by omega) (by omega) | exact q3 d j (by omega) (by omega) (by omega))), fr_KC hC.2.1 (by first | exact q3 0 2 (by omega) | exact q3 0 2 (by omega) (by omega)) (fun d j _ _ => (by first | exact q3 d j (by omega) | exact q3 d j (by omega) (by omega) | exact q3 d j (by omega) (by omega) (by omega))), fr_TP hC.2.2.1 (fun d j _ => (by first | exact q3 d j (by omega) | exact q3 d j (by omega) (by omega) | exact q3 d j (by omega) (by omega) (by omega))), q2⟩
    exact ⟨a, k, n, tp, _, _, _, hB, hKB, fr_C C1 (fun d j _ => (by first | exact p3 d j (by omega) | exact p3 d j (by omega) (by omega) | exact p3 d j (by omega) (by omega) (by omega))), fr_MH M1.1 (fun j => (by first | exact p3 128 j (by omega) | exact p3 128 j (by omega) (by omega) | exact p3 128 j (by omega) (by omega) (by omega))), fr_KM M1.2.1 (by first | exact p3 127 2 (by omega) | exact p3 127 2 (by omega) (by omega) | exact p3 127 2 (by omega) (by omega) (by omega)) (fun j => (by first | exact p3 129 j (by omega) | exact p3 129 j (by omega) (by omega) | exact p3 129 j (by omega) (by omega) (by omega))), fr_MT M1.2.2.1 (by first | exact p3 127 4 (by omega) | exact p3 127 4 (by omega) (by omega) | exact p3 127 4 (by omega) (by omega) (by omega)) (fun j => (by first | exact p3 130 j (by omega) | exact p3 130 j (by omega) (by omega) | exact p3 130 j (by omega) (by omega) (by omega))), p2⟩
  · have e1 := q4 z
    have e2 := p4 z
    subst e2
    subst e1
    exact ⟨a, k, n, tp, sl, sn, it, hB, hKB, hC, hM⟩
