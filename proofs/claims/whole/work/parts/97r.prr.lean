/-! what both hold between two calls -/
def fcW (S : zzS) (M M1 : zzM) : Prop := ∀ a, a < S.2.1 → (2 ≤ a ∧ a < 5 ∨ 28 ≤ a) → (∀ j, zzI M1 a j = zzI M a j) ∧ (∀ j, zzR M1 a j = zzR M a j)
def fmW (w : Nat) (M M1 : zzM) : Prop := (∀ k, k < 400 → zzI M1 31 (400 * w + k) = zzI M 31 (400 * w + k)) ∧ (∀ a k, 32 ≤ a → a ≤ 37 → k < 600 → zzI M1 a (600 * w + k) = zzI M a (600 * w + k)) ∧ (∀ k, k < 26 → zzI M1 38 (26 * w + k) = zzI M 38 (26 * w + k)) ∧ (∀ a k, a = 39 ∨ a = 40 → k < 1000 → zzI M1 a (1000 * w + k) = zzI M a (1000 * w + k))
theorem lnT_go {T1 T2 : Nat → Int32} : ∀ {p : Nat}, (∀ i, i < p → T1 i = T2 i) → lnT T1 p = lnT T2 p
  | 0, _ => rfl
  | p + 1, h => by
    unfold lnT
    rw [h p (by omega), lnT_go (fun i hi => h i (by omega))]
theorem stP.gw {S S1 : zzS} {Mc Mm Mc1 Mm1 : zzM} {w s p : Nat} (g : gS S S1) (hc : fcW S Mc Mc1) (hm : fmW w Mm Mm1) (h : stP S Mc Mm w s p) : stP S1 Mc1 Mm1 w s p := by
  obtain ⟨h1, h2, h3, h4, h5, h6⟩ := h
  exact ⟨h1, (g.k h2 h3).1, (g.k h2 h3).2, h4, ((hc s h2 (by omega)).1 1).trans h5, by rw [(hc s h2 (by omega)).1 2, h6, lnT_go (fun i hi => (hm.1 i (by omega)).symm)]⟩
theorem exR.gw {S S1 : zzS} {Mc Mm Mc1 Mm1 : zzM} {w : Nat} {r : Option Nat} {f : Int32} (g : gS S S1) (hc : fcW S Mc Mc1) (hm : fmW w Mm Mm1) (h : exR S Mc Mm w r f) : exR S1 Mc1 Mm1 w r f := by
  obtain ⟨x, fn, cs, h1, h2, h3, h4, h5, h6, h7⟩ := h
  refine ⟨x, fn, cs, h1, h2, h3, h4, ?_, ?_, h7⟩
  · obtain ⟨c1, c2, c3, c4, c5⟩ := h5
    exact ⟨(g.k c1 c2).1, (g.k c1 c2).2, by unfold zzn; rw [g.2.2 x c1]; exact c3, c4, fun k y hk => by rw [(hc x c1 (by omega)).1]; exact c5 k y hk⟩
  · obtain ⟨c1, c2, c3⟩ := h6
    refine ⟨c1, fun k y hk => ?_, ?_⟩
    · have hk2 : k < cs.length := by
        rcases Nat.lt_or_ge k cs.length with h | h
        · exact h
        · rw [List.getElem?_eq_none h] at hk; cases hk
      rw [Nat.add_assoc, hm.2.2.2 39 (fn + k) (by omega) (by omega), hm.2.2.2 40 (fn + k) (by omega) (by omega), ← Nat.add_assoc]
      exact c2 k y hk
    · rw [Nat.add_assoc, hm.2.2.2 39 (fn + cs.length) (by omega) (by omega), ← Nat.add_assoc]
      exact c3
theorem bkP.gw {S S1 : zzS} {b : Nat} (g : gS S S1) (h : bkP S b) : bkP S1 b := ⟨(g.k h.1 h.2.1).1, (g.k h.1 h.2.1).2, h.2.2⟩
theorem cl_n0 {S : zzS} (hS : clS S) {b t : Nat} (h : b < 5 ∨ 28 ≤ b) (hk : zzk S b = t) (ht : t = 4 ∨ t = 11 ∨ t = 12) : 2 ≤ b ∧ b < 5 ∨ 28 ≤ b := by
  have h0 := hS.1 0 (by omega)
  have h1 := hS.1 1 (by omega)
  have e0 : zzk S 0 = 10 := by unfold zzk; rw [h0]; rfl
  have e1 : zzk S 1 = 3 := by unfold zzk; rw [h1]; rfl
  by_cases b0 : b = 0
  · subst b0; omega
  · by_cases b1 : b = 1
    · subst b1; omega
    · omega
theorem psC.gw {P P1 : Nat → Nat → Nat → Prop} {Mc Mc1 : zzM} (hP : ∀ s i j, P s i j → zzR Mc1 s 8 = zzR Mc s 8 ∧ P1 s i j) : ∀ {L : List Nat} {x : Option Nat} {i j : Nat}, psC P Mc L x i j → psC P1 Mc1 L x i j
  | [], _, _, _, h => h
  | s :: L, x, i, j, ⟨h1, k, h2, h3⟩ => ⟨h1, k, (hP _ _ _ h2).2, by
    rw [(hP _ _ _ h2).1]
    exact psC.gw hP h3⟩
theorem psB.gw {S S1 : zzS} {Mc Mm Mc1 Mm1 : zzM} {w : Nat} (hS : clS S) (g : gS S S1) (hc : fcW S Mc Mc1) (hm : fmW w Mm Mm1) : ∀ {d b i j : Nat}, psB S Mc Mm w d b i j → psB S1 Mc1 Mm1 w d b i j
  | 0, _, _, _, h => h
  | d + 1, b, i, j, ⟨h1, h2, L, h3⟩ => ⟨h1.gw g, h2, L, by
    rw [(hc b h1.1 (cl_n0 hS h1.2.2 h1.2.1 (by omega))).2]
    refine psC.gw (fun s i j h => ?_) h3
    have hs := h.st
    refine ⟨(hc s hs.2.1 (by omega)).2 8, ?_⟩
    have hj : j < 600 := h.2.1
    exact psS0.mono h (fun p h => h.gw g hc hm) (fun k f _ h => h.gw g hc hm) (fun b _ h => ⟨h.1.gw g, by rw [(hc b h.1.1 (cl_n0 hS h.1.2.2 h.1.2.1 (by omega))).2]; exact h.2⟩) (fun b k m _ _ _ h => psB.gw hS g hc hm h) (fun b k m h => h.le.1) (fun k _ => (hc s hs.2.1 (by omega)).1 k) (fun k _ => (hc s hs.2.1 (by omega)).2 k) (fun a k h1 h2 _ _ => hm.2.1 a k (by omega) (by omega) (by omega))⟩
theorem fuR.gw {S S1 : zzS} {Mc Mm Mc1 Mm1 : zzM} {w fu : Nat} (hS : clS S) (g : gS S S1) (hc : fcW S Mc Mc1) (hm : fmW w Mm Mm1) (h : fuR S Mc Mm w fu) : fuR S1 Mc1 Mm1 w fu := by
  obtain ⟨h1, h2, h3, h4, h5⟩ := h
  refine ⟨(g.k h1 h2).1, (g.k h1 h2).2, by unfold zzn; rw [g.2.2 fu h1]; exact h3, h4, fun f hf => ?_⟩
  rw [(hc fu h1 (cl_n0 hS h4 h2 (by omega))).2, hm.2.2.1 f hf]
  rcases h5 f hf with h | ⟨s, b, i, j, a1, a2, a3, a4, a5, a6, a7, a8⟩
  · exact Or.inl h
  · have := a7.le
    exact Or.inr ⟨s, b, i, j, a1, a2, (g.k a3 a4).1, (g.k a3 a4).2, by rw [(hc s a3 (by omega)).2]; exact a5, a6, a7.gw hS g hc hm, by rw [odM, hm.2.1 32 j (by omega) (by omega) (by omega)]; exact a8⟩
theorem scR.gw {S S1 : zzS} {Mc Mm Mc1 Mm1 : zzM} {w sc : Nat} (hS : clS S) (g : gS S S1) (hc : fcW S Mc Mc1) (hm : fmW w Mm Mm1) (h : scR S Mc Mm w sc) : scR S1 Mc1 Mm1 w sc := by
  obtain ⟨h1, h2, h3, b, fu, j, a1, a2, a3, a4, a5, a6⟩ := h
  have := a4.le
  have h4 := cl_n0 hS h3 h2 (by omega)
  refine ⟨(g.k h1 h2).1, (g.k h1 h2).2, h3, b, fu, j, by rw [(hc sc h1 h4).2]; exact a1, by rw [(hc sc h1 h4).2]; exact a2, a3.gw g, a4.gw hS g hc hm, by rw [odM, hm.2.1 32 j (by omega) (by omega) (by omega)]; exact a5, ?_⟩
  rw [(hc b a3.1 (cl_n0 hS a3.2.2 a3.2.1 (by omega))).2]
  exact a6.imp id (fun h => h.gw hS g hc hm)
/-- the text -/
def txR (Mc Mm : zzM) (T : Nat → Nat) (N : Nat) : Prop := N ≤ 400 ∧ zzI Mc 0 1 = nI N ∧ zzI Mm 28 1 = nI N ∧ ∀ i, i < N → zzI Mc 1 i = nI (T i) ∧ zzI Mm 29 i = nI (T i) ∧ okc (T i)
/-- the error -/
def erR (S : zzS) (Mc Mm : zzM) (w : Nat) : Prop := zzI Mc 19 9 = zzI Mm 28 46 ∧ zzI Mc 19 11 = zzI Mm 28 48 ∧ ((zzR Mc 19 10 = none ∧ zzI Mm 28 47 = -1) ∨ ∃ s p, zzR Mc 19 10 = some s ∧ zzI Mm 28 47 = nI p ∧ stP S Mc Mm w s p)
/-- the variables -/
def vaR (Mc Mm : zzM) : Prop := (zzI Mc 19 3 = 0 ∨ zzL Mc 17 = zzL Mm 47) ∧ ∀ j, 26 ≤ j → zzL Mc 17 j = zzL Mm 47 j
def puX (S : zzS) (Mc Mm : zzM) (T : Nat → Nat) (N w o ll t sc : Nat) : Prop := dR S Mc Mm w o ll t ∧ vaR Mc Mm ∧ txR Mc Mm T N ∧ zzI Mc 0 2 = zzI Mm 28 32 ∧ zzR Mc 0 4 = some sc ∧ scR S Mc Mm w sc ∧ erR S Mc Mm w
def puRel (S : zzS) (Mc Mm : zzM) : Prop := ∃ T N w o ll t sc, puX S Mc Mm T N w o ll t sc
/-- what is left alone -/
def ncP (S : zzS) (M M1 : zzM) : Prop := (∀ a k, a < S.2.1 → ¬ (a = 0 ∧ (k = 1 ∨ k = 2)) → a ≠ 1 → ¬ (a = 5 ∧ (k = 1 ∨ k = 3)) → a ≠ 16 → a ≠ 23 → a ≠ 26 → a ≠ 27 → zzI M1 a k = zzI M a k) ∧ (∀ a k, a < S.2.1 → a ≠ 6 → a ≠ 7 → a ≠ 18 → a ≠ 62 → zzL M1 a k = zzL M a k) ∧ (∀ a k, a < S.2.1 → ¬ (a = 23 ∧ (k = 0 ∨ k = 5)) → ¬ (a = 27 ∧ k = 3) → zzR M1 a k = zzR M a k)
def nmP (w : Nat) (M M1 : zzM) : Prop := (∀ k, k = 3 ∨ (36 ≤ k ∧ k ≤ 48) → zzI M1 28 k = zzI M 28 k) ∧ (∀ a k, 48 ≤ a → a ≤ 51 → zzI M1 a k = zzI M a k) ∧ fmW w M M1 ∧ zzL M1 28 35 = zzL M 28 35 ∧ (∀ k, zzL M1 47 k = zzL M 47 k) ∧ M1.2.2 = M.2.2
theorem ncP.W {S : zzS} {M M1 : zzM} (h : ncP S M M1) : fcW S M M1 := fun a ha h2 => ⟨fun j => h.1 a j ha (by omega) (by omega) (by omega) (by omega) (by omega) (by omega) (by omega), fun j => h.2.2 a j ha (by omega) (by omega)⟩
theorem ncP.R {S : zzS} {M M1 : zzM} (h : ncP S M M1) (hS : clS S) (hC : clR M) : clR M1 := fun q hq => by
  have hs2 : ∀ q ∈ lwrc, q.1 < 63 ∧ ¬ (q.1 = 23 ∧ (q.2.1 = 0 ∨ q.2.1 = 5)) ∧ ¬ (q.1 = 27 ∧ q.2.1 = 3) := by decide
  have h1 := hs2 q hq
  have := hS.2.2.2
  rw [h.2.2 q.1 q.2.1 (by omega) h1.2.1 h1.2.2]
  exact hC q hq
theorem mdR.to {M M1 : zzM} (h : mdR M) (e : M1.2.2 = M.2.2) : mdR M1 := fun k hk => by
  unfold zzR; rw [e]; exact h k hk
theorem pu_go {S S1 : zzS} {Mc Mm Mc1 Mm1 : zzM} {T T1 : Nat → Nat} {N N1 w o o1 ll ll1 t sc : Nat} (H : puX S Mc Mm T N w o ll t sc) (g : gS S S1) (hc : ncP S Mc Mc1) (hm : nmP w Mm Mm1) (hx : txR Mc1 Mm1 T1 N1) (ho1 : zzI Mc1 5 1 = nI o1) (ho2 : o1 ≤ 12) (ho3 : zzI Mm1 28 28 = nI o1) (hl1 : zzI Mc1 5 3 = nI ll1) (hl2 : ll1 ≤ 20) (hl3 : zzI Mm1 28 30 = nI ll1) (hf : zzL Mc1 6 = zzL Mm1 45) (hp : zzL Mc1 7 = zzL Mm1 46) (ha : zzI Mc1 0 2 = zzI Mm1 28 32) : puX S1 Mc1 Mm1 T1 N1 w o1 ll1 t sc := by
  obtain ⟨⟨⟨c1, c2, c3, c4, c5, c6⟩, ⟨m1, m2, m3, m4, m5⟩, d3, d4, ⟨v1, v2, v3, v4, v5, v6, v7, v8⟩, d6, d7, d8, d9⟩, a2, a3, a4, a5, a6, a7⟩ := H
  have h63 := c1.2.2.2
  have c19 : ∀ k, zzI Mc1 19 k = zzI Mc 19 k := fun k => hc.1 19 k (by omega) (by omega) (by omega) (by omega) (by omega) (by omega) (by omega) (by omega)
  have c20 : zzI Mc1 20 = zzI Mc 20 := funext fun k => hc.1 20 k (by omega) (by omega) (by omega) (by omega) (by omega) (by omega) (by omega) (by omega)
  have c22 : zzI Mc1 22 = zzI Mc 22 := funext fun k => hc.1 22 k (by omega) (by omega) (by omega) (by omega) (by omega) (by omega) (by omega) (by omega)
  have c17 : zzL Mc1 17 = zzL Mc 17 := funext fun k => hc.2.1 17 k (by omega) (by omega) (by omega) (by omega) (by omega)
  have m28 : ∀ k, k = 3 ∨ (36 ≤ k ∧ k ≤ 48) → zzI Mm1 28 k = zzI Mm 28 k := hm.1
  have m48 : zzI Mm1 48 = zzI Mm 48 := funext fun k => hm.2.1 48 k (by omega) (by omega)
  have m50 : zzI Mm1 50 = zzI Mm 50 := funext fun k => hm.2.1 50 k (by omega) (by omega)
  have m51 : zzI Mm1 51 = zzI Mm 51 := funext fun k => hm.2.1 51 k (by omega) (by omega)
  have m47 : zzL Mm1 47 = zzL Mm 47 := funext fun k => hm.2.2.2.2.1 k
  refine ⟨⟨⟨g.cl c1, hc.R c1 c2, ho1, ho2, hl1, hl2⟩, ⟨m1.to hm.2.2.2.2.2, ho3, ho2, hl3, hl2⟩, (m28 3 (by omega)).trans d3, d4, ?_, ?_, (c19 8).trans d7, hm.2.2.2.1.trans d8, d9⟩, ?_, hx, ha, ?_, a6.gw c1 g hc.W hm.2.2.1, ?_⟩
  · unfold vR
    rw [c20, c22, m48, m50, m51, c19 1, c19 5, c19 6, c19 7, m28 36 (by omega), m28 42 (by omega), m28 40 (by omega), m28 44 (by omega)]
    exact ⟨hf, hp, v3, v4, v5, v6, v7, v8⟩
  · obtain ⟨k, b1, b2, b3, b4⟩ := d6
    refine ⟨k, b1, (c19 3).trans b2, (m28 38 (by omega)).trans b3, fun i hi => ?_⟩
    obtain ⟨s, e1, e2, e3, e4, e5⟩ := b4 i hi
    refine ⟨s, ?_, e2, (g.k e3 e4).1, (g.k e3 e4).2, ?_⟩
    · rw [hc.2.2 21 i (by omega) (by omega) (by omega)]; exact e1
    · rw [(hc.W s e3 (by omega)).2 5, hm.2.1 49 i (by omega) (by omega)]
      exact e5.gw g hc.W hm.2.2.1
  · unfold vaR
    rw [c17, m47, c19 3]
    exact a2
  · rw [hc.2.2 0 4 (by omega) (by omega) (by omega)]; exact a5
  · obtain ⟨e1, e2, e3⟩ := a7
    refine ⟨by rw [c19, m28 46 (by omega)]; exact e1, by rw [c19, m28 48 (by omega)]; exact e2, ?_⟩
    rw [hc.2.2 19 10 (by omega) (by omega) (by omega), m28 47 (by omega)]
    rcases e3 with e3 | ⟨s, p, f1, f2, f3⟩
    · exact Or.inl e3
    · exact Or.inr ⟨s, p, f1, f2, f3.gw g hc.W hm.2.2.1⟩
/-- where the data stays as well -/
def ncQ (S : zzS) (M M1 : zzM) : Prop := ncP S M M1 ∧ zzI M1 0 1 = zzI M 0 1 ∧ zzI M1 0 2 = zzI M 0 2 ∧ (∀ k, zzI M1 1 k = zzI M 1 k) ∧ zzI M1 5 1 = zzI M 5 1 ∧ zzI M1 5 3 = zzI M 5 3 ∧ zzL M1 6 = zzL M 6 ∧ zzL M1 7 = zzL M 7
def nmQ (w : Nat) (M M1 : zzM) : Prop := nmP w M M1 ∧ zzI M1 28 1 = zzI M 28 1 ∧ zzI M1 28 32 = zzI M 28 32 ∧ (∀ k, zzI M1 29 k = zzI M 29 k) ∧ zzI M1 28 28 = zzI M 28 28 ∧ zzI M1 28 30 = zzI M 28 30 ∧ zzL M1 45 = zzL M 45 ∧ zzL M1 46 = zzL M 46
theorem pu_neu {S S1 : zzS} {Mc Mm Mc1 Mm1 : zzM} {T : Nat → Nat} {N w o ll t sc : Nat} (H : puX S Mc Mm T N w o ll t sc) (g : gS S S1) (hc : ncQ S Mc Mc1) (hm : nmQ w Mm Mm1) : puX S1 Mc1 Mm1 T N w o ll t sc := by
  obtain ⟨hc, c1, c2, c3, c4, c5, c6, c7⟩ := hc
  obtain ⟨hm, m1, m2, m3, m4, m5, m6, m7⟩ := hm
  have H0 := H
  obtain ⟨⟨⟨_, _, k3, k4, k5, k6⟩, ⟨_, l2, l3, l4, l5⟩, _, _, ⟨v1, v2, _⟩, _⟩, _, ⟨t1, t2, t3, t4⟩, a4, _⟩ := H0
  exact pu_go H g hc hm ⟨t1, c1.trans t2, m1.trans t3, fun i hi => ⟨(c3 i).trans (t4 i hi).1, (m3 i).trans (t4 i hi).2.1, (t4 i hi).2.2⟩⟩ (c4.trans k3) k4 (m4.trans l2) (c5.trans k5) k6 (m5.trans l4) (by rw [c6, m6]; exact v1) (by rw [c7, m7]; exact v2) (by rw [c2, m2]; exact a4)
theorem ncP.rf (S : zzS) (M : zzM) : ncP S M M := ⟨fun _ _ _ _ _ _ _ _ _ _ => rfl, fun _ _ _ _ _ _ _ => rfl, fun _ _ _ _ _ => rfl⟩
theorem fmW.rf (w : Nat) (M : zzM) : fmW w M M := ⟨fun _ _ => rfl, fun _ _ _ _ _ => rfl, fun _ _ => rfl, fun _ _ _ _ => rfl⟩
theorem nmP.rf (w : Nat) (M : zzM) : nmP w M M := ⟨fun _ _ => rfl, fun _ _ _ _ => rfl, fmW.rf w M, rfl, fun _ => rfl, rfl⟩
theorem ncQ.rf (S : zzS) (M : zzM) : ncQ S M M := ⟨ncP.rf S M, rfl, rfl, fun _ => rfl, rfl, rfl, rfl, rfl⟩
theorem nmQ.rf (w : Nat) (M : zzM) : nmQ w M M := ⟨nmP.rf w M, rfl, rfl, fun _ => rfl, rfl, rfl, rfl, rfl⟩
theorem nmP_0 {w : Nat} {M : zzM} {v : Int32} : nmP w M (zzsI M 28 0 v) := ⟨fun k hk => by rw [pI_I, if_pos rfl, if_neg (by omega)], fun a k h1 h2 => by rw [pI_I, if_neg (by omega)], ⟨fun _ _ => by rw [pI_I, if_neg (by omega)], fun a k h1 h2 h3 => by rw [pI_I, if_neg (by omega)], fun _ _ => by rw [pI_I, if_neg (by omega)], fun a k h1 h2 => by rw [pI_I, if_neg (by omega)]⟩, rfl, fun _ => rfl, rfl⟩
theorem nmQ_0 {w : Nat} {M : zzM} {v : Int32} : nmQ w M (zzsI M 28 0 v) := ⟨nmP_0, by rw [pI_I, if_pos rfl, if_neg (by omega)], by rw [pI_I, if_pos rfl, if_neg (by omega)], fun k => by rw [pI_I, if_neg (by omega)], by rw [pI_I, if_pos rfl, if_neg (by omega)], by rw [pI_I, if_pos rfl, if_neg (by omega)], rfl, rfl⟩
theorem ncQ_62 {S : zzS} {M : zzM} {v : Int64} : ncQ S M (zzsL M 62 0 v) := by
  refine ⟨⟨fun _ _ _ _ _ _ _ _ _ _ => rfl, fun a k h1 h2 h3 h4 h5 => by rw [pL_L, if_neg h5], fun _ _ _ _ _ => rfl⟩, rfl, rfl, fun _ => rfl, rfl, rfl, ?_, ?_⟩
  · funext k; rw [pL_L, if_neg (by omega)]
  · funext k; rw [pL_L, if_neg (by omega)]
theorem gS_junk (S : zzS) : gS S (zzjunk S) := ⟨by show S.2.1 ≤ S.2.1 + 1; omega, by show S.2.2 ≤ S.2.2 + 6; omega, fun a ha => by show (if a = S.2.1 then _ else _) = _; rw [if_neg (by omega)]⟩
theorem ncP.tr {S : zzS} {M M1 M2 : zzM} (h : ncP S M M1) (g : ncP S M1 M2) : ncP S M M2 := ⟨fun a k h1 h2 h3 h4 h5 h6 h7 h8 => (g.1 a k h1 h2 h3 h4 h5 h6 h7 h8).trans (h.1 a k h1 h2 h3 h4 h5 h6 h7 h8), fun a k h1 h2 h3 h4 h5 => (g.2.1 a k h1 h2 h3 h4 h5).trans (h.2.1 a k h1 h2 h3 h4 h5), fun a k h1 h2 h3 => (g.2.2 a k h1 h2 h3).trans (h.2.2 a k h1 h2 h3)⟩
theorem fmW.tr {w : Nat} {M M1 M2 : zzM} (h : fmW w M M1) (g : fmW w M1 M2) : fmW w M M2 := ⟨fun k hk => (g.1 k hk).trans (h.1 k hk), fun a k h1 h2 h3 => (g.2.1 a k h1 h2 h3).trans (h.2.1 a k h1 h2 h3), fun k hk => (g.2.2.1 k hk).trans (h.2.2.1 k hk), fun a k h1 h2 => (g.2.2.2 a k h1 h2).trans (h.2.2.2 a k h1 h2)⟩
theorem nmP.tr {w : Nat} {M M1 M2 : zzM} (h : nmP w M M1) (g : nmP w M1 M2) : nmP w M M2 := ⟨fun k hk => (g.1 k hk).trans (h.1 k hk), fun a k h1 h2 => (g.2.1 a k h1 h2).trans (h.2.1 a k h1 h2), h.2.2.1.tr g.2.2.1, g.2.2.2.1.trans h.2.2.2.1, fun k => (g.2.2.2.2.1 k).trans (h.2.2.2.2.1 k), g.2.2.2.2.2.trans h.2.2.2.2.2⟩
