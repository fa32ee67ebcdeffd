/-! the two memories held against each other -/
/-- the line of a place -/
def lnT (T : Nat → Int32) : Nat → Nat
  | 0 => 1
  | p + 1 => lnT T p + (if T p = 10 then 1 else 0)
abbrev odM (M : zzM) (w i : Nat) : Int32 := zzI M 32 (600 * w + i)
abbrev plM (M : zzM) (w i : Nat) : Int32 := zzI M 33 (600 * w + i)
abbrev gvM (M : zzM) (w i : Nat) : Int32 := zzI M 34 (600 * w + i)
abbrev fiM (M : zzM) (w i : Nat) : Int32 := zzI M 35 (600 * w + i)
abbrev seM (M : zzM) (w i : Nat) : Int32 := zzI M 36 (600 * w + i)
abbrev tgM (M : zzM) (w i : Nat) : Int32 := zzI M 37 (600 * w + i)
/-- a statement's cell, of place p -/
def stP (S : zzS) (Mc Mm : zzM) (w s p : Nat) : Prop := 63 ≤ s ∧ s < S.2.1 ∧ zzk S s = 13 ∧ p < 400 ∧ zzI Mc s 1 = nI p ∧ zzI Mc s 2 = nI (lnT (fun i => zzI Mm 31 (400 * w + i)) p)
/-- a block's cell -/
def bkP (S : zzS) (b : Nat) : Prop := b < S.2.1 ∧ zzk S b = 12 ∧ (b < 5 ∨ 28 ≤ b)
/-- an expression in both -/
def exR (S : zzS) (Mc Mm : zzM) (w : Nat) (r : Option Nat) (f : Int32) : Prop := ∃ x fn cs, r = some x ∧ f = nI fn ∧ 63 ≤ x ∧ fn + cs.length < 1000 ∧ caR S Mc x cs ∧ cmR Mm (1000 * w + fn) cs ∧ wfC cs 0
def smp (a o : Int32) : Prop := (a = 33 ∧ o = 4) ∨ (a = 94 ∧ o = 12) ∨ (a = 43 ∧ o = 13) ∨ (a = 38 ∧ o = 14) ∨ (a = 124 ∧ o = 15) ∨ (a = 60 ∧ o = 16)
/-- a statement's cell s against the orders from i to j; what is said of its cell, its expressions, a second block that is left out, its blocks, comes from outside -/
def psS0 (st : Nat → Nat → Prop) (ex : Option Nat → Int32 → Prop) (e0 : Nat → Prop) (B : Nat → Nat → Nat → Prop) (top : Prop) (Mc Mm : zzM) (w s i j : Nat) : Prop := i < j ∧ j < 600 ∧ ∃ p, st s p ∧ plM Mm w i = nI p ∧
  ((∃ a o, smp a o ∧ zzI Mc s 0 = a ∧ odM Mm w i = o ∧ ex (zzR Mc s 5) (seM Mm w i) ∧ j = i + 1)
  ∨ (zzI Mc s 0 = 97 ∧ odM Mm w i = 1 ∧ (∃ v, v < 26 ∧ zzI Mc s 3 = nI v ∧ gvM Mm w i = nI v) ∧ ex (zzR Mc s 5) (seM Mm w i) ∧ j = i + 1)
  ∨ (zzI Mc s 0 = 64 ∧ odM Mm w i = 2 ∧ (∃ v, v < 6 ∧ zzI Mc s 3 = nI v ∧ gvM Mm w i = nI v) ∧ ex (zzR Mc s 4) (fiM Mm w i) ∧ ex (zzR Mc s 5) (seM Mm w i) ∧ j = i + 1)
  ∨ (zzI Mc s 0 = 39 ∧ odM Mm w i = 3 ∧ ex (zzR Mc s 4) (fiM Mm w i) ∧ ex (zzR Mc s 5) (seM Mm w i) ∧ j = i + 1)
  ∨ (zzI Mc s 0 = 65 ∧ odM Mm w i = 18 ∧ (∃ v, v < 26 ∧ zzI Mc s 3 = nI v ∧ gvM Mm w i = nI v) ∧ j = i + 1)
  ∨ (zzI Mc s 0 = 63 ∧ odM Mm w i = 5 ∧ ex (zzR Mc s 5) (seM Mm w i) ∧ ∃ b1 b2 m, zzR Mc s 6 = some b1 ∧ zzR Mc s 7 = some b2 ∧ B b1 (i + 1) m ∧ ((e0 b2 ∧ tgM Mm w i = nI m ∧ j = m) ∨ (odM Mm w m = 17 ∧ tgM Mm w m = nI j ∧ tgM Mm w i = nI (m + 1) ∧ B b2 (m + 1) j ∧ m < j)))
  ∨ (zzI Mc s 0 = 42 ∧ odM Mm w i = 6 ∧ ex (zzR Mc s 5) (seM Mm w i) ∧ ∃ b1 m, zzR Mc s 6 = some b1 ∧ B b1 (i + 1) m ∧ odM Mm w m = 17 ∧ tgM Mm w m = nI i ∧ tgM Mm w i = nI (m + 1) ∧ j = m + 1)
  ∨ (zzI Mc s 0 = 91 ∧ odM Mm w i = 7 ∧ ∃ b1 m, zzR Mc s 6 = some b1 ∧ B b1 (i + 1) m ∧ odM Mm w m = 8 ∧ plM Mm w m = nI p ∧ j = m + 1)
  ∨ (zzI Mc s 0 = 126 ∧ odM Mm w i = 9 ∧ ∃ b1 b2 m m2, zzR Mc s 6 = some b1 ∧ zzR Mc s 7 = some b2 ∧ B b1 (i + 1) m ∧ tgM Mm w i = nI m ∧ odM Mm w m = 10 ∧ plM Mm w m = nI p ∧ B b2 (m + 1) m2 ∧ m < m2 ∧ odM Mm w m2 = 11 ∧ j = m2 + 1)
  ∨ (top ∧ zzI Mc s 0 = 58 ∧ odM Mm w i = 17 ∧ tgM Mm w i = nI j))
def psS (B : Nat → Nat → Nat → Prop) (top : Prop) (S : zzS) (Mc Mm : zzM) (w s i j : Nat) : Prop := psS0 (stP S Mc Mm w) (exR S Mc Mm w) (fun b => bkP S b ∧ zzR Mc b 0 = none) B top Mc Mm w s i j
/-- moved to other memories -/
theorem psS0.mono {st st1 : Nat → Nat → Prop} {ex ex1 : Option Nat → Int32 → Prop} {e0 e01 : Nat → Prop} {B B1 : Nat → Nat → Nat → Prop} {top : Prop} {Mc Mc1 Mm Mm1 : zzM} {w s i j : Nat} (H : psS0 st ex e0 B top Mc Mm w s i j) (hst : ∀ p, st s p → st1 s p) (hex : ∀ k f, k = 4 ∨ k = 5 → ex (zzR Mc s k) f → ex1 (zzR Mc s k) f) (he0 : ∀ b, zzR Mc s 7 = some b → e0 b → e01 b) (hB : ∀ b k m, i < k → m ≤ j → (zzR Mc s 6 = some b ∨ zzR Mc s 7 = some b) → B b k m → B1 b k m) (hBl : ∀ b k m, B b k m → k ≤ m) (hI : ∀ k, k ≠ 8 → zzI Mc1 s k = zzI Mc s k) (hR : ∀ k, k ≠ 8 → zzR Mc1 s k = zzR Mc s k) (hM : ∀ a k, 32 ≤ a → a ≤ 37 → i ≤ k → k < j → zzI Mm1 a (600 * w + k) = zzI Mm a (600 * w + k)) : psS0 st1 ex1 e01 B1 top Mc1 Mm1 w s i j := by
  obtain ⟨h1, h2, p, h3, h4, h5⟩ := H
  have mi : ∀ a, 32 ≤ a → a ≤ 37 → zzI Mm1 a (600 * w + i) = zzI Mm a (600 * w + i) := fun a g1 g2 => hM a i g1 g2 (Nat.le_refl i) h1
  refine ⟨h1, h2, p, hst p h3, by rw [plM, mi 33 (by omega) (by omega)]; exact h4, ?_⟩
  simp only [odM, plM, gvM, fiM, seM, tgM, hI 0 (by omega), hI 3 (by omega), hR 4 (by omega), hR 5 (by omega), hR 6 (by omega), hR 7 (by omega), mi 32 (by omega) (by omega), mi 33 (by omega) (by omega), mi 34 (by omega) (by omega), mi 35 (by omega) (by omega), mi 36 (by omega) (by omega), mi 37 (by omega) (by omega)]
  rcases h5 with ⟨a, o, q1, q2, q3, q4, q5⟩ | ⟨q1, q2, q3, q4, q5⟩ | ⟨q1, q2, q3, q4, q5, q6⟩ | ⟨q1, q2, q3, q4, q5⟩ | ⟨q1, q2, q3, q4⟩ | ⟨q1, q2, q3, b1, b2, m, q4, q5, q6, q7⟩ | ⟨q1, q2, q3, b1, m, q4, q5, q6, q7, q8, q9⟩ | ⟨q1, q2, b1, m, q4, q5, q6, q7, q8⟩ | ⟨q1, q2, b1, b2, m, m2, q4, q5, q6, q7, q8, q9, q10, q11, q12, q13⟩ | q
  · exact Or.inl ⟨a, o, q1, q2, q3, hex 5 _ (Or.inr rfl) q4, q5⟩
  · exact Or.inr (Or.inl ⟨q1, q2, q3, hex 5 _ (Or.inr rfl) q4, q5⟩)
  · exact Or.inr (Or.inr (Or.inl ⟨q1, q2, q3, hex 4 _ (Or.inl rfl) q4, hex 5 _ (Or.inr rfl) q5, q6⟩))
  · exact Or.inr (Or.inr (Or.inr (Or.inl ⟨q1, q2, hex 4 _ (Or.inl rfl) q3, hex 5 _ (Or.inr rfl) q4, q5⟩)))
  · exact Or.inr (Or.inr (Or.inr (Or.inr (Or.inl ⟨q1, q2, q3, q4⟩))))
  · have hle := hBl _ _ _ q6
    refine Or.inr (Or.inr (Or.inr (Or.inr (Or.inr (Or.inl ⟨q1, q2, hex 5 _ (Or.inr rfl) q3, b1, b2, m, q4, q5, ?_, ?_⟩)))))
    · rcases q7 with ⟨z1, z2, z3⟩ | ⟨z1, z2, z3, z4, z5⟩
      · exact hB _ _ _ (by omega) (by omega) (Or.inl q4) q6
      · exact hB _ _ _ (by omega) (by omega) (Or.inl q4) q6
    · rcases q7 with ⟨z1, z2, z3⟩ | ⟨z1, z2, z3, z4, z5⟩
      · exact Or.inl ⟨he0 _ q5 z1, z2, z3⟩
      · have := hBl _ _ _ z4
        rw [hM 32 m (by omega) (by omega) (by omega) (by omega), hM 37 m (by omega) (by omega) (by omega) (by omega)]
        exact Or.inr ⟨z1, z2, z3, hB _ _ _ (by omega) (Nat.le_refl _) (Or.inr q5) z4, z5⟩
  · have hle := hBl _ _ _ q5
    refine Or.inr (Or.inr (Or.inr (Or.inr (Or.inr (Or.inr (Or.inl ⟨q1, q2, hex 5 _ (Or.inr rfl) q3, b1, m, q4, hB _ _ _ (by omega) (by omega) (Or.inl q4) q5, ?_, ?_, q8, q9⟩))))))
    · rw [hM 32 m (by omega) (by omega) (by omega) (by omega)]; exact q6
    · rw [hM 37 m (by omega) (by omega) (by omega) (by omega)]; exact q7
  · have hle := hBl _ _ _ q5
    refine Or.inr (Or.inr (Or.inr (Or.inr (Or.inr (Or.inr (Or.inr (Or.inl ⟨q1, q2, b1, m, q4, hB _ _ _ (by omega) (by omega) (Or.inl q4) q5, ?_, ?_, q8⟩)))))))
    · rw [hM 32 m (by omega) (by omega) (by omega) (by omega)]; exact q6
    · rw [hM 33 m (by omega) (by omega) (by omega) (by omega)]; exact q7
  · have hle := hBl _ _ _ q6
    have hle2 := hBl _ _ _ q10
    refine Or.inr (Or.inr (Or.inr (Or.inr (Or.inr (Or.inr (Or.inr (Or.inr (Or.inl ⟨q1, q2, b1, b2, m, m2, q4, q5, hB _ _ _ (by omega) (by omega) (Or.inl q4) q6, q7, ?_, ?_, hB _ _ _ (by omega) (by omega) (Or.inr q5) q10, q11, ?_, q13⟩))))))))
    · rw [hM 32 m (by omega) (by omega) (by omega) (by omega)]; exact q8
    · rw [hM 33 m (by omega) (by omega) (by omega) (by omega)]; exact q9
    · rw [hM 32 m2 (by omega) (by omega) (by omega) (by omega)]; exact q12
  · exact Or.inr (Or.inr (Or.inr (Or.inr (Or.inr (Or.inr (Or.inr (Or.inr (Or.inr q))))))))
/-- a chain of statements -/
def psC (P : Nat → Nat → Nat → Prop) (Mc : zzM) : List Nat → Option Nat → Nat → Nat → Prop
  | [], x, i, j => x = none ∧ i = j
  | s :: L, x, i, j => x = some s ∧ ∃ k, P s i k ∧ psC P Mc L (zzR Mc s 8) k j
def psB (S : zzS) (Mc Mm : zzM) (w : Nat) : Nat → Nat → Nat → Nat → Prop
  | 0 => fun _ _ _ => False
  | d + 1 => fun b i j => bkP S b ∧ j < 600 ∧ ∃ L, psC (psS (psB S Mc Mm w d) (d = 2) S Mc Mm w) Mc L (zzR Mc b 0) i j
/-- the functions -/
def fuR (S : zzS) (Mc Mm : zzM) (w fu : Nat) : Prop := fu < S.2.1 ∧ zzk S fu = 4 ∧ zzn S fu = 26 ∧ (fu < 5 ∨ 28 ≤ fu) ∧ ∀ f, f < 26 → (zzR Mc fu f = none ∧ zzI Mm 38 (26 * w + f) = -1) ∨ ∃ s b i j, zzR Mc fu f = some s ∧ 63 ≤ s ∧ s < S.2.1 ∧ zzk S s = 13 ∧ zzR Mc s 6 = some b ∧ zzI Mm 38 (26 * w + f) = nI i ∧ psB S Mc Mm w 2 b i j ∧ odM Mm w j = 19
/-- the script -/
def scR (S : zzS) (Mc Mm : zzM) (w sc : Nat) : Prop := sc < S.2.1 ∧ zzk S sc = 11 ∧ (sc < 5 ∨ 28 ≤ sc) ∧ ∃ b fu j, zzR Mc sc 0 = some b ∧ zzR Mc sc 1 = some fu ∧ bkP S b ∧ psB S Mc Mm w 3 b 0 j ∧ odM Mm w j = 20 ∧ ((zzR Mc b 0 = none ∧ j = 0) ∨ fuR S Mc Mm w fu)
/-! frames -/
def fcC (M M1 : zzM) : Prop := ∀ a, (a < 5 ∨ 28 ≤ a) → (∀ j, zzI M1 a j = zzI M a j) ∧ (∀ j, zzR M1 a j = zzR M a j)
def fmC (M M1 : zzM) : Prop := (∀ a, 29 ≤ a → a ≤ 40 → ∀ j, zzI M1 a j = zzI M a j) ∧ (∀ k, k < 4 ∨ k = 32 ∨ (46 ≤ k ∧ k ≤ 48) → zzI M1 28 k = zzI M 28 k) ∧ zzL M1 28 34 = zzL M 28 34
theorem fcC.rf (M : zzM) : fcC M M := fun _ _ => ⟨fun _ => rfl, fun _ => rfl⟩
theorem fcC.tr {M M1 M2 : zzM} (h : fcC M M1) (h2 : fcC M1 M2) : fcC M M2 := fun a ha => ⟨fun j => ((h2 a ha).1 j).trans ((h a ha).1 j), fun j => ((h2 a ha).2 j).trans ((h a ha).2 j)⟩
theorem fmC.rf (M : zzM) : fmC M M := ⟨fun _ _ _ _ => rfl, fun _ _ => rfl, rfl⟩
theorem fmC.tr {M M1 M2 : zzM} (h : fmC M M1) (h2 : fmC M1 M2) : fmC M M2 := ⟨fun a h3 h4 j => (h2.1 a h3 h4 j).trans (h.1 a h3 h4 j), fun k hk => (h2.2.1 k hk).trans (h.2.1 k hk), h2.2.2.trans h.2.2⟩
theorem fcC_K {M M1 : zzM} (h : frK M M1) : fcC M M1 := fun a ha => ⟨fun j => h.1 a j (by omega), fun j => by unfold zzR; rw [h.2.2]⟩
theorem fmC_A {M M1 : zzM} (h : frA M M1) : fmC M M1 := ⟨fun a h1 h2 j => h.1 a j (by omega), fun k hk => h.1 28 k (by omega), h.2.1 28 34 (by omega) (by omega)⟩
theorem stP.go {S : zzS} {Mc Mm Mc1 Mm1 : zzM} {w s p : Nat} (h : stP S Mc Mm w s p) (hc : fcC Mc Mc1) (hm : fmC Mm Mm1) : stP S Mc1 Mm1 w s p := by
  obtain ⟨h1, h2, h3, h4, h5, h6⟩ := h
  have e : (fun i => zzI Mm1 31 (400 * w + i)) = (fun i => zzI Mm 31 (400 * w + i)) := funext fun i => hm.1 31 (by omega) (by omega) _
  exact ⟨h1, h2, h3, h4, ((hc s (by omega)).1 1).trans h5, by rw [e, (hc s (by omega)).1 2]; exact h6⟩
theorem cmR.go {M M1 : zzM} {k : Nat} {cs : List (Int32 × Int32)} (h : cmR M k cs) (hf : fmC M M1) : cmR M1 k cs := ⟨h.1, fun i q hq => by rw [hf.1 39 (by omega) (by omega), hf.1 40 (by omega) (by omega)]; exact h.2.1 i q hq, by rw [hf.1 39 (by omega) (by omega)]; exact h.2.2⟩
theorem exR.go {S : zzS} {Mc Mm Mc1 Mm1 : zzM} {w : Nat} {r : Option Nat} {f : Int32} (h : exR S Mc Mm w r f) (hc : fcC Mc Mc1) (hm : fmC Mm Mm1) : exR S Mc1 Mm1 w r f := by
  obtain ⟨x, fn, cs, h1, h2, h3, h4, h5, h6, h7⟩ := h
  exact ⟨x, fn, cs, h1, h2, h3, h4, h5.go (fun i _ => (hc x (by omega)).1 i), h6.go hm, h7⟩
theorem psS.go {B B1 : Nat → Nat → Nat → Prop} {top : Prop} {S : zzS} {Mc Mm Mc1 Mm1 : zzM} {w s i j : Nat} (hc : fcC Mc Mc1) (hm : fmC Mm Mm1) (hB : ∀ b i j, B b i j → B1 b i j) (hBl : ∀ b i j, B b i j → i ≤ j) (h : psS B top S Mc Mm w s i j) : psS B1 top S Mc1 Mm1 w s i j := by
  have hs : s < 5 ∨ 28 ≤ s := Or.inr (by have := h.2.2.choose_spec.1.1; omega)
  exact psS0.mono h (fun p h => h.go hc hm) (fun k f _ h => h.go hc hm) (fun b _ h => ⟨h.1, by rw [(hc b h.1.2.2).2]; exact h.2⟩) (fun b k m _ _ _ h => hB b k m h) hBl (fun k _ => (hc s hs).1 k) (fun k _ => (hc s hs).2 k) (fun a k h1 h2 _ _ => hm.1 a (by omega) (by omega) _)
theorem psS.st {B : Nat → Nat → Nat → Prop} {top : Prop} {S : zzS} {Mc Mm : zzM} {w s i j : Nat} (h : psS B top S Mc Mm w s i j) : 63 ≤ s ∧ s < S.2.1 ∧ zzk S s = 13 ∧ i < j := ⟨h.2.2.choose_spec.1.1, h.2.2.choose_spec.1.2.1, h.2.2.choose_spec.1.2.2.1, h.1⟩
theorem psC.go {P P1 : Nat → Nat → Nat → Prop} {Mc Mc1 : zzM} (hc : fcC Mc Mc1) (hP : ∀ s i j, P s i j → 63 ≤ s ∧ P1 s i j) : ∀ {L : List Nat} {x : Option Nat} {i j : Nat}, psC P Mc L x i j → psC P1 Mc1 L x i j
  | [], _, _, _, h => h
  | s :: L, x, i, j, ⟨h1, k, h2, h3⟩ => ⟨h1, k, (hP _ _ _ h2).2, by
    rw [(hc s (by have := (hP _ _ _ h2).1; omega)).2]
    exact psC.go hc hP h3⟩
theorem psC.le {P : Nat → Nat → Nat → Prop} {Mc : zzM} (hP : ∀ s i j, P s i j → i < j) : ∀ {L : List Nat} {x : Option Nat} {i j : Nat}, psC P Mc L x i j → i + L.length ≤ j
  | [], _, _, _, h => by simp [h.2]
  | s :: L, x, i, j, ⟨h1, k, h2, h3⟩ => by
    have := psC.le hP h3
    have := hP _ _ _ h2
    simp only [List.length_cons]
    omega
theorem psB.le {S : zzS} {Mc Mm : zzM} {w : Nat} : ∀ {d b i j : Nat}, psB S Mc Mm w d b i j → i ≤ j ∧ j < 600
  | d + 1, b, i, j, ⟨h1, h2, L, h3⟩ => ⟨by have := psC.le (fun s i j h => h.st.2.2.2) h3; omega, h2⟩
theorem psB.go {S : zzS} {Mc Mm Mc1 Mm1 : zzM} {w : Nat} (hc : fcC Mc Mc1) (hm : fmC Mm Mm1) : ∀ {d b i j : Nat}, psB S Mc Mm w d b i j → psB S Mc1 Mm1 w d b i j
  | 0, _, _, _, h => h
  | d + 1, b, i, j, ⟨h1, h2, L, h3⟩ => ⟨h1, h2, L, by
    rw [(hc b h1.2.2).2]
    exact psC.go hc (fun s i j h => ⟨h.st.1, h.go hc hm (fun b i j h => psB.go hc hm h) (fun b i j h => h.le.1)⟩) h3⟩
theorem fuR.go {S : zzS} {Mc Mm Mc1 Mm1 : zzM} {w fu : Nat} (hc : fcC Mc Mc1) (hm : fmC Mm Mm1) (h : fuR S Mc Mm w fu) : fuR S Mc1 Mm1 w fu := by
  obtain ⟨h1, h2, h3, h4, h5⟩ := h
  refine ⟨h1, h2, h3, h4, fun f hf => ?_⟩
  rw [(hc fu h4).2, hm.1 38 (by omega) (by omega)]
  rcases h5 f hf with h | ⟨s, b, i, j, a1, a2, a3, a4, a5, a6, a7, a8⟩
  · exact Or.inl h
  · exact Or.inr ⟨s, b, i, j, a1, a2, a3, a4, by rw [(hc s (by omega)).2]; exact a5, a6, a7.go hc hm, by rw [odM, hm.1 32 (by omega) (by omega)]; exact a8⟩
theorem scR.go {S : zzS} {Mc Mm Mc1 Mm1 : zzM} {w sc : Nat} (hc : fcC Mc Mc1) (hm : fmC Mm Mm1) (h : scR S Mc Mm w sc) : scR S Mc1 Mm1 w sc := by
  obtain ⟨h1, h2, h3, b, fu, j, a1, a2, a3, a4, a5, a6⟩ := h
  refine ⟨h1, h2, h3, b, fu, j, by rw [(hc sc h3).2]; exact a1, by rw [(hc sc h3).2]; exact a2, a3, a4.go hc hm, by rw [odM, hm.1 32 (by omega) (by omega)]; exact a5, ?_⟩
  rw [(hc b a3.2.2).2]
  exact a6.imp id (fun h => h.go hc hm)
/-! the data -/
def fnR (bits n : Int32) (q : Nat → Int32) : Prop := ∃ L : List Nat, L = (List.range 12).filter (fun o => (bits >>> (nI o &&& 31)) &&& 1 = 1) ∧ n = nI L.length ∧ ∀ i o, L[i]? = some o → q i = nI o
def vR (Mc Mm : zzM) : Prop := zzL Mc 6 = zzL Mm 45 ∧ zzL Mc 7 = zzL Mm 46 ∧ (∃ k, k ≤ 40 ∧ zzI Mc 19 1 = nI k ∧ zzI Mm 28 36 = nI k) ∧ zzI Mc 20 = zzI Mm 48 ∧ (∃ k, k ≤ 20 ∧ zzI Mc 19 5 = nI k ∧ zzI Mm 28 42 = nI k) ∧ zzI Mc 22 = zzI Mm 51 ∧ fnR (zzI Mc 19 6) (zzI Mm 28 40) (zzI Mm 50) ∧ zzI Mc 19 7 = zzI Mm 28 44 ∧ zzokZ (zzI Mc 19 7) = true
def ruR (S : zzS) (Mc Mm : zzM) (w : Nat) : Prop := ∃ k, k ≤ 8 ∧ zzI Mc 19 3 = nI k ∧ zzI Mm 28 38 = nI k ∧ ∀ i, i < k → ∃ s, zzR Mc 21 i = some s ∧ 63 ≤ s ∧ s < S.2.1 ∧ zzk S s = 13 ∧ exR S Mc Mm w (zzR Mc s 5) (zzI Mm 49 i)
/-- the data of both, with o objects, a list of ll, t steps taken, the reference's script w -/
def dR (S : zzS) (Mc Mm : zzM) (w o ll t : Nat) : Prop := cK S Mc o ll ∧ mK Mm o ll ∧ zzI Mm 28 3 = nI w ∧ w ≤ 1 ∧ vR Mc Mm ∧ ruR S Mc Mm w ∧ zzI Mc 19 8 = nI t ∧ zzL Mm 28 35 = lN t ∧ t ≤ 300
