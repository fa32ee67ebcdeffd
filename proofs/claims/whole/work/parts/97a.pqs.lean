/-! reading statements: the relation while the script grows -/
def stQ (S : zzS) (Mc : zzM) (T : Nat → Nat) (N s p : Nat) : Prop := 63 ≤ s ∧ s < S.2.1 ∧ zzk S s = 13 ∧ p < N ∧ zzI Mc s 1 = nI p ∧ zzI Mc s 2 = nI (lnT (fun i => nI (T i)) p)
def exQ (S : zzS) (Mc Mm : zzM) (w q lo hi : Nat) (r : Option Nat) (f : Int32) : Prop := ∃ x fn cs, r = some x ∧ f = nI fn ∧ lo ≤ x ∧ x < hi ∧ 63 ≤ x ∧ fn < 1000 ∧ fn + cs.length < q ∧ caR S Mc x cs ∧ cmR Mm (1000 * w + fn) cs ∧ wfC cs 0
def e0Q (S : zzS) (Mc : zzM) (lo hi b : Nat) : Prop := lo ≤ b ∧ b < hi ∧ bkP S b ∧ zzR Mc b 0 = none
def qS (B : Nat → Nat → Nat → Nat → Nat → Prop) (top : Prop) (S : zzS) (Mc Mm : zzM) (w : Nat) (T : Nat → Nat) (N q h s i j : Nat) : Prop := s < h ∧ psS0 (stQ S Mc T N) (exQ S Mc Mm w q (s + 1) h) (e0Q S Mc (s + 1) h) (B (s + 1) h) top Mc Mm w s i j
def qC (P : Nat → Nat → Nat → Nat → Prop) (Mc : zzM) : List Nat → Nat → Nat → Option Nat → Nat → Nat → Prop
  | [], lo, hi, x, i, j => x = none ∧ i = j ∧ lo ≤ hi
  | s :: L, lo, hi, x, i, j => x = some s ∧ lo ≤ s ∧ ∃ h k, h ≤ hi ∧ P h s i k ∧ qC P Mc L h hi (zzR Mc s 8) k j
def qB (S : zzS) (Mc Mm : zzM) (w : Nat) (T : Nat → Nat) (N q : Nat) : Nat → Nat → Nat → Nat → Nat → Nat → Prop
  | 0 => fun _ _ _ _ _ => False
  | d + 1 => fun lo hi b i j => lo ≤ b ∧ b < hi ∧ bkP S b ∧ j < 600 ∧ ∃ L, qC (qS (qB S Mc Mm w T N q d) (d = 2) S Mc Mm w T N q) Mc L lo hi (zzR Mc b 0) i j
def agC (lo hi : Nat) (S S1 : zzS) (M M1 : zzM) : Prop := S.2.1 ≤ S1.2.1 ∧ ∀ a, lo ≤ a → a < hi → S1.1 a = S.1 a ∧ (∀ k, zzI M1 a k = zzI M a k) ∧ (∀ k, zzR M1 a k = zzR M a k)
def agM (w q i j : Nat) (M M1 : zzM) : Prop := (∀ a k, 32 ≤ a → a ≤ 37 → i ≤ k → k < j → zzI M1 a (600 * w + k) = zzI M a (600 * w + k)) ∧ (∀ a k, a = 39 ∨ a = 40 → k < q → zzI M1 a (1000 * w + k) = zzI M a (1000 * w + k))
theorem agC.mo {lo hi lo2 hi2 : Nat} {S S1 : zzS} {M M1 : zzM} (h : agC lo hi S S1 M M1) (h1 : lo ≤ lo2) (h2 : hi2 ≤ hi) : agC lo2 hi2 S S1 M M1 := ⟨h.1, fun a g1 g2 => h.2 a (by omega) (by omega)⟩
theorem agM.mo {w q i j i2 j2 : Nat} {M M1 : zzM} (h : agM w q i j M M1) (h1 : i ≤ i2) (h2 : j2 ≤ j) : agM w q i2 j2 M M1 := ⟨fun a k g1 g2 g3 g4 => h.1 a k g1 g2 (by omega) (by omega), h.2⟩
theorem bkP.go {S S1 : zzS} {b : Nat} (h : bkP S b) (h1 : S.2.1 ≤ S1.2.1) (h2 : S1.1 b = S.1 b) : bkP S1 b := ⟨by have := h.1; omega, by unfold zzk; rw [h2]; exact h.2.1, h.2.2⟩
theorem exQ.go {S S1 : zzS} {Mc Mc1 Mm Mm1 : zzM} {w q q1 lo hi i j : Nat} {r : Option Nat} {f : Int32} (h : exQ S Mc Mm w q lo hi r f) (hc : agC lo hi S S1 Mc Mc1) (hm : agM w q i j Mm Mm1) (hq : q ≤ q1) : exQ S1 Mc1 Mm1 w q1 lo hi r f := by
  obtain ⟨x, fn, cs, h1, h2, h3, h4, h5, h6, h7, h8, h9, h10⟩ := h
  obtain ⟨g1, g2, g3⟩ := hc.2 x h3 h4
  refine ⟨x, fn, cs, h1, h2, h3, h4, h5, h6, by omega, ?_, ?_, h10⟩
  · obtain ⟨c1, c2, c3, c4, c5⟩ := h8
    have := hc.1
    exact ⟨by omega, by unfold zzk; rw [g1]; exact c2, by unfold zzn; rw [g1]; exact c3, c4, fun k y hk => by rw [g2]; exact c5 k y hk⟩
  · obtain ⟨c1, c2, c3⟩ := h9
    refine ⟨c1, fun k y hk => ?_, ?_⟩
    · have hk2 : k < cs.length := by
        rcases Nat.lt_or_ge k cs.length with h | h
        · exact h
        · rw [List.getElem?_eq_none h] at hk; cases hk
      rw [Nat.add_assoc, hm.2 39 (fn + k) (by omega) (by omega), hm.2 40 (fn + k) (by omega) (by omega), ← Nat.add_assoc]
      exact c2 k y hk
    · rw [Nat.add_assoc, hm.2 39 (fn + cs.length) (by omega) (by omega), ← Nat.add_assoc]
      exact c3
theorem qC.le {P : Nat → Nat → Nat → Nat → Prop} {Mc : zzM} (hP : ∀ h s i j, P h s i j → i < j ∧ s < h) : ∀ {L : List Nat} {lo hi : Nat} {x : Option Nat} {i j : Nat}, qC P Mc L lo hi x i j → i + L.length ≤ j ∧ lo ≤ hi
  | [], _, _, _, _, _, h => ⟨by simp [h.2.1], h.2.2⟩
  | s :: L, lo, hi, x, i, j, ⟨h1, h2, h, k, h3, h4, h5⟩ => by
    have := qC.le hP h5
    have := hP _ _ _ _ h4
    simp only [List.length_cons]
    omega
theorem qS.lt {B : Nat → Nat → Nat → Nat → Nat → Prop} {top : Prop} {S : zzS} {Mc Mm : zzM} {w : Nat} {T : Nat → Nat} {N q h s i j : Nat} (H : qS B top S Mc Mm w T N q h s i j) : i < j ∧ s < h := ⟨H.2.1, H.1⟩
theorem qB.le {S : zzS} {Mc Mm : zzM} {w : Nat} {T : Nat → Nat} {N q : Nat} : ∀ {d lo hi b i j : Nat}, qB S Mc Mm w T N q d lo hi b i j → i ≤ j ∧ j < 600 ∧ 1 ≤ d
  | d + 1, lo, hi, b, i, j, ⟨h1, h2, h3, h4, L, h5⟩ => by
    have := qC.le (fun h s i j H => qS.lt H) h5
    exact ⟨by omega, h4, by omega⟩
theorem qC.go {P P1 : Nat → Nat → Nat → Nat → Prop} {Mc Mc1 : zzM} {i0 j0 : Nat} (hP : ∀ h s i j, P h s i j → i < j ∧ s < h) : ∀ {L : List Nat} {lo hi : Nat} {x : Option Nat} {i j : Nat}, (∀ h s i j, lo ≤ s → h ≤ hi → i0 ≤ i → j ≤ j0 → P h s i j → P1 h s i j) → (∀ a, lo ≤ a → a < hi → ∀ k, zzR Mc1 a k = zzR Mc a k) → i0 ≤ i → j ≤ j0 → qC P Mc L lo hi x i j → qC P1 Mc1 L lo hi x i j
  | [], _, _, _, _, _, _, _, _, _, h => h
  | s :: L, lo, hi, x, i, j, hg, hr, hi0, hj0, ⟨h1, h2, h, k, h3, h4, h5⟩ => by
    have hl := qC.le hP h5
    have hp := hP _ _ _ _ h4
    refine ⟨h1, h2, h, k, h3, hg h s i k h2 h3 hi0 (by omega) h4, ?_⟩
    rw [hr s h2 (by omega) 8]
    exact qC.go hP (fun h' s' i' j' g1 g2 g3 g4 => hg h' s' i' j' (by omega) g2 g3 g4) (fun a g1 g2 => hr a (by omega) g2) (by omega) hj0 h5
theorem qS.go {d : Nat} {B B1 : Nat → Nat → Nat → Nat → Nat → Prop} {top : Prop} {S S1 : zzS} {Mc Mc1 Mm Mm1 : zzM} {w : Nat} {T : Nat → Nat} {N q q1 h s i j : Nat} (H : qS B top S Mc Mm w T N q h s i j) (hB : ∀ b k m, i < k → m ≤ j → B (s + 1) h b k m → B1 (s + 1) h b k m) (hBl : ∀ b k m, B (s + 1) h b k m → k ≤ m) (hc : agC (s + 1) h S S1 Mc Mc1) (hsk : S1.1 s = S.1 s) (hsI : ∀ k, k ≠ 8 → zzI Mc1 s k = zzI Mc s k) (hsR : ∀ k, k ≠ 8 → zzR Mc1 s k = zzR Mc s k) (hm : agM w q i j Mm Mm1) (hq : q ≤ q1) : qS B1 top S1 Mc1 Mm1 w T N q1 h s i j := by
  refine ⟨H.1, psS0.mono H.2 (fun p h => ?_) (fun k f _ h => h.go hc hm hq) (fun b _ h => ?_) (fun b k m g1 g2 _ g3 => hB b k m g1 g2 g3) hBl hsI hsR hm.1⟩
  · obtain ⟨h1, h2, h3, h4, h5, h6⟩ := h
    have := hc.1
    exact ⟨h1, by omega, by unfold zzk; rw [hsk]; exact h3, h4, (hsI 1 (by omega)).trans h5, (hsI 2 (by omega)).trans h6⟩
  · obtain ⟨h1, h2, h3, h4⟩ := h
    obtain ⟨g1, g2, g3⟩ := hc.2 b h1 h2
    exact ⟨h1, h2, h3.go hc.1 g1, (g3 0).trans h4⟩
theorem qB.go {S S1 : zzS} {Mc Mc1 Mm Mm1 : zzM} {w : Nat} {T : Nat → Nat} {N q q1 : Nat} (hq : q ≤ q1) : ∀ {d lo hi b i j : Nat}, agC lo hi S S1 Mc Mc1 → agM w q i j Mm Mm1 → qB S Mc Mm w T N q d lo hi b i j → qB S1 Mc1 Mm1 w T N q1 d lo hi b i j
  | 0, _, _, _, _, _, _, _, h => h
  | d + 1, lo, hi, b, i, j, hc, hm, ⟨h1, h2, h3, h4, L, h5⟩ => by
    obtain ⟨g1, g2, g3⟩ := hc.2 b h1 h2
    refine ⟨h1, h2, h3.go hc.1 g1, h4, L, ?_⟩
    rw [g3 0]
    refine qC.go (i0 := i) (j0 := j) (fun h s i j H => qS.lt H) (fun h s i2 j2 k1 k2 k3 k4 H => ?_) (fun a k1 k2 k => (hc.2 a k1 k2).2.2 k) (Nat.le_refl i) (Nat.le_refl j) h5
    have hs := qS.lt H
    obtain ⟨e1, e2, e3⟩ := hc.2 s k1 (by omega)
    exact qS.go (d := d) H (fun b' k m l1 l2 l3 => qB.go hq (hc.mo (by omega) (by omega)) (hm.mo (by omega) (by omega)) l3) (fun b' k m l3 => l3.le.1) (hc.mo (by omega) (by omega)) e1 (fun k _ => e2 k) (fun k _ => e3 k) (hm.mo k3 k4) hq
/-- a statement more -/
theorem qC.app {P P1 : Nat → Nat → Nat → Nat → Prop} {Mc Mc1 : zzM} {hi hi1 s2 j j2 h2 : Nat} (hP : ∀ h s i j, P h s i j → i < j ∧ s < h) (h1 : hi ≤ s2) (h3 : h2 ≤ hi1) (hN : P1 h2 s2 j j2) (hn : zzR Mc1 s2 8 = none) (hs2 : s2 < h2) : ∀ {L : List Nat} {lo : Nat} {x : Option Nat} {i : Nat}, (∀ h s i' j', lo ≤ s → h ≤ hi → j' ≤ j → P h s i' j' → (∀ a, s + 1 ≤ a → a < h → ∀ k, zzR Mc1 a k = zzR Mc a k) → (∀ k, k ≠ 8 → zzR Mc1 s k = zzR Mc s k) → P1 h s i' j') → (∀ a, lo ≤ a → a < hi → ∀ k, ¬ (L.getLast? = some a ∧ k = 8) → zzR Mc1 a k = zzR Mc a k) → (∀ a, L.getLast? = some a → zzR Mc1 a 8 = some s2) → qC P Mc L lo hi x i j → qC P1 Mc1 (L ++ [s2]) lo hi1 (if L = [] then some s2 else x) i j2
  | [], lo, x, i, _, _, _, ⟨g1, g2, g3⟩ => by
    subst g2
    exact ⟨by simp, by omega, h2, j2, h3, hN, hn, rfl, by omega⟩
  | s :: L, lo, x, i, ht, hr, hl, ⟨g1, g2, h, k, g3, g4, g5⟩ => by
    have hp := hP _ _ _ _ g4
    have hle := qC.le hP g5
    rw [if_neg (by simp)]
    cases L with
    | nil =>
      obtain ⟨e1, e2, e3⟩ := g5
      subst e2
      have hls : zzR Mc1 s 8 = some s2 := hl s (by simp)
      refine ⟨g1, g2, h, k, by omega, ht h s i k g2 g3 (by omega) g4 (fun a a1 a2 k' => hr a (by omega) (by omega) k' (by simp; omega)) (fun k' hk' => hr s g2 (by omega) k' (by simp [hk'])), ?_⟩
      rw [hls]
      exact ⟨rfl, by omega, h2, j2, h3, hN, hn, rfl, by omega⟩
    | cons s' L' =>
      have hlast : ∀ a, (s :: s' :: L').getLast? = some a ↔ (s' :: L').getLast? = some a := fun a => by simp
      have hge : ∀ a, (s' :: L').getLast? = some a → h ≤ a := by
        have key : ∀ (L : List Nat) (lo hi : Nat) (x : Option Nat) (i j : Nat), qC P Mc L lo hi x i j → ∀ a, L.getLast? = some a → lo ≤ a := by
          intro L
          induction L with
          | nil => intro lo hi x i j _ a ha; simp at ha
          | cons y L ih =>
            intro lo hi x i j hq a ha
            obtain ⟨b1, b2, hh, kk, b3, b4, b5⟩ := hq
            have hpp := hP _ _ _ _ b4
            cases L with
            | nil => simp at ha; omega
            | cons z L =>
              have := ih hh hi _ kk j b5 a (by simpa using ha)
              omega
        exact key _ _ _ _ _ _ g5
      have h8 : zzR Mc1 s 8 = zzR Mc s 8 := hr s g2 (by omega) 8 (fun hh => by
        have := hge s ((hlast s).mp hh.1)
        omega)
      refine ⟨g1, g2, h, k, by omega, ht h s i k g2 g3 (by omega) g4 (fun a a1 a2 k' => hr a (by omega) (by omega) k' (fun hh => by
        have := hge a ((hlast a).mp hh.1)
        omega)) (fun k' hk' => hr s g2 (by omega) k' (fun hh => hk' hh.2)), ?_⟩
      rw [h8]
      have := qC.app hP h1 h3 hN hn hs2 (L := s' :: L') (lo := h) (x := zzR Mc s 8) (i := k) (fun h' s'' i' j' a1 a2 a3 a4 a5 a6 => ht h' s'' i' j' (by omega) a2 a3 a4 a5 a6) (fun a a1 a2 k' hh => hr a (by omega) a2 k' (fun hh2 => hh ⟨(hlast a).mp hh2.1, hh2.2⟩)) (fun a ha => hl a ((hlast a).mpr ha)) g5
      rw [if_neg (by simp)] at this
      exact this
/-! to the relation of a walk -/
theorem lnT_eq {f g : Nat → Int32} : ∀ {p : Nat}, (∀ i, i < p → f i = g i) → lnT f p = lnT g p
  | 0, _ => rfl
  | p + 1, h => by
    unfold lnT
    rw [h p (by omega), lnT_eq (fun i hi => h i (by omega))]
theorem qB.ps {S : zzS} {Mc Mm : zzM} {w : Nat} {T : Nat → Nat} {N q : Nat} (hN : N ≤ 400) (hq : q ≤ 1000) (hT : ∀ i, i < N → zzI Mm 31 (400 * w + i) = nI (T i)) : ∀ {d lo hi b i j : Nat}, qB S Mc Mm w T N q d lo hi b i j → psB S Mc Mm w d b i j
  | d + 1, lo, hi, b, i, j, ⟨h1, h2, h3, h4, L, h5⟩ => by
    refine ⟨h3, h4, L, ?_⟩
    have key : ∀ (L : List Nat) (lo hi : Nat) (x : Option Nat) (i j : Nat), qC (qS (qB S Mc Mm w T N q d) (d = 2) S Mc Mm w T N q) Mc L lo hi x i j → psC (psS (psB S Mc Mm w d) (d = 2) S Mc Mm w) Mc L x i j := by
      intro L
      induction L with
      | nil => intro lo hi x i j h; exact ⟨h.1, h.2.1⟩
      | cons s L ih =>
        intro lo hi x i j ⟨g1, g2, h, k, g3, g4, g5⟩
        refine ⟨g1, k, ?_, ih _ _ _ _ _ g5⟩
        refine psS0.mono g4.2 (fun p hp => ?_) (fun k f _ he => ?_) (fun b _ hb => ⟨hb.2.2.1, hb.2.2.2⟩) (fun b k m _ _ _ hb => qB.ps hN hq hT hb) (fun b k m hb => hb.le.1) (fun _ _ => rfl) (fun _ _ => rfl) (fun _ _ _ _ _ _ => rfl)
        · obtain ⟨a1, a2, a3, a4, a5, a6⟩ := hp
          exact ⟨a1, a2, a3, by omega, a5, by rw [a6, lnT_eq (fun i hi => (hT i (by omega)).symm)]⟩
        · obtain ⟨x, fn, cs, a1, a2, a3, a4, a5, a6, a7, a8, a9, a10⟩ := he
          exact ⟨x, fn, cs, a1, a2, a5, by omega, a8, a9, a10⟩
    exact key _ _ _ _ _ _ h5
