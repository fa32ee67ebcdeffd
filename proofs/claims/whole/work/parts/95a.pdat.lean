/-! data and frames of a walk -/
def dW (S : zzS) (Mc Mm : zzM) (w o ll t : Nat) : Prop := dR S Mc Mm w o ll t ∧ zzL Mc 17 = zzL Mm 47 ∧ ∃ a, a ≤ t ∧ zzI Mc 27 6 = nI a ∧ zzI Mm 28 45 = nI a
def fcH (l : Nat) (M M1 : zzM) : Prop := (∀ a, 9 ≤ a → a < 9 + l → a < 15 → ∀ j, zzL M1 a j = zzL M a j) ∧ (∀ j, j < l → zzI M1 15 j = zzI M 15 j) ∧ zzI M1 27 4 = zzI M 27 4 ∧ zzI M1 27 5 = zzI M 27 5 ∧ zzR M1 27 3 = zzR M 27 3
def fmH (h c : Nat) (M M1 : zzM) : Prop := (∀ a, 53 ≤ a → a ≤ 58 → ∀ j, j < h → zzI M1 a j = zzI M a j) ∧ (∀ j, j < h → zzI M1 60 j = zzI M 60 j) ∧ (∀ j, j < 72 * h → zzL M1 59 j = zzL M 59 j) ∧ (∀ j, j < c → zzI M1 52 j = zzI M 52 j)
def fw (l h c : Nat) (Mc Mc1 Mm Mm1 : zzM) : Prop := fcC Mc Mc1 ∧ fcH l Mc Mc1 ∧ fmC Mm Mm1 ∧ fmH h c Mm Mm1
theorem fcH.rf (l : Nat) (M : zzM) : fcH l M M := ⟨fun _ _ _ _ _ => rfl, fun _ _ => rfl, rfl, rfl, rfl⟩
theorem fcH.tr {l : Nat} {M M1 M2 : zzM} (h : fcH l M M1) (h2 : fcH l M1 M2) : fcH l M M2 := ⟨fun a b c d j => (h2.1 a b c d j).trans (h.1 a b c d j), fun j hj => (h2.2.1 j hj).trans (h.2.1 j hj), h2.2.2.1.trans h.2.2.1, h2.2.2.2.1.trans h.2.2.2.1, h2.2.2.2.2.trans h.2.2.2.2⟩
theorem fcH.mo {l l1 : Nat} {M M1 : zzM} (h : fcH l1 M M1) (hl : l ≤ l1) : fcH l M M1 := ⟨fun a b c d j => h.1 a b (by omega) d j, fun j hj => h.2.1 j (by omega), h.2.2⟩
theorem fmH.rf (h c : Nat) (M : zzM) : fmH h c M M := ⟨fun _ _ _ _ _ => rfl, fun _ _ => rfl, fun _ _ => rfl, fun _ _ => rfl⟩
theorem fmH.tr {k c : Nat} {M M1 M2 : zzM} (h : fmH k c M M1) (h2 : fmH k c M1 M2) : fmH k c M M2 := ⟨fun a b d j hj => (h2.1 a b d j hj).trans (h.1 a b d j hj), fun j hj => (h2.2.1 j hj).trans (h.2.1 j hj), fun j hj => (h2.2.2.1 j hj).trans (h.2.2.1 j hj), fun j hj => (h2.2.2.2 j hj).trans (h.2.2.2 j hj)⟩
theorem fmH.mo {h h1 c c1 : Nat} {M M1 : zzM} (f : fmH h1 c1 M M1) (hh : h ≤ h1) (hc : c ≤ c1) : fmH h c M M1 := ⟨fun a b d j hj => f.1 a b d j (by omega), fun j hj => f.2.1 j (by omega), fun j hj => f.2.2.1 j (by omega), fun j hj => f.2.2.2 j (by omega)⟩
theorem fw.rf (l h c : Nat) (Mc Mm : zzM) : fw l h c Mc Mc Mm Mm := ⟨fcC.rf _, fcH.rf _ _, fmC.rf _, fmH.rf _ _ _⟩
theorem fw.tr {l h c : Nat} {Mc Mc1 Mc2 Mm Mm1 Mm2 : zzM} (f : fw l h c Mc Mc1 Mm Mm1) (f2 : fw l h c Mc1 Mc2 Mm1 Mm2) : fw l h c Mc Mc2 Mm Mm2 := ⟨f.1.tr f2.1, f.2.1.tr f2.2.1, f.2.2.1.tr f2.2.2.1, f.2.2.2.tr f2.2.2.2⟩
theorem fw.mo {l h c l1 h1 c1 : Nat} {Mc Mc1 Mm Mm1 : zzM} (f : fw l1 h1 c1 Mc Mc1 Mm Mm1) (hl : l ≤ l1) (hh : h ≤ h1) (hc : c ≤ c1) : fw l h c Mc Mc1 Mm Mm1 := ⟨f.1, f.2.1.mo hl, f.2.2.1, f.2.2.2.mo hh hc⟩
/-- neutral writes -/
def ncF (M M1 : zzM) : Prop := (∀ b j, b ≠ 15 → ¬ (b = 16 ∧ (j = 3 ∨ j = 4)) → ¬ (b = 19 ∧ (j = 9 ∨ j = 11)) → zzI M1 b j = zzI M b j) ∧ (∀ b j, b ≠ 18 → ¬ (9 ≤ b ∧ b ≤ 14) → zzL M1 b j = zzL M b j) ∧ (∀ b j, ¬ (b = 19 ∧ j = 10) → zzR M1 b j = zzR M b j)
def nmF (M M1 : zzM) : Prop := (∀ b j, ¬ (b = 28 ∧ (49 ≤ j ∧ j ≤ 55 ∨ j = 66)) → ¬ (52 ≤ b ∧ b ≤ 58) → b ≠ 60 → zzI M1 b j = zzI M b j) ∧ (∀ b j, b ≠ 59 → b ≠ 61 → ¬ (b = 28 ∧ j = 65) → zzL M1 b j = zzL M b j) ∧ M1.2.2 = M.2.2
theorem ncF.rf (M : zzM) : ncF M M := ⟨fun _ _ _ _ _ => rfl, fun _ _ _ _ => rfl, fun _ _ _ => rfl⟩
theorem nmF.rf (M : zzM) : nmF M M := ⟨fun _ _ _ _ _ => rfl, fun _ _ _ _ _ => rfl, rfl⟩
theorem ncF.tr {M M1 M2 : zzM} (h : ncF M M1) (h2 : ncF M1 M2) : ncF M M2 := ⟨fun b j a c d => (h2.1 b j a c d).trans (h.1 b j a c d), fun b j a c => (h2.2.1 b j a c).trans (h.2.1 b j a c), fun b j a => (h2.2.2 b j a).trans (h.2.2 b j a)⟩
theorem nmF.tr {M M1 M2 : zzM} (h : nmF M M1) (h2 : nmF M1 M2) : nmF M M2 := ⟨fun b j a c d => (h2.1 b j a c d).trans (h.1 b j a c d), fun b j a c d => (h2.2.1 b j a c d).trans (h.2.1 b j a c d), h2.2.2.trans h.2.2⟩
theorem ncF_K {M M1 : zzM} (h : frK M M1) : ncF M M1 := ⟨fun b j _ h2 _ => h.1 b j h2, fun b j h1 _ => h.2.1 b j h1, fun b j _ => by unfold zzR; rw [h.2.2]⟩
theorem nmF_A {M M1 : zzM} (h : frA M M1) : nmF M M1 := ⟨fun b j h1 _ _ => h.1 b j (by omega), fun b j _ h2 h3 => h.2.1 b j h2 h3, h.2.2⟩
theorem ncF.C {M M1 : zzM} (h : ncF M M1) : fcC M M1 := fun a ha => ⟨fun j => h.1 a j (by omega) (by omega) (by omega), fun j => h.2.2 a j (by omega)⟩
theorem nmF.C {M M1 : zzM} (h : nmF M M1) : fmC M M1 := ⟨fun a h1 h2 j => h.1 a j (by omega) (by omega) (by omega), fun k hk => h.1 28 k (by omega) (by omega) (by omega), h.2.1 28 34 (by omega) (by omega) (by omega)⟩
theorem nmF.R {M M1 : zzM} (h : nmF M M1) (hR : mdR M) : mdR M1 := fun k hk => by
  have := hR k hk
  unfold zzR at this ⊢
  rw [h.2.2]; exact this
theorem ncF.R {M M1 : zzM} (h : ncF M M1) (hC : clR M) : clR M1 := fun q hq => by
  have hn : ∀ q ∈ lwrc, ¬ (q.1 = 19 ∧ q.2.1 = 10) := by decide
  rw [h.2.2 _ _ (hn q hq)]; exact hC q hq
theorem nmF_s {M : zzM} {j : Nat} (v : Int32) (hj : 49 ≤ j ∧ j ≤ 55 ∨ j = 66) : nmF M (zzsI M 28 j v) := by
  refine ⟨fun b k h1 h2 h3 => ?_, fun b k _ _ _ => rfl, rfl⟩
  rw [pI_I]
  by_cases hb : b = 28
  · by_cases hk : k = j
    · exact absurd ⟨hb, by omega⟩ h1
    · rw [if_pos hb, if_neg hk]
  · rw [if_neg hb]
theorem nmF_a {M : zzM} {b j : Nat} (v : Int32) (hb : 52 ≤ b ∧ b ≤ 58 ∨ b = 60) : nmF M (zzsI M b j v) := by
  refine ⟨fun c k h1 h2 h3 => ?_, fun b k _ _ _ => rfl, rfl⟩
  rw [pI_I, if_neg (by omega)]
theorem nmF_l {M : zzM} {b j : Nat} (v : Int64) (hb : b = 59 ∨ b = 61) : nmF M (zzsL M b j v) := by
  refine ⟨fun c k h1 h2 h3 => rfl, fun c k _ _ _ => ?_, rfl⟩
  rw [pL_L, if_neg (by omega)]
theorem vR.neu {Mc Mm Mc1 Mm1 : zzM} (h : vR Mc Mm) (hc : ncF Mc Mc1) (hm : nmF Mm Mm1) : vR Mc1 Mm1 := by
  obtain ⟨v1, v2, v3, v4, v5, v6, v7, v8⟩ := h
  have c6 : zzL Mc1 6 = zzL Mc 6 := funext fun j => hc.2.1 6 j (by omega) (by omega)
  have c7 : zzL Mc1 7 = zzL Mc 7 := funext fun j => hc.2.1 7 j (by omega) (by omega)
  have c20 : zzI Mc1 20 = zzI Mc 20 := funext fun j => hc.1 20 j (by omega) (by omega) (by omega)
  have c22 : zzI Mc1 22 = zzI Mc 22 := funext fun j => hc.1 22 j (by omega) (by omega) (by omega)
  have c19 : ∀ j, ¬ (j = 9 ∨ j = 11) → zzI Mc1 19 j = zzI Mc 19 j := fun j hj => hc.1 19 j (by omega) (by omega) (by omega)
  have m45 : zzL Mm1 45 = zzL Mm 45 := funext fun j => hm.2.1 45 j (by omega) (by omega) (by omega)
  have m46 : zzL Mm1 46 = zzL Mm 46 := funext fun j => hm.2.1 46 j (by omega) (by omega) (by omega)
  have m48 : zzI Mm1 48 = zzI Mm 48 := funext fun j => hm.1 48 j (by omega) (by omega) (by omega)
  have m51 : zzI Mm1 51 = zzI Mm 51 := funext fun j => hm.1 51 j (by omega) (by omega) (by omega)
  have m50 : zzI Mm1 50 = zzI Mm 50 := funext fun j => hm.1 50 j (by omega) (by omega) (by omega)
  have m28 : ∀ j, ¬ (49 ≤ j ∧ j ≤ 55 ∨ j = 66) → zzI Mm1 28 j = zzI Mm 28 j := fun j hj => hm.1 28 j (by omega) (by omega) (by omega)
  unfold vR
  rw [c6, c7, c20, c22, m45, m46, m48, m51, m50, c19 1 (by omega), c19 5 (by omega), c19 6 (by omega), c19 7 (by omega), m28 36 (by omega), m28 42 (by omega), m28 40 (by omega), m28 44 (by omega)]
  exact ⟨v1, v2, v3, v4, v5, v6, v7, v8⟩
theorem ruR.to {S : zzS} {Mc Mm Mc1 Mm1 : zzM} {w : Nat} (h : ruR S Mc Mm w) (fc : fcC Mc Mc1) (fm : fmC Mm Mm1) (h1 : zzI Mc1 19 3 = zzI Mc 19 3) (h2 : zzI Mm1 28 38 = zzI Mm 28 38) (h3 : ∀ i, zzR Mc1 21 i = zzR Mc 21 i) (h4 : ∀ i, zzI Mm1 49 i = zzI Mm 49 i) : ruR S Mc1 Mm1 w := by
  obtain ⟨k, a1, a2, a3, a4⟩ := h
  refine ⟨k, a1, h1.trans a2, h2.trans a3, fun i hi => ?_⟩
  obtain ⟨s, b1, b2, b3, b4, b5⟩ := a4 i hi
  refine ⟨s, (h3 i).trans b1, b2, b3, b4, ?_⟩
  rw [(fc s (by omega)).2 5, h4 i]
  exact b5.go fc fm
theorem dR.neu {S : zzS} {Mc Mm Mc1 Mm1 : zzM} {w o ll t : Nat} (h : dR S Mc Mm w o ll t) (hc : ncF Mc Mc1) (hm : nmF Mm Mm1) : dR S Mc1 Mm1 w o ll t := by
  obtain ⟨⟨c1, c2, c3, c4, c5, c6⟩, ⟨m1, m2, m3, m4, m5⟩, h3, h4, h5, h6, h7, h8, h9⟩ := h
  refine ⟨⟨c1, hc.R c2, ?_, c4, ?_, c6⟩, ⟨hm.R m1, ?_, m3, ?_, m5⟩, ?_, h4, h5.neu hc hm, h6.to hc.C hm.C ?_ ?_ (fun i => ?_) (fun i => ?_), ?_, ?_, h9⟩
  · rw [hc.1 5 1 (by omega) (by omega) (by omega)]; exact c3
  · rw [hc.1 5 3 (by omega) (by omega) (by omega)]; exact c5
  · rw [hm.1 28 28 (by omega) (by omega) (by omega)]; exact m2
  · rw [hm.1 28 30 (by omega) (by omega) (by omega)]; exact m4
  · rw [hm.1 28 3 (by omega) (by omega) (by omega)]; exact h3
  · exact hc.1 19 3 (by omega) (by omega) (by omega)
  · exact hm.1 28 38 (by omega) (by omega) (by omega)
  · exact hc.2.2 21 i (by omega)
  · exact hm.1 49 i (by omega) (by omega) (by omega)
  · rw [hc.1 19 8 (by omega) (by omega) (by omega)]; exact h7
  · rw [hm.2.1 28 35 (by omega) (by omega) (by omega)]; exact h8
theorem dW.neu {S : zzS} {Mc Mm Mc1 Mm1 : zzM} {w o ll t : Nat} (h : dW S Mc Mm w o ll t) (hc : ncF Mc Mc1) (hm : nmF Mm Mm1) : dW S Mc1 Mm1 w o ll t := by
  obtain ⟨h1, h2, a, h3, h4, h5⟩ := h
  refine ⟨h1.neu hc hm, ?_, a, h3, ?_, ?_⟩
  · have e1 : zzL Mc1 17 = zzL Mc 17 := funext fun j => hc.2.1 17 j (by omega) (by omega)
    have e2 : zzL Mm1 47 = zzL Mm 47 := funext fun j => hm.2.1 47 j (by omega) (by omega) (by omega)
    rw [e1, e2]; exact h2
  · rw [hc.1 27 6 (by omega) (by omega) (by omega)]; exact h4
  · rw [hm.1 28 45 (by omega) (by omega) (by omega)]; exact h5
/-- what an operation within a step leaves alone -/
def fX (Mc Mc1 Mm Mm1 : zzM) : Prop := fcC Mc Mc1 ∧ fcH 6 Mc Mc1 ∧ fmC Mm Mm1 ∧ (∀ b, 52 ≤ b → b ≤ 60 → b ≠ 59 → ∀ j, zzI Mm1 b j = zzI Mm b j) ∧ (∀ j, zzL Mm1 59 j = zzL Mm 59 j) ∧ (∀ j, 49 ≤ j → j ≤ 55 → zzI Mm1 28 j = zzI Mm 28 j)
theorem fX.rf (Mc Mm : zzM) : fX Mc Mc Mm Mm := ⟨fcC.rf _, fcH.rf _ _, fmC.rf _, fun _ _ _ _ _ => rfl, fun _ => rfl, fun _ _ _ => rfl⟩
theorem fX.tr {Mc Mc1 Mc2 Mm Mm1 Mm2 : zzM} (f : fX Mc Mc1 Mm Mm1) (g : fX Mc1 Mc2 Mm1 Mm2) : fX Mc Mc2 Mm Mm2 := ⟨f.1.tr g.1, f.2.1.tr g.2.1, f.2.2.1.tr g.2.2.1, fun b h1 h2 h3 j => (g.2.2.2.1 b h1 h2 h3 j).trans (f.2.2.2.1 b h1 h2 h3 j), fun j => (g.2.2.2.2.1 j).trans (f.2.2.2.2.1 j), fun j h1 h2 => (g.2.2.2.2.2 j h1 h2).trans (f.2.2.2.2.2 j h1 h2)⟩
theorem fX.w {Mc Mc1 Mm Mm1 : zzM} (f : fX Mc Mc1 Mm Mm1) {l h c : Nat} (hl : l ≤ 6) : fw l h c Mc Mc1 Mm Mm1 := ⟨f.1, f.2.1.mo hl, f.2.2.1, fun a h1 h2 j _ => f.2.2.2.1 a (by omega) (by omega) (by omega) j, fun j _ => f.2.2.2.1 60 (by omega) (by omega) (by omega) j, fun j _ => f.2.2.2.2.1 j, fun j _ => f.2.2.2.1 52 (by omega) (by omega) (by omega) j⟩
theorem fX_KA {Mc Mc1 Mm Mm1 : zzM} (h : frK Mc Mc1) (g : frA Mm Mm1) : fX Mc Mc1 Mm Mm1 := ⟨fcC_K h, ⟨fun a h1 _ h3 j => h.2.1 a j (by omega), fun j _ => h.1 15 j (by omega), h.1 27 4 (by omega), h.1 27 5 (by omega), by unfold zzR; rw [h.2.2]⟩, fmC_A g, fun b h1 h2 _ j => g.1 b j (by omega), fun j => g.2.1 59 j (by omega) (by omega), fun j h1 h2 => g.1 28 j (by omega)⟩
theorem fX_L {Mc Mm : zzM} {a b k k2 : Nat} {v x : Int64} (ha : a = 6 ∨ a = 7 ∨ a = 17) (hb : b = 45 ∨ b = 46 ∨ b = 47) : fX Mc (zzsL Mc a k v) Mm (zzsL Mm b k2 x) := by
  refine ⟨fun _ _ => ⟨fun _ => rfl, fun _ => rfl⟩, ⟨fun c h1 _ h3 j => ?_, fun j _ => rfl, rfl, rfl, rfl⟩, ⟨fun _ _ _ _ => rfl, fun _ _ => rfl, ?_⟩, fun _ _ _ _ _ => rfl, fun j => ?_, fun _ _ _ => rfl⟩
  · rw [pL_L, if_neg (by omega)]
  · rw [pL_L, if_neg (by omega)]
  · rw [pL_L, if_neg (by omega)]
/-- a class's write of an int, a reference's write of an int -/
theorem fX_I {Mc Mm : zzM} {a b k j : Nat} {v x : Int32} (ha : a = 5 ∨ a = 19 ∨ a = 20 ∨ a = 22 ∨ (a = 27 ∧ k = 6)) (hb : (41 ≤ b ∧ b ≤ 51) ∨ (b = 28 ∧ (j = 28 ∨ j = 30 ∨ (36 ≤ j ∧ j ≤ 45)))) : fX Mc (zzsI Mc a k v) Mm (zzsI Mm b j x) := by
  refine ⟨fun c hc => ⟨fun i => ?_, fun _ => rfl⟩, ⟨fun c h1 _ h3 j => rfl, fun i hi => ?_, ?_, ?_, rfl⟩, ⟨fun c h1 h2 i => ?_, fun i hi => ?_, rfl⟩, fun c h1 h2 h3 i => ?_, fun i => rfl, fun i h1 h2 => ?_⟩
  · rw [pI_I, if_neg (by omega)]
  · rw [pI_I, if_neg (by omega)]
  · rw [pI_I]; split
    · rw [if_neg (by omega)]
    · rfl
  · rw [pI_I]; split
    · rw [if_neg (by omega)]
    · rfl
  · rw [pI_I, if_neg (by omega)]
  · rw [pI_I]; split
    · rw [if_neg (by omega)]
    · rfl
  · rw [pI_I, if_neg (by omega)]
  · rw [pI_I]; split
    · rw [if_neg (by omega)]
    · rfl
theorem fX_e {Mc Mm : zzM} (k : Int32) (s : Option Nat) (v : Int32) : fX Mc (zzsI (zzsR (zzsI Mc 19 9 k) 19 10 s) 19 11 v) Mm Mm := by
  refine ⟨fun c hc => ⟨fun i => ?_, fun i => ?_⟩, ⟨fun c h1 _ h3 j => rfl, fun i hi => ?_, ?_, ?_, ?_⟩, fmC.rf _, fun c h1 h2 h3 i => rfl, fun i => rfl, fun i h1 h2 => rfl⟩
  · simp only [plet, pcall, pck, pI_I, pI_L, pI_R, pL_I, pL_L, pL_R, pR_I, pR_L, pR_R]; rw [if_neg (by omega), if_neg (by omega)]
  · simp only [plet, pcall, pck, pI_I, pI_L, pI_R, pL_I, pL_L, pL_R, pR_I, pR_L, pR_R]; rw [if_neg (by omega)]
  · simp only [plet, pcall, pck, pI_I, pI_L, pI_R, pL_I, pL_L, pL_R, pR_I, pR_L, pR_R]; rw [if_neg (by omega), if_neg (by omega)]
  · simp [plet, pcall, pck, pI_I, pI_L, pI_R, pL_I, pL_L, pL_R, pR_I, pR_L, pR_R]
  · simp [plet, pcall, pck, pI_I, pI_L, pI_R, pL_I, pL_L, pL_R, pR_I, pR_L, pR_R]
  · simp [plet, pcall, pck, pI_I, pI_L, pI_R, pL_I, pL_L, pL_R, pR_I, pR_L, pR_R]
theorem ncF_e {Mc : zzM} (k : Int32) (s : Option Nat) (v : Int32) : ncF Mc (zzsI (zzsR (zzsI Mc 19 9 k) 19 10 s) 19 11 v) := by
  refine ⟨fun b j h1 h2 h3 => ?_, fun b j h1 h2 => rfl, fun b j h1 => ?_⟩
  · simp only [plet, pcall, pck, pI_I, pI_L, pI_R, pL_I, pL_L, pL_R, pR_I, pR_L, pR_R]
    by_cases hb : b = 19
    · rw [if_pos hb, if_pos hb, if_neg (by omega), if_neg (by omega)]
    · rw [if_neg hb, if_neg hb]
  · simp only [plet, pcall, pck, pI_I, pI_L, pI_R, pL_I, pL_L, pL_R, pR_I, pR_L, pR_R]
    by_cases hb : b = 19
    · rw [if_pos hb, if_neg (by omega)]
    · rw [if_neg hb]
