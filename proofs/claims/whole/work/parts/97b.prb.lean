/-! reading statements: frames, parts -/
/-- old cells below n0 are left alone, but the reader's slots and its codes -/
def fcN (n0 : Nat) (M M1 : zzM) : Prop := (∀ a k, a < n0 → a ≠ 26 → ¬ (a = 23 ∧ (k = 2 ∨ k = 3 ∨ k = 4 ∨ k = 7)) → zzI M1 a k = zzI M a k) ∧ (∀ a k, a < n0 → zzR M1 a k = zzR M a k) ∧ (∀ a k, a < n0 → zzL M1 a k = zzL M a k)
theorem fcN.rf (n0 : Nat) (M : zzM) : fcN n0 M M := ⟨fun _ _ _ _ _ => rfl, fun _ _ _ => rfl, fun _ _ _ => rfl⟩
theorem fcN.tr {n0 n1 : Nat} {M M1 M2 : zzM} (h : fcN n0 M M1) (g : fcN n1 M1 M2) (hn : n0 ≤ n1) : fcN n0 M M2 := ⟨fun a k h1 h2 h3 => (g.1 a k (by omega) h2 h3).trans (h.1 a k h1 h2 h3), fun a k h1 => (g.2.1 a k (by omega)).trans (h.2.1 a k h1), fun a k h1 => (g.2.2 a k (by omega)).trans (h.2.2 a k h1)⟩
theorem frE.N {M M1 : zzM} (h : frE M M1) (n0 : Nat) : fcN n0 M M1 := ⟨fun a k _ h2 h3 => h.1 a k (by omega) h2, fun a k _ => h.R a k, fun a k _ => by unfold zzL; rw [h.2]⟩
theorem fcN_n {n0 a k : Nat} {M : zzM} {v : Int32} (h : n0 ≤ a) : fcN n0 M (zzsI M a k v) := ⟨fun b j h1 _ _ => by rw [pI_I, if_neg (by omega)], fun _ _ _ => rfl, fun _ _ _ => rfl⟩
theorem fcN_r {n0 a k : Nat} {M : zzM} {v : Option Nat} (h : n0 ≤ a) : fcN n0 M (zzsR M a k v) := ⟨fun b j _ _ _ => rfl, fun b j h1 => by rw [pR_R, if_neg (by omega)], fun _ _ _ => rfl⟩
theorem fcN_23 {n0 k : Nat} {M : zzM} {v : Int32} (h : k = 2 ∨ k = 3 ∨ k = 4 ∨ k = 7) : fcN n0 M (zzsI M 23 k v) := ⟨fun b j _ _ h3 => by
  rw [pI_I]
  by_cases hb : b = 23
  · rw [if_pos hb, if_neg (by omega)]
  · rw [if_neg hb], fun _ _ _ => rfl, fun _ _ _ => rfl⟩
theorem fcN_clr {n0 a : Nat} {M : zzM} (h : n0 ≤ a) : fcN n0 M (zzclr M a) := ⟨fun b j h1 _ _ => by simp only [zzI, zzclr]; rw [if_neg (by omega)], fun b j h1 => by simp only [zzR, zzclr]; rw [if_neg (by omega)], fun b j h1 => by simp only [zzL, zzclr]; rw [if_neg (by omega)]⟩
/-- the cells grow -/
def gS (S S1 : zzS) : Prop := S.2.1 ≤ S1.2.1 ∧ S.2.2 ≤ S1.2.2 ∧ ∀ a, a < S.2.1 → S1.1 a = S.1 a
theorem gS.rf (S : zzS) : gS S S := ⟨Nat.le_refl _, Nat.le_refl _, fun _ _ => rfl⟩
theorem gS.tr {S S1 S2 : zzS} (h : gS S S1) (g : gS S1 S2) : gS S S2 := ⟨Nat.le_trans h.1 g.1, Nat.le_trans h.2.1 g.2.1, fun a ha => (g.2.2 a (by have := h.1; omega)).trans (h.2.2 a ha)⟩
theorem gS_new (S : zzS) (kind len sl : Nat) : gS S (zznew S kind len sl) := ⟨by show S.2.1 ≤ S.2.1 + 1; omega, by show S.2.2 ≤ S.2.2 + sl; omega, fun a ha => by show (if a = S.2.1 then _ else _) = _; rw [if_neg (by omega)]⟩
theorem gS.k {S S1 : zzS} (h : gS S S1) {a t : Nat} (ha : a < S.2.1) (hk : zzk S a = t) : a < S1.2.1 ∧ zzk S1 a = t := ⟨by have := h.1; omega, by unfold zzk; rw [h.2.2 a ha]; exact hk⟩
theorem gS.cl {S S1 : zzS} (h : gS S S1) (hS : clS S) : clS S1 := by
  obtain ⟨h1, h2, h3, h4⟩ := hS
  have := h.1
  exact ⟨fun a ha => by rw [h.2.2 a (by omega)]; exact h1 a ha, by rw [h.2.2 62 (by omega)]; exact h2, fun a ha hb => by rw [h.2.2 a (by omega)]; exact h3 a ha hb, by omega⟩
theorem fcN.R {n0 : Nat} {M M1 : zzM} (h : fcN n0 M M1) (hn : 63 ≤ n0) (hC : clR M) : clR M1 := fun q hq => by
  have hs : ∀ q ∈ lwrc, q.1 < 63 := by decide
  rw [h.2.1 q.1 q.2.1 (by have := hs q hq; omega)]; exact hC q hq
theorem pmk {ρ : Type} {S : zzS} {M : zzM} {kind len sl : Nat} {K : Nat → zzS → zzM → Option (ρ × zzS × zzM)} {r : ρ} {S2 : zzS} {M2 : zzM} (h : K S.2.1 (zznew S kind len sl) (zzclr M S.2.1) = some (r, S2, M2)) (hg : gS (zznew S kind len sl) S2) : zzmk S M kind len sl K = some (r, S2, M2) := by
  unfold zzmk
  rw [h]
  exact if_pos ⟨hg.1, hg.2.1⟩
theorem pcallA {α ρ : Type} {S S1 S2 : zzS} {M1 M2 : zzM} {o : Option (α × zzS × zzM)} {K : α → zzS → zzM → Option (ρ × zzS × zzM)} {q : α} {r : ρ} (h : o = some (q, S1, M1)) (g : gS S S1) (hK : K q S1 M1 = some (r, S2, M2)) (g2 : gS S1 S2) : zzcallA S o K = some (r, S2, M2) := by
  subst h
  show (if _ then zzfin _ _ else none) = _
  rw [if_pos ⟨g.1, g.2.1⟩]
  show zzfin S1 (K q S1 M1) = _
  rw [hK]
  exact if_pos ⟨g2.1, g2.2.1⟩
theorem phas {S : zzS} {b t : Nat} (h : b < S.2.1) (hk : zzk S b = t) : zzhas S b t = true := by simp [zzhas, h, hk]
theorem rcC.N {S S1 : zzS} {M M1 : zzM} {T : Nat → Nat} {N : Nat} (h : rcC S M T N) (g : gS S S1) (f : fcN S.2.1 M M1) : rcC S1 M1 T N := by
  obtain ⟨h1, h2, h3, h4, h5, h6⟩ := h
  have h63 := h1.2.2.2
  exact ⟨g.cl h1, f.R h63 h2, by rw [f.2.1 23 0 (by omega)]; exact h3, by rw [f.1 23 1 (by omega) (by omega) (by omega)]; exact h4, h5, fun i hi => ⟨by rw [f.1 1 i (by omega) (by omega) (by omega)]; exact (h6 i hi).1, (h6 i hi).2⟩⟩
/-- the class's reader between statements: at i, tl statements told, functions in fu -/
def cQ (S : zzS) (M : zzM) (T : Nat → Nat) (N i tl fu : Nat) : Prop := rcC S M T N ∧ zzI M 23 2 = nI i ∧ i ≤ N ∧ zzI M 23 3 = nI (lnT (fun i => nI (T i)) i) ∧ zzI M 23 4 = nI tl ∧ tl ≤ 100 ∧ zzR M 23 5 = some fu ∧ 63 ≤ fu ∧ fu < S.2.1 ∧ zzk S fu = 4 ∧ zzn S fu = 26
/-- the reference's: m orders, q codes, depth d -/
def mQ (M : zzM) (T : Nat → Nat) (N w i m q tl d : Nat) : Prop := rcM M T N w ∧ zzI M 28 16 = nI i ∧ zzI M 28 17 = -1 ∧ zzI M 28 18 = nI m ∧ zzI M 28 19 = nI q ∧ zzI M 28 20 = nI tl ∧ zzI M 28 21 = nI d
def frR (w m q d : Nat) (M M1 : zzM) : Prop := (∀ b k, 32 ≤ b → b ≤ 37 → (k < 600 * w + m ∨ 600 * (w + 1) ≤ k) → zzI M1 b k = zzI M b k) ∧ (∀ b k, b = 39 ∨ b = 40 → (k < 1000 * w + q ∨ 1000 * (w + 1) ≤ k) → zzI M1 b k = zzI M b k) ∧ (∀ b k, b = 41 ∨ b = 42 → k < d → zzI M1 b k = zzI M b k) ∧ (∀ b k, ¬ (32 ≤ b ∧ b ≤ 37) → ¬ (39 ≤ b ∧ b ≤ 44) → ¬ (b = 28 ∧ 15 < k ∧ k < 28) → zzI M1 b k = zzI M b k) ∧ M1.2 = M.2
theorem frR.rf (w m q d : Nat) (M : zzM) : frR w m q d M M := ⟨fun _ _ _ _ _ => rfl, fun _ _ _ _ => rfl, fun _ _ _ _ => rfl, fun _ _ _ _ _ => rfl, rfl⟩
theorem frR.tr {w m q d m2 q2 d2 : Nat} {M M1 M2 : zzM} (h : frR w m q d M M1) (g : frR w m2 q2 d2 M1 M2) (hm : m ≤ m2) (hq : q ≤ q2) (hd : d ≤ d2) : frR w m q d M M2 := ⟨fun b k h1 h2 h3 => (g.1 b k h1 h2 (by omega)).trans (h.1 b k h1 h2 h3), fun b k h1 h2 => (g.2.1 b k h1 (by omega)).trans (h.2.1 b k h1 h2), fun b k h1 h2 => (g.2.2.1 b k h1 (by omega)).trans (h.2.2.1 b k h1 h2), fun b k h1 h2 h3 => (g.2.2.2.1 b k h1 h2 h3).trans (h.2.2.2.1 b k h1 h2 h3), g.2.2.2.2.trans h.2.2.2.2⟩
theorem frX.R2 {w q : Nat} {M M1 : zzM} (h : frX w q M M1) (m d : Nat) : frR w m q d M M1 := ⟨fun b k h1 h2 _ => h.1 b k (by omega) (by omega) (by omega), fun b k h1 h2 => h.1 b k (by omega) (by omega) (by omega), fun b k h1 _ => h.1 b k (by omega) (by omega) (by omega), fun b k h1 h2 h3 => h.1 b k (by omega) (by omega) (by omega), h.2⟩
theorem frR_s {w m q d j : Nat} {M : zzM} {v : Int32} (hj : 15 < j ∧ j < 28) : frR w m q d M (zzsI M 28 j v) := ⟨fun b k h1 h2 _ => by rw [pI_I, if_neg (by omega)], fun b k h1 _ => by rw [pI_I, if_neg (by omega)], fun b k h1 _ => by rw [pI_I, if_neg (by omega)], fun b k h1 h2 h3 => by
  rw [pI_I]
  by_cases hb : b = 28
  · rw [if_pos hb, if_neg (by omega)]
  · rw [if_neg hb], rfl⟩
theorem frR_o {w m q d a k0 : Nat} {M : zzM} {v : Int32} (ha : 32 ≤ a ∧ a ≤ 37) (hk : m ≤ k0) (hk2 : k0 < 600) : frR w m q d M (zzsI M a (600 * w + k0) v) := ⟨fun b k h1 h2 h3 => by
  rw [pI_I]
  by_cases hb : b = a
  · rw [if_pos hb, if_neg (by omega)]
  · rw [if_neg hb], fun b k h1 _ => by rw [pI_I, if_neg (by omega)], fun b k h1 _ => by rw [pI_I, if_neg (by omega)], fun b k h1 h2 h3 => by rw [pI_I, if_neg (by omega)], rfl⟩
theorem frR_p {w m q d a k0 : Nat} {M : zzM} {v : Int32} (ha : a = 41 ∨ a = 42) (hk : d ≤ k0) : frR w m q d M (zzsI M a k0 v) := ⟨fun b k h1 h2 h3 => by rw [pI_I, if_neg (by omega)], fun b k h1 _ => by rw [pI_I, if_neg (by omega)], fun b k h1 h2 => by
  rw [pI_I]
  by_cases hb : b = a
  · rw [if_pos hb, if_neg (by omega)]
  · rw [if_neg hb], fun b k h1 h2 h3 => by rw [pI_I, if_neg (by omega)], rfl⟩
theorem frR.Rf {w m q d : Nat} {M M1 : zzM} (h : frR w m q d M M1) (b j : Nat) : zzR M1 b j = zzR M b j := by unfold zzR; rw [h.2.2.2.2]
theorem rcM.R2 {M M1 : zzM} {T : Nat → Nat} {N w m q d : Nat} (h : rcM M T N w) (f : frR w m q d M M1) : rcM M1 T N w := by
  obtain ⟨h1, h2, h3, h4, h5, h6⟩ := h
  exact ⟨fun k hk => by rw [f.Rf]; exact h1 k hk, by rw [f.2.2.2.1 28 15 (by omega) (by omega) (by omega)]; exact h2, h3, by rw [f.2.2.2.1 28 1 (by omega) (by omega) (by omega)]; exact h4, h5, fun i hi => ⟨by rw [f.2.2.2.1 29 i (by omega) (by omega) (by omega)]; exact (h6 i hi).1, (h6 i hi).2⟩⟩
theorem frR.ag {w m q d i : Nat} {M M1 : zzM} (h : frR w m q d M M1) : agM w q i m M M1 := ⟨fun a k h1 h2 h3 h4 => h.1 a _ h1 h2 (by omega), fun a k h1 h2 => h.2.1 a _ h1 (by omega)⟩
/-! one expression, one atom -/
theorem mX_0 {M : zzM} {T : Nat → Nat} {N w i m q tl d : Nat} (h : mQ M T N w i m q tl d) : mX (zzsI (zzsI M 28 25 0) 28 27 0) T N w q i [] [] 0 ∧ frX w q M (zzsI (zzsI M 28 25 0) 28 27 0) := by
  obtain ⟨h1, h2, h3, h4, h5, h6, h7⟩ := h
  have hf : frX w q M (zzsI (zzsI M 28 25 0) 28 27 0) := (frX_s _ (by omega)).tr (frX_s _ (by omega))
  exact ⟨⟨h1.go hf, by simp [plet, pcall, pck, pI_I, pI_L, pI_R, pL_I, pL_L, pL_R, pR_I, pR_L, pR_R, h2], by simp [plet, pcall, pck, pI_I, pI_L, pI_R, pL_I, pL_L, pL_R, pR_I, pR_L, pR_R, h3], by simp [plet, pcall, pck, pI_I, pI_L, pI_R, pL_I, pL_L, pL_R, pR_I, pR_L, pR_R, h5], fun k x hk => by simp at hk, by simp [plet, pcall, pck, pI_I, pI_L, pI_R, pL_I, pL_L, pL_R, pR_I, pR_L, pR_R]; exact nI_of_0, trivial, by simp [plet, pcall, pck, pI_I, pI_L, pI_R, pL_I, pL_L, pL_R, pR_I, pR_L, pR_R]; exact nI_of_0⟩, hf⟩
/-- what reading codes gives: i2 the place behind them -/
def exO (S : zzS) (T : Nat → Nat) (N w q i : Nat) (Mc Mm : zzM) (x : Option (Int32 × zzM)) (y : Option (Int32 × zzM)) : Prop :=
  (∃ i2 E Mc1 Mm1, x = some (1, Mc1) ∧ y = some (nI q, Mm1) ∧ frE Mc Mc1 ∧ frX w q Mm Mm1 ∧ cX S Mc1 T N i2 E ∧ zzI Mm1 28 16 = nI i2 ∧ zzI Mm1 28 17 = -1 ∧ zzI Mm1 28 19 = nI (q + E.length + 1) ∧ cmR Mm1 (1000 * w + q) E ∧ wfC E 0 ∧ okA E ∧ i < i2 ∧ E.length ≤ i2 - i ∧ nn T i i2)
  ∨ (∃ p Mc1 Mm1, x = some (0, Mc1) ∧ y = some (nI q, Mm1) ∧ frE Mc Mc1 ∧ frX w q Mm Mm1 ∧ zzI Mc1 23 2 = nI p ∧ p ≤ N ∧ zzI Mm1 28 17 = nI p ∧ ∃ j, j < 1000 ∧ zzI Mm1 28 16 = nI j)
theorem rc_fin {wh bg : Int32} {f : Nat} {M : zzM} {T : Nat → Nat} {N w q i d : Nat} {cs : List (Int32 × Int32)} (h : mX M T N w q i cs [] d) (hb : q + cs.length < 1000) : ∃ M1, rc wh bg (f + 1) M 0 0 = some (bg, M1) ∧ frX w q M M1 ∧ zzI M1 28 16 = nI i ∧ zzI M1 28 17 = -1 ∧ zzI M1 28 19 = nI (q + cs.length + 1) ∧ cmR M1 (1000 * w + q) cs := by
  obtain ⟨M1, a1, a2, a3⟩ := m_code h hb 0 0
  have hw := h.1.2.2.1
  refine ⟨M1, by rw [rc_0 h.2.2.1, a1, pcall], a2, a3.2.1, a3.2.2.1, ?_, by omega, fun k x hk => ?_, ?_⟩
  · rw [a3.2.2.2.1]; simp; rfl
  · have hk2 : k < cs.length := by
      rcases Nat.lt_or_ge k cs.length with h | h
      · exact h
      · rw [List.getElem?_eq_none h] at hk; cases hk
    exact a3.2.2.2.2.1 k x (by rw [List.getElem?_append_left hk2]; exact hk)
  · exact (a3.2.2.2.2.1 cs.length (0, 0) (by simp)).1
theorem rd_E {S : zzS} {Mc Mm : zzM} {T : Nat → Nat} {N w i m q tl d : Nat} (hc : rcC S Mc T N) (hh : zzI Mc 23 2 = nI i) (hi : i ≤ N) (hm : mQ Mm T N w i m q tl d) (hq : q < i) : exO S T N w q i Mc Mm (FD_Rd_ranked S 60 (zzsI Mc 23 7 0) 23 0 0) (F_Md_readCodes lwSm Mm 28 1) := by
  obtain ⟨x1, x2⟩ := mX_0 hm
  have hN := hc.2.2.2.2.1
  have hf0 : frE Mc (zzsI Mc 23 7 0) := ⟨fun b j h1 h2 => by
    rw [pI_I]
    by_cases hb : b = 23
    · rw [if_pos hb, if_neg (by omega)]
    · rw [if_neg hb], rfl⟩
  have hX : cX S (zzsI Mc 23 7 0) T N i [] := ⟨hc.go hf0, by simp [plet, pcall, pck, pI_I, pI_L, pI_R, pL_I, pL_L, pL_R, pR_I, pR_L, pR_R, hh], hi, ⟨by simp [plet, pcall, pck, pI_I, pI_L, pI_R, pL_I, pL_L, pL_R, pR_I, pR_L, pR_R]; exact nI_of_0, fun k x hk => by simp at hk⟩, by simp; omega⟩
  have ey : F_Md_readCodes lwSm Mm 28 1 = rc 1 (nI q) 2000 (zzsI (zzsI Mm 28 25 0) 28 27 0) 1 1 := by
    simp only [F_Md_readCodes, plet, hm.2.2.2.2.1]
  have H := (x_all (S := S) (T := T) (N := N) (w := w) (q := q) (wh := 1) (bg := nI q) 3 56 (by omega) (by omega)).2
  rw [ey]
  rcases H i [] [] (zzsI Mc 23 7 0) _ hX x1 (by simp; omega) (by simp) (by simp) (fun x s hx => by cases hx) (Or.inl rfl) (fun _ => Or.inl rfl) with ⟨i2, E, E1, pd, Mc1, Mm1, k, a1, a2, a3, a4, a5, a6, a7, a8, a9, a10, a11, a12, a13, a14, a15, a16⟩ | ⟨p, Mc1, Mm1, k, a1, a2, a3, a4, a5, a6, a7, a8, a9, a10⟩
  · left
    have hi2 := a4.2.2.1
    have hEl : E1.length + pd.length = E.length := by rw [a6]; simp
    rw [List.append_nil] at a5
    rw [List.nil_append] at a4 a5
    obtain ⟨Mm2, b1, b2, b3⟩ := rc_stop (bg := nI q) a5 (by omega) (by omega) (fun x hx => ⟨(a13 x hx).1, (a13 x hx).2.1, by have := (a13 x hx).2.2; omega⟩) (a15.2 rfl).1 (a15.2 rfl).2 (by omega)
    rw [← a6] at b2
    obtain ⟨Mm3, c1, c2, c3, c4, c5, c6⟩ := rc_fin (wh := 1) (bg := nI q) (f := 1998 - k) b2 (by omega)
    refine ⟨i2, E, Mc1, Mm3, a1, ?_, hf0.tr a2, ((x2.tr a3).tr b3).tr c2, a4, c3, c4, c5, c6, ?_, a12, a9, a10, a16⟩
    · rw [show (2000 : Nat) = (1998 - k + 1 + 1) + k by omega]
      refine (a7 (1998 - k + 1 + 1)).trans ?_
      rw [b1, c1]
    · have := a11 [] 0 (by omega) rfl
      rwa [List.append_nil] at this
  · right
    refine ⟨p, Mc1, Mm1, a1, ?_, hf0.tr a2, x2.tr a3, a4, a5, a8, a10⟩
    rw [show (2000 : Nat) = (1999 - k) + k + 1 by clear a10; omega]
    exact a7 (1999 - k)
theorem rd_A {S : zzS} {Mc Mm : zzM} {T : Nat → Nat} {N w i m q tl d : Nat} (hc : rcC S Mc T N) (hh : zzI Mc 23 2 = nI i) (hi : i ≤ N) (hm : mQ Mm T N w i m q tl d) (hq : q < i) : exO S T N w q i Mc Mm (FD_Rd_atom S 60 (zzsI Mc 23 7 0) 23 0) (F_Md_readCodes lwSm Mm 28 0) := by
  obtain ⟨x1, x2⟩ := mX_0 hm
  have hN := hc.2.2.2.2.1
  have hf0 : frE Mc (zzsI Mc 23 7 0) := ⟨fun b j h1 h2 => by
    rw [pI_I]
    by_cases hb : b = 23
    · rw [if_pos hb, if_neg (by omega)]
    · rw [if_neg hb], rfl⟩
  have hX : cX S (zzsI Mc 23 7 0) T N i [] := ⟨hc.go hf0, by simp [plet, pcall, pck, pI_I, pI_L, pI_R, pL_I, pL_L, pL_R, pR_I, pR_L, pR_R, hh], hi, ⟨by simp [plet, pcall, pck, pI_I, pI_L, pI_R, pL_I, pL_L, pL_R, pR_I, pR_L, pR_R]; exact nI_of_0, fun k x hk => by simp at hk⟩, by simp; omega⟩
  have ey : F_Md_readCodes lwSm Mm 28 0 = rc 0 (nI q) 2000 (zzsI (zzsI Mm 28 25 0) 28 27 0) 1 1 := by
    simp only [F_Md_readCodes, plet, hm.2.2.2.2.1]
  have H := (x_all (S := S) (T := T) (N := N) (w := w) (q := q) (wh := 0) (bg := nI q) 3 60 (by omega) (by omega)).1
  rw [ey]
  rcases H i [] [] (zzsI Mc 23 7 0) _ hX x1 (by simp; omega) (by simp) (by simp) with ⟨i2, A, Mc1, Mm1, k, g, a1, a2, a3, a4, a5, a6, a7, a8, a9, a10, a11, a12, a13⟩ | ⟨p, Mc1, Mm1, k, a1, a2, a3, a4, a5, a6, a7, a8, a9, a10⟩
  · left
    have hi2 := a4.2.2.1
    rw [List.nil_append] at a4 a5
    obtain ⟨g2, rfl⟩ : ∃ g2, g = g2 + 1 := ⟨g - 1, by omega⟩
    have hst := cmp_stop (g := g2) a5 (by simp) (fun x s hx => by cases hx)
    obtain ⟨Mm3, c1, c2, c3, c4, c5, c6⟩ := rc_fin (wh := 0) (bg := nI q) (f := 1998 - k) a5 (by omega)
    refine ⟨i2, A, Mc1, Mm3, a1, ?_, hf0.tr a2, (x2.tr a3).tr c2, a4, c3, c4, c5, c6, ?_, a12, a9, a10, a13⟩
    · rw [show (2000 : Nat) = (1998 - k + 1 + 1) + k by omega, a6, aft, hst, pcall, rc_more a5 (by omega), c1]
    · have := a11 [] 0 (by omega) rfl
      rwa [List.append_nil] at this
  · right
    refine ⟨p, Mc1, Mm1, a1, ?_, hf0.tr a2, x2.tr a3, a4, a5, a8, a10⟩
    rw [show (2000 : Nat) = (1999 - k) + k + 1 by clear a10; omega]
    exact a7 (1999 - k)
