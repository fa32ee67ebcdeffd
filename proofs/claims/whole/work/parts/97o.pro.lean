/-! blocks read -/
theorem rF.up0 {S S2 : zzS} {N w i i2 tl t1 fu c c2 k0 : Nat} {Mc Mm Mc2 Mm2 : zzM} {x x2 : Option (Option Nat × zzS × zzM)} {G G2 : Nat → Option (Int32 × zzM)} (H : rF S2 N w i2 t1 fu c2 Mc2 Mm2 x2 G2) (g : gS S S2) (hf : fcZ fu S.2.1 Mc Mc2) (hz : frZ w Mm Mm2) (hx : ∀ S1 Mc1, gS S2 S1 → x2 = some (none, S1, Mc1) → x = some (none, S1, Mc1)) (hG : ∀ f, G (f + k0) = G2 f) (ht : tl ≤ t1) (hi : i ≤ i2) (hg1 : S2.2.1 + c2 ≤ S.2.1 + 5 * (t1 - tl) + c) (hg2 : S2.2.2 + 2 * c2 ≤ S.2.2 + 13 * (t1 - tl) + (i2 - i) + 2 * c) (hk0 : k0 + c2 ≤ i2 - i + 2 * (t1 - tl) + c) : rF S N w i tl fu c Mc Mm x G := by
  obtain ⟨p, S1, Mc1, Mm1, kk, t2, y, a1, a2, a3, a4, a5, a6, a7, a8, a9, a10, a11, a12, a13, a14⟩ := H
  refine ⟨p, S1, Mc1, Mm1, kk + k0, t2, y, hx S1 Mc1 a2 a1, g.tr a2, hf.tr a3 g.1, a4, a5, fun f => ?_, a7, hz.tr a8, by omega, a10, by omega, a12, ⟨by have := a13.1; omega, by have := a13.2; omega⟩, by omega⟩
  rw [show f + (kk + k0) + 1 = f + kk + 1 + k0 by omega, hG]
  exact a6 f
theorem m_isEnd {M : zzM} {T : Nat → Nat} {N w i m q tl d ec : Nat} {kd : Int32} (h : mQ M T N w i m q tl (d + 1)) (hi : i < 1000) (hd : d < 2) (h41 : zzI M 41 d = kd) (hk : (kd = 4 ∧ ec = 93) ∨ (kd ≠ 4 ∧ ec = 125)) : F_Md_isEndHere lwSm M 28 = some (if chT T N i = ec then 1 else 0, M) := by
  obtain ⟨h1, h2, h3, h4, h5, h6, h7⟩ := h
  have hok := h1.ok
  have hx : ∀ x : Option (Int32 × zzM), zzix lwSm 41 (nI d) x = x := fun x => pix (S := lwSm) mn_41 (by omega) (by omega) x
  simp only [F_Md_isEndHere, plet, h7, if_neg (nI_nle (show 0 < d + 1 by omega) (by omega)), m_peek h1 h2 hi, pcall, mR_22 h1.1, mr_41, nI_pred, hx, pnI (show d < 100000 by omega), h41]
  rcases hk with ⟨rfl, rfl⟩ | ⟨hk, rfl⟩
  · rw [if_pos rfl]
    by_cases hc : chT T N i = 93
    · rw [if_pos (show chM T N i = (93 : Int32) from chM_is hok (v := 93) (by omega) (by omega) hc), if_pos hc]
    · rw [if_neg (show ¬ chM T N i = (93 : Int32) from chM_ne hok (v := 93) (by omega) (by omega) hc), if_neg hc]
  · rw [if_neg hk]
    by_cases hc : chT T N i = 125
    · rw [if_pos (show chM T N i = (125 : Int32) from chM_is hok (v := 125) (by omega) (by omega) hc), if_pos hc]
    · rw [if_neg (show ¬ chM T N i = (125 : Int32) from chM_ne hok (v := 125) (by omega) (by omega) hc), if_neg hc]
theorem rd_go {M : zzM} {T : Nat → Nat} {N w i m q tl d f : Nat} (h : mQ M T N w i m q tl d) (hi : i ≤ N) (hd : i < N ∨ 1 ≤ d) (hd2 : d ≤ 2) : rd (f + 1) M = F_Md_read_100 lwSm (F_Md_read_74 lwSm f) 2000 M 28 := by
  obtain ⟨h1, h2, h3, h4, h5, h6, h7⟩ := h
  have hN := h1.2.2.2.2.1
  show F_Md_read_74_b lwSm (F_Md_read_74 lwSm f) M 28 = _
  simp only [F_Md_read_74_b, plet, h3, if_true, h2, h1.2.2.2.1, h7]
  by_cases hlt : i < N
  · rw [if_pos (nI_lt hlt (by omega))]
  · rw [if_neg (nI_nlt (show N ≤ i by omega) (by omega)), if_neg (nI_nle (show 0 < d by omega) (by omega))]
/-- a statement put behind the others -/
def apM (M : zzM) (b s : Nat) (la : Option Nat) : zzM := match la with
  | none => zzsR (zzsR M b 0 (some s)) b 1 (some s)
  | some l => zzsR (zzsR M l 8 (some s)) b 1 (some s)
theorem c_append {S : zzS} {M : zzM} {b s : Nat} {la : Option Nat} (h : zzR M b 1 = la) (hl : ∀ l, la = some l → l < S.2.1 ∧ zzk S l = 13) : F_Bl_append S M b (some s) = some ((), apM M b s la) := by
  cases la with
  | none => simp only [F_Bl_append, plet, h, poptn, apM]
  | some l =>
    obtain ⟨h1, h2⟩ := hl l rfl
    simp only [F_Bl_append, plet, h, poptp h1 h2, apM]
theorem apM_I {M : zzM} {b s a k : Nat} {la : Option Nat} : zzI (apM M b s la) a k = zzI M a k := by cases la <;> rfl
theorem apM_L {M : zzM} {b s a k : Nat} {la : Option Nat} : zzL (apM M b s la) a k = zzL M a k := by cases la <;> rfl
theorem apM_R {M : zzM} {b s a k : Nat} {la : Option Nat} (h1 : a ≠ b) (h2 : ¬ (la = some a ∧ k = 8)) : zzR (apM M b s la) a k = zzR M a k := by
  cases la with
  | none => simp only [apM, pR_R]; rw [if_neg h1, if_neg h1]
  | some l =>
    simp only [apM, pR_R]
    rw [if_neg h1]
    by_cases ha : a = l
    · rw [if_pos ha, if_neg (fun e => h2 ⟨by rw [ha], e⟩)]
    · rw [if_neg ha]
theorem qC.lo {P : Nat → Nat → Nat → Nat → Prop} {Mc : zzM} {L : List Nat} {lo lo2 hi : Nat} {x : Option Nat} {i j : Nat} (h : qC P Mc L lo hi x i j) (h1 : lo2 ≤ lo) : qC P Mc L lo2 hi x i j := by
  cases L with
  | nil => exact ⟨h.1, h.2.1, by have := h.2.2; omega⟩
  | cons s L => exact ⟨h.1, by have := h.2.1; omega, h.2.2⟩
theorem qC.mem {P : Nat → Nat → Nat → Nat → Prop} {Mc : zzM} (hP : ∀ h s i j, P h s i j → i < j ∧ s < h) : ∀ {L : List Nat} {lo hi : Nat} {x : Option Nat} {i j : Nat}, qC P Mc L lo hi x i j → ∀ a, L.getLast? = some a → lo ≤ a ∧ ∃ h k l, h ≤ hi ∧ P h a k l
  | [], _, _, _, _, _, _, a, ha => by simp at ha
  | [s], lo, hi, x, i, j, ⟨g1, g2, h, k, g3, g4, g5⟩, a, ha => by
    simp at ha
    subst ha
    exact ⟨g2, h, i, k, g3, g4⟩
  | s :: s2 :: L, lo, hi, x, i, j, ⟨g1, g2, h, k, g3, g4, g5⟩, a, ha => by
    obtain ⟨h1, h2⟩ := qC.mem hP g5 a (by simpa using ha)
    have := hP _ _ _ _ g4
    exact ⟨by omega, h2⟩
/-- the class's block in the making: its statements L, against the orders from m0 to m -/
def bkI (S : zzS) (Mc Mm : zzM) (T : Nat → Nat) (N w q d b m0 m : Nat) (L : List Nat) : Prop := 63 ≤ b ∧ b < S.2.1 ∧ zzk S b = 12 ∧ zzR Mc b 0 = L.head? ∧ zzR Mc b 1 = L.getLast? ∧ qC (qS (qB S Mc Mm w T N q (2 - d)) (2 - d = 2) S Mc Mm w T N q) Mc L (b + 1) S.2.1 (zzR Mc b 0) m0 m
theorem bkI.app {S S1 : zzS} {Mc Mc1 Mm Mm1 : zzM} {T : Nat → Nat} {N w q q2 d b m0 m m2 : Nat} {L : List Nat} (H : bkI S Mc Mm T N w q d b m0 m L) (g : gS S S1) (hf : ∀ a k, b ≤ a → a < S.2.1 → zzI Mc1 a k = zzI Mc a k ∧ zzR Mc1 a k = zzR Mc a k) (hm : agM w q 0 m Mm Mm1) (hq : q ≤ q2) (h8 : zzR Mc1 S.2.1 8 = none) (hs : qS (qB S1 Mc1 Mm1 w T N q2 (2 - d)) (2 - d = 2) S1 Mc1 Mm1 w T N q2 S1.2.1 S.2.1 m m2) (hsk : zzk S1 S.2.1 = 13) : F_Bl_append S1 Mc1 b (some S.2.1) = some ((), apM Mc1 b S.2.1 L.getLast?) ∧ bkI S1 (apM Mc1 b S.2.1 L.getLast?) Mm1 T N w q2 d b m0 m2 (L ++ [S.2.1]) ∧ fcN b Mc1 (apM Mc1 b S.2.1 L.getLast?) := by
  obtain ⟨h1, h2, h3, h4, h5, h6⟩ := H
  have hP : ∀ h s i j, qS (qB S Mc Mm w T N q (2 - d)) (2 - d = 2) S Mc Mm w T N q h s i j → i < j ∧ s < h := fun h s i j H => qS.lt H
  have hmem := qC.mem hP h6
  have hlast : ∀ l, L.getLast? = some l → b < l ∧ l < S.2.1 ∧ zzk S l = 13 := fun l hl => by
    obtain ⟨k1, hh, k, k', k2, k3⟩ := hmem l hl
    obtain ⟨p, kp, -⟩ := k3.2.2.2
    exact ⟨by omega, kp.2.1, kp.2.2.1⟩
  have hb1 : zzR Mc1 b 1 = L.getLast? := (hf b 1 (Nat.le_refl _) h2).2.trans h5
  have hb0 : zzR Mc1 b 0 = L.head? := (hf b 0 (Nat.le_refl _) h2).2.trans h4
  have hs1 : S.2.1 < S1.2.1 := hs.1
  have hap := c_append (S := S1) (s := S.2.1) hb1 (fun l hl => ⟨by have := hlast l hl; omega, by have := hlast l hl; unfold zzk; rw [g.2.2 l this.2.1]; exact this.2.2⟩)
  refine ⟨hap, ⟨h1, by omega, by unfold zzk; rw [g.2.2 b h2]; exact h3, ?_, ?_, ?_⟩, ⟨fun a k _ _ _ => apM_I, fun a k ha => ?_, fun a k _ => apM_L⟩⟩
  · cases hL : L with
    | nil => simp [apM, plet, pcall, pck, pI_I, pI_L, pI_R, pL_I, pL_L, pL_R, pR_I, pR_L, pR_R]
    | cons s L' =>
      obtain ⟨l, e⟩ : ∃ l, (s :: L').getLast? = some l := ⟨_, List.getLast?_eq_some_getLast (by simp)⟩
      have hl := hlast l (by rw [hL]; exact e)
      rw [e]
      simp only [apM, pR_R, if_true]
      rw [if_neg (by decide), if_neg (by omega), hb0, hL]
      simp
  · cases hL : L.getLast? with
    | none => simp [apM, plet, pcall, pck, pI_I, pI_L, pI_R, pL_I, pL_L, pL_R, pR_I, pR_L, pR_R]
    | some l => simp [apM, plet, pcall, pck, pI_I, pI_L, pI_R, pL_I, pL_L, pL_R, pR_I, pR_L, pR_R]
  · have hx : zzR (apM Mc1 b S.2.1 L.getLast?) b 0 = if L = [] then some S.2.1 else zzR Mc b 0 := by
      cases hL : L with
      | nil => simp [apM, plet, pcall, pck, pI_I, pI_L, pI_R, pL_I, pL_L, pL_R, pR_I, pR_L, pR_R]
      | cons s L' =>
        obtain ⟨l, e⟩ : ∃ l, (s :: L').getLast? = some l := ⟨_, List.getLast?_eq_some_getLast (by simp)⟩
        have hl := hlast l (by rw [hL]; exact e)
        rw [e, if_neg (show ¬ (s :: L' = []) by simp)]
        simp only [apM, pR_R, if_true]
        rw [if_neg (by decide), if_neg (by omega)]
        exact (hf b 0 (Nat.le_refl _) h2).2
    rw [hx]
    have hne : ∀ a k, S.2.1 ≤ a → zzR (apM Mc1 b S.2.1 L.getLast?) a k = zzR Mc1 a k := fun a k ha => apM_R (by omega) (fun hh => by
      have := hlast a hh.1
      omega)
    refine qC.app hP (Nat.le_refl _) (Nat.le_refl _) (P1 := qS (qB S1 (apM Mc1 b S.2.1 L.getLast?) Mm1 w T N q2 (2 - d)) (2 - d = 2) S1 (apM Mc1 b S.2.1 L.getLast?) Mm1 w T N q2) (h2 := S1.2.1) ?_ ?_ hs1 (fun h s i j k1 k2 k3 k4 k5 k6 => ?_) (fun a k1 k2 k k3 => ?_) (fun a ha => ?_) h6
    · have ag : agC (S.2.1 + 1) S1.2.1 S1 S1 Mc1 (apM Mc1 b S.2.1 L.getLast?) := ⟨Nat.le_refl _, fun a g1 _ => ⟨rfl, fun k => apM_I, fun k => hne a k (by omega)⟩⟩
      exact qS.go (d := 0) hs (fun b' k m' g1 g2 g3 => qB.go (Nat.le_refl _) ag ⟨fun _ _ _ _ _ _ => rfl, fun _ _ _ _ => rfl⟩ g3) (fun b' k m' g3 => g3.le.1) ag rfl (fun k _ => apM_I) (fun k _ => hne _ k (Nat.le_refl _)) ⟨fun _ _ _ _ _ _ => rfl, fun _ _ _ _ => rfl⟩ (Nat.le_refl _)
    · rw [hne _ _ (Nat.le_refl _)]; exact h8
    · have hsl := hP _ _ _ _ k4
      have h63 : ∀ a, b + 1 ≤ a → 63 ≤ a := fun a ha => by omega
      have ag : agC (s + 1) h S S1 Mc (apM Mc1 b S.2.1 L.getLast?) := ⟨g.1, fun a g1 g2 => ⟨g.2.2 a (by omega), fun k => apM_I.trans (hf a k (by omega) (by omega)).1, fun k => k5 a g1 g2 k⟩⟩
      exact qS.go (d := 0) k4 (fun b' k m' g1 g2 g3 => qB.go hq ag (hm.mo (by omega) (by omega)) g3) (fun b' k m' g3 => g3.le.1) ag (g.2.2 s (by omega)) (fun k _ => apM_I.trans (hf s k (by omega) (by omega)).1) (fun k hk => k6 k hk) (hm.mo (by omega) k3) hq
    · rw [apM_R (by omega) k3]
      exact (hf a k (by omega) k2).2
    · rw [ha]
      have := hlast a ha
      simp only [apM, pR_R]
      rw [if_neg (by omega)]
      simp
  · refine apM_R (by omega) (fun hh => ?_)
    have := hlast a hh.1
    omega
abbrev cB11 (n y : Nat) := F_Rd_block_11 (FD_Rd_block n) (FD_Rd_statement n) (FD_Rd_part n) (FD_Rd_enclosed n) y
theorem b11_step {n y : Nat} : cB11 n (y + 1) = F_Rd_block_11_b (FD_Rd_block n) (FD_Rd_statement n) (FD_Rd_part n) (FD_Rd_enclosed n) (cB11 n y) := rfl
theorem bkI.mo {S : zzS} {Mc Mc1 Mm Mm1 : zzM} {T : Nat → Nat} {N w q d b m0 m : Nat} {L : List Nat} (H : bkI S Mc Mm T N w q d b m0 m L) (hf : ∀ a k, b ≤ a → a < S.2.1 → zzI Mc1 a k = zzI Mc a k ∧ zzR Mc1 a k = zzR Mc a k) (hm : agM w q 0 m Mm Mm1) : bkI S Mc1 Mm1 T N w q d b m0 m L := by
  obtain ⟨h1, h2, h3, h4, h5, h6⟩ := H
  have hP : ∀ h s i j, qS (qB S Mc Mm w T N q (2 - d)) (2 - d = 2) S Mc Mm w T N q h s i j → i < j ∧ s < h := fun h s i j H => qS.lt H
  refine ⟨h1, h2, h3, (hf b 0 (Nat.le_refl _) h2).2.trans h4, (hf b 1 (Nat.le_refl _) h2).2.trans h5, ?_⟩
  rw [(hf b 0 (Nat.le_refl _) h2).2]
  refine qC.go (i0 := 0) (j0 := m) hP (fun h s i j k1 k2 k3 k4 k5 => ?_) (fun a k1 k2 k => (hf a k (by omega) k2).2) (by omega) (Nat.le_refl _) h6
  have hsl := hP _ _ _ _ k5
  have ag : agC (s + 1) h S S Mc Mc1 := ⟨Nat.le_refl _, fun a g1 g2 => ⟨rfl, fun k => (hf a k (by omega) (by omega)).1, fun k => (hf a k (by omega) (by omega)).2⟩⟩
  exact qS.go (d := 0) k5 (fun b' k m' g1 g2 g3 => qB.go (Nat.le_refl _) ag (hm.mo (by omega) (by omega)) g3) (fun b' k m' g3 => g3.le.1) ag rfl (fun k _ => (hf s k (by omega) (by omega)).1) (fun k _ => (hf s k (by omega) (by omega)).2) (hm.mo (by omega) (by omega)) (Nat.le_refl _)
theorem k_blk {S0 : zzS} {Mc0 Mm0 : zzM} {T : Nat → Nat} {N w i0 m0 q0 tl0 d fu n ec : Nat} {kd : Int32} (hB : d + 1 < 2 → rBk T N w fu n (d + 2)) (hd : d < 2) (hN : N ≤ 400) (hec : (kd = 4 ∧ ec = 93) ∨ (kd ≠ 4 ∧ ec = 125)) : ∀ (y n2 : Nat) (S : zzS) (Mc Mm : zzM) (i m q tl k : Nat) (L : List Nat), N - i < y → y ≤ n2 → gS S0 S → fcN S0.2.1 Mc0 Mc → frR w m0 q0 (d + 1) Mm0 Mm → cQ S Mc T N i tl fu → mQ Mm T N w i m q tl (d + 1) → bkI S Mc Mm T N w q (d + 1) S0.2.1 m0 m L → (∀ f, rd (f + k) Mm0 = rd f Mm) → zzI Mm 41 d = kd → k ≤ i - i0 → i0 ≤ i → m0 ≤ i0 → m0 ≤ m → m ≤ m0 + (i - i0) → q0 ≤ q → q0 ≤ i0 → q ≤ q0 + (i - i0) → tl0 ≤ tl → L.length ≤ tl - tl0 → grw S0 S tl0 tl i0 i 1 →
    (bkO T N w fu (d + 1) S0 Mc0 Mm0 i0 m0 q0 tl0 1 ec (cB11 (n + 3) n2 S Mc 23 (nI (d + 1)) (nI ec) S0.2.1 (nI L.length)) (fun f => rd f Mm0) ∨ rF S0 N w i0 tl0 fu 1 Mc0 Mm0 (cB11 (n + 3) n2 S Mc 23 (nI (d + 1)) (nI ec) S0.2.1 (nI L.length)) (fun f => rd f Mm0)) ∧ ∀ r S9 M9, cB11 (n + 3) n2 S Mc 23 (nI (d + 1)) (nI ec) S0.2.1 (nI L.length) = some (r, S9, M9) → gS S S9 := by
  intro y
  induction y with
  | zero => intro n2 S Mc Mm i m q tl k L h; omega
  | succ y ih =>
    intro n2 S Mc Mm i m q tl k L hy hn2 hg hfc hfm hc hm hI hG h41 hk hi hm00 hm0 hmi hq0 hq00 hqi ht hL hgr
    obtain ⟨n3, rfl⟩ : ∃ n3, n2 = n3 + 1 := ⟨n2 - 1, by omega⟩
    have hiN := hc.2.2.1
    have htl := hc.2.2.2.2.2.1
    have hok := hm.1.ok
    obtain ⟨j, Mc1, Mm1, s1, s2, s3, s4, s5, s6, s7, s8⟩ := rd_skip (f := 0) (N - i + 1) 2000 2000 i Mc Mm (by omega) (by omega) (by omega) hc hm
    have hjN := s5.2.2.1
    have hgo : ∀ f, rd (f + 1 + k) Mm0 = bdy f Mm1 := fun f => by
      rw [hG, rd_go hm hiN (Or.inr (by omega)) (by omega)]
      exact s2 f
    have hfc1 := hfc.tr (s3 S0.2.1) (Nat.le_refl _)
    have hfm1 := hfm.tr (s4 m0 q0 (d + 1)) (Nat.le_refl _) (Nat.le_refl _) (Nat.le_refl _)
    have h41' : zzI Mm1 41 d = kd := ((s4 m q (d + 1)).2.2.1 41 d (by omega) (by omega)).trans h41
    have hI1 : bkI S Mc1 Mm1 T N w q (d + 1) S0.2.1 m0 m L := hI.mo (fun a k g1 g2 => ⟨(s3 S.2.1).1 a k g2 (by have := hI.1; omega) (by have := hI.1; omega), (s3 S.2.1).2.1 a k g2⟩) (s4 m q (d + 1)).ag
    have hend := m_isEnd s6 (show j < 1000 by omega) hd h41' hec
    have hskf : F_Rd_skipLineFeeds S Mc 23 = some ((), Mc1) := s1
    have hpk := c_peek s5.1 s5.2.1 hjN
    have hn100 : ¬ (100 : Int32) < nI L.length := nI_nlt (a := 100) (by omega) (by omega)
    have hec1 : ec < 1000 ∧ ec ≠ 0 := by omega
    have hch := chT_le hok j
    by_cases hce : chT T N j = ec
    · rw [if_pos hce] at hend
      have hx : cB11 (n + 3) (n3 + 1) S Mc 23 (nI (d + 1)) (nI ec) S0.2.1 (nI L.length) = some (some S0.2.1, S, Mc1) := by
        rw [b11_step]
        simp only [F_Rd_block_11_b, if_neg hn100, hskf, pcall, hpk, hce, if_true]
      refine ⟨Or.inl ⟨S, Mc1, Mm1, j, m, q, tl, k + 1, hx, hg, hfc1, s5, hce, fun f => ?_, s6, hfm1, ?_, by omega, by omega, hq0, by omega, ht, ⟨hgr.1, by have := hgr.2; omega⟩, by omega⟩, fun r S9 M9 h9 => ?_⟩
      · show rd (f + (k + 1)) Mm0 = _
        rw [show f + (k + 1) = f + 1 + k by omega, hgo]
        unfold bdy
        rw [hend, pcall, if_neg (by decide)]
      · obtain ⟨k1, k2, k3, k4, k5, k6⟩ := hI1
        have e : 3 - (d + 1) = (2 - (d + 1)) + 1 := by omega
        rw [e]
        exact ⟨Nat.le_refl _, k2, ⟨k2, k3, Or.inr (by omega)⟩, by omega, L, k6.lo (by omega)⟩
      · rw [hx] at h9
        cases h9
        exact gS.rf _
    · rw [if_neg hce] at hend
      have hne : ¬ nI (chT T N j) = nI ec := fun e => hce ((peq (by omega) (by omega)).mp e)
      have hcls : ∀ (r : Option Nat) (S9 : zzS) (M9 : zzM), gS S S9 → (zzcallA S (FD_Rd_statement (n + 3) S Mc1 23 (nI (d + 1))) fun r3 S M => zzopt S 13 r3 (some (none, S, M)) (fun b4 => zzck (zzhas S S0.2.1 12) (zzcall (F_Bl_append S M S0.2.1 (some b4)) fun r5 M => zzlet (nI L.length + (1 : Int32)) fun x6 => zzck (zzhas S 23 17) (cB11 (n + 3) n3 S M 23 (nI (d + 1)) (nI ec) S0.2.1 x6)))) = some (r, S9, M9) → cB11 (n + 3) (n3 + 1) S Mc 23 (nI (d + 1)) (nI ec) S0.2.1 (nI L.length) = some (r, S9, M9) := fun r S9 M9 g9 h9 => by
        rw [b11_step]
        simp only [F_Rd_block_11_b, if_neg hn100, hskf, pcall, hpk, if_neg hne]
        exact h9
      by_cases hjlt : j < N
      · have hbd : ∀ f, bdy f Mm1 = zzcall (F_Md_readStatement lwSm Mm1 28) (fun _ M => rd f M) := fun f => by
          unfold bdy
          rw [hend, pcall, if_pos rfl, plet, plet, s6.2.1, s6.1.2.2.2.1, if_neg (nI_ge hjlt (by omega))]
        rcases r_stmt (n := n) (d := d + 1) hB s5 s6 (by omega) (by omega) (by omega) (Or.inr (by omega)) with ⟨S1, Mc2, Mm2, i2, m2, q2, t2, k2, a1, a2, a3, a4, a5, a6, a7, a8, a9, a10, a11, a12, a13, a14, a15, a16⟩ | H
        · have hs1 : S.2.1 < S1.2.1 := a9.1
          have hsk : zzk S1 S.2.1 = 13 := by
            obtain ⟨p, kp, -⟩ := a9.2.2.2
            exact kp.2.2.1
          obtain ⟨p1, p2, p3⟩ := hI1.app a2 (fun a k g1 g2 => ⟨a3.1 a k g2 (by have := hI1.1; omega) (by have := hI1.1; omega), a3.2.1 a k g2⟩) a8.ag a12 a5 a9 hsk
          have hb2 : S0.2.1 < S1.2.1 ∧ zzk S1 S0.2.1 = 12 := ⟨p2.2.1, p2.2.2.1⟩
          have hcq : cQ S1 (apM Mc2 S0.2.1 S.2.1 L.getLast?) T N i2 t2 fu := by
            obtain ⟨⟨r1, r2, r3, r4, r5, r6⟩, c2, c3, c4, c5, c6, c7, c8⟩ := a4
            have h63 := hI1.1
            exact ⟨⟨r1, p3.R h63 r2, (p3.2.1 23 0 (by omega)).trans r3, apM_I.trans r4, r5, fun x hx => ⟨apM_I.trans (r6 x hx).1, (r6 x hx).2⟩⟩, apM_I.trans c2, c3, apM_I.trans c4, apM_I.trans c5, c6, (p3.2.1 23 5 (by omega)).trans c7, c8⟩
          have hih := ih n3 S1 (apM Mc2 S0.2.1 S.2.1 L.getLast?) Mm2 i2 m2 q2 t2 (k2 + 1 + k) (L ++ [S.2.1]) (by omega) (by omega) (hg.tr a2) ((hfc1.tr a3 hg.1).tr p3 (Nat.le_refl _)) (hfm1.tr a8 hm0 hq0 (Nat.le_refl _)) hcq a7 p2 (fun f => by
            rw [show f + (k2 + 1 + k) = f + k2 + 1 + k by omega, hgo, hbd]
            exact a6 f) ((a8.2.2.1 41 d (by omega) (by omega)).trans h41') (by omega) (by omega) hm00 (by have := (qS.lt a9).1; omega) (by omega) (by omega) hq00 (by omega) (by omega) (by simp; omega) ⟨by have := a15.1; have := hgr.1; omega, by have := a15.2; have := hgr.2; omega⟩
          have hlen : nI (L ++ [S.2.1]).length = nI (L.length + 1) := by simp
          have hK : ∀ (r : Option Nat) (S9 : zzS) (M9 : zzM), gS S1 S9 → cB11 (n + 3) n3 S1 (apM Mc2 S0.2.1 S.2.1 L.getLast?) 23 (nI (d + 1)) (nI ec) S0.2.1 (nI (L ++ [S.2.1]).length) = some (r, S9, M9) → cB11 (n + 3) (n3 + 1) S Mc 23 (nI (d + 1)) (nI ec) S0.2.1 (nI L.length) = some (r, S9, M9) := fun r S9 M9 g9 h9 => by
            refine hcls r S9 M9 (a2.tr g9) (pcallA a1 a2 ?_ g9)
            rw [poptp hs1 hsk, phas hb2.1 hb2.2, pck, p1, pcall, plet, phas (cl_23 a4.1.1) (ck_23 a4.1.1), pck, ← nI_succ, ← hlen]
            exact h9
          obtain ⟨hih, hgg⟩ := hih
          rcases hih with ⟨S3, Mc3, Mm3, i3, m3, q3, t3, k3, b1, b2, b3⟩ | ⟨p, S3, Mc3, Mm3, k3, t3, y3, b1, b2, b3⟩
          · have hge := hgg _ _ _ b1
            have hx := hK _ _ _ hge b1
            refine ⟨Or.inl ⟨S3, Mc3, Mm3, i3, m3, q3, t3, k3, hx, b2, b3⟩, fun r S9 M9 h9 => ?_⟩
            rw [hx] at h9
            cases h9
            exact a2.tr hge
          · have hge := hgg _ _ _ b1
            have hx := hK _ _ _ hge b1
            refine ⟨Or.inr ⟨p, S3, Mc3, Mm3, k3, t3, y3, hx, b2, b3⟩, fun r S9 M9 h9 => ?_⟩
            rw [hx] at h9
            cases h9
            exact a2.tr hge
        · have hcx : ∀ S9 Mc9, gS S S9 → FD_Rd_statement (n + 3) S Mc1 23 (nI (d + 1)) = some (none, S9, Mc9) → cB11 (n + 3) (n3 + 1) S Mc 23 (nI (d + 1)) (nI ec) S0.2.1 (nI L.length) = some (none, S9, Mc9) := fun S9 Mc9 g9 z9 => hcls none S9 Mc9 g9 (pcallA z9 g9 (by rw [poptn]) (gS.rf _))
          refine ⟨Or.inr (H.up0 (S := S0) (k0 := 1 + k) (tl := tl0) hg hfc1.Z hfm1.Z hcx (fun f => ?_) ht (by omega) (by have := hgr.1; omega) (by have := hgr.2; omega) (by omega)), fun r S9 M9 h9 => ?_⟩
          · show rd (f + (1 + k)) Mm0 = _
            rw [show f + (1 + k) = f + 1 + k by omega, hgo, hbd]
          · obtain ⟨p, S1, Mc2, Mm2, kk, t2, yy, z1, z2, -⟩ := H
            rw [hcx S1 Mc2 z2 z1] at h9
            cases h9
            exact z2
      · have hj : j = N := by omega
        have h0 : chT T N j = 0 := if_neg (by omega)
        have hno := c_stmt0_n (n := n + 2) (dd := nI (d + 1)) s5 (Or.inr (by rw [h0]; decide))
        have hx := hcls none S Mc1 (gS.rf _) (pcallA hno (gS.rf _) (by rw [poptn]) (gS.rf _))
        refine ⟨Or.inr ⟨j, S, Mc1, zzsI Mm1 28 17 (nI j), k + 1, tl, j, hx, hg, hfc1.Z, s5.2.1, hjN, fun f => ?_, by simp [plet, pcall, pck, pI_I, pI_L, pI_R, pL_I, pL_L, pL_R, pR_I, pR_L, pR_R], hfm1.Z.tr (frR_s (m := m) (q := q) (d := d) (by omega)).Z, ht, htl, by omega, hjN, ⟨hgr.1, by have := hgr.2; omega⟩, by omega⟩, fun r S9 M9 h9 => ?_⟩
        · show rd (f + (k + 1) + 1) Mm0 = _
          rw [show f + (k + 1) + 1 = f + 1 + 1 + k by omega, hgo]
          unfold bdy
          rw [hend, pcall, if_pos rfl, plet, plet, s6.2.1, s6.1.2.2.2.1, if_pos (nI_le (show N ≤ j by omega) (by omega)), plet, s6.2.2.2.2.2.2, if_neg (nI_nle (show 0 < d + 1 by omega) (by omega)), plet, plet, rd_w (by rw [pI_I, if_pos rfl, if_pos rfl]; exact nI_m1 (by omega))]
        · rw [hx] at h9
          cases h9
          exact gS.rf _
theorem r_block {T : Nat → Nat} {N w fu n d : Nat} (hB : d + 1 < 2 → rBk T N w fu n (d + 2)) (hd : d < 2) : rBk T N w fu (n + 4) (d + 1) := by
  intro S Mc Mm i m q tl ec kd hc hm hmi hqi h41 hec
  have hN := hc.1.2.2.2.2.1
  have hS := hc.1.1
  have hS63 := hS.2.2.2
  have htl := hc.2.2.2.2.2.1
  have g := gS_new S 12 0 2
  have hS1 := g.cl hS
  have hfc : fcN S.2.1 Mc (zzclr Mc S.2.1) := fcN_clr (Nat.le_refl _)
  have hcl : ∀ a, a < S.2.1 → ∀ k, zzI (zzclr Mc S.2.1) a k = zzI Mc a k := fun a ha k => by simp only [zzI, zzclr]; rw [if_neg (by omega)]
  have hc1 : cQ (zznew S 12 0 2) (zzclr Mc S.2.1) T N i tl fu := hc.N g hfc ((hcl 23 (by omega) 2).trans hc.2.1) (Nat.le_refl _) hc.2.2.1 (fun x g1 g2 => by omega) (hcl 23 (by omega) 3) ((hcl 23 (by omega) 4).trans hc.2.2.2.2.1) htl
  have hI : bkI (zznew S 12 0 2) (zzclr Mc S.2.1) Mm T N w q (d + 1) S.2.1 m m [] := by
    refine ⟨hS63, by show S.2.1 < S.2.1 + 1; omega, by unfold zzk zznew; simp, by simp [zzR, zzclr], by simp [zzR, zzclr], by simp [zzR, zzclr], rfl, by show S.2.1 + 1 ≤ S.2.1 + 1; omega⟩
  obtain ⟨H, hgg⟩ := k_blk (S0 := S) (Mc0 := Mc) (Mm0 := Mm) (n := n) hB hd hN hec (N - i + 1) 2000 (zznew S 12 0 2) (zzclr Mc S.2.1) Mm i m q tl 0 [] (by omega) (by omega) g hfc (frR.rf _ _ _ _ _) hc1 hm hI (fun f => rfl) (by simpa using h41) (by omega) (Nat.le_refl _) hmi (Nat.le_refl _) (by omega) (Nat.le_refl _) hqi (by omega) (Nat.le_refl _) (by simp) ⟨by show S.2.1 + 1 ≤ _; omega, by show S.2.2 + 2 ≤ _; omega⟩
  have hx : ∀ r S9 M9, cB11 (n + 3) 2000 (zznew S 12 0 2) (zzclr Mc S.2.1) 23 (nI (d + 1)) (nI ec) S.2.1 (nI ([] : List Nat).length) = some (r, S9, M9) → FD_Rd_block (n + 4) S Mc 23 (nI (d + 1)) (nI ec) = some (r, S9, M9) := fun r S9 M9 h9 => by
    rw [FDb_s]
    unfold F_Rd_block
    refine pmk ?_ (hgg _ _ _ h9)
    rw [F_Bl_init, pcall, phas (cl_23 hS1) (ck_23 hS1), pck, nI_of_0]
    exact h9
  rcases H with ⟨S3, Mc3, Mm3, i3, m3, q3, t3, k3, b1, b2, b3⟩ | ⟨p, S3, Mc3, Mm3, k3, t3, y3, b1, b2, b3⟩
  · exact Or.inl ⟨S3, Mc3, Mm3, i3, m3, q3, t3, k3, hx _ _ _ b1, b2, b3⟩
  · exact Or.inr ⟨p, S3, Mc3, Mm3, k3, t3, y3, hx _ _ _ b1, b2, b3⟩
theorem r_blk2 {T : Nat → Nat} {N w fu n : Nat} : rBk T N w fu (n + 4) 2 := r_block (d := 1) (fun h => absurd h (by omega)) (by omega)
theorem r_blk1 {T : Nat → Nat} {N w fu n : Nat} : rBk T N w fu (n + 8) 1 := r_block (d := 0) (n := n + 4) (fun _ => r_blk2) (by omega)
