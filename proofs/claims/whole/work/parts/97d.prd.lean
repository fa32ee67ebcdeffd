/-! the reference's orders and blocks -/
def moM (M : zzM) (w m : Nat) (kd wh : Int32) : zzM := zzsI (zzsI (zzsI (zzsI (zzsI (zzsI (zzsI M 32 (600 * w + m) kd) 33 (600 * w + m) wh) 34 (600 * w + m) 0) 35 (600 * w + m) 0) 36 (600 * w + m) 0) 37 (600 * w + m) 0) 28 18 (nI (m + 1))
theorem m_order {M : zzM} {T : Nat → Nat} {N w m : Nat} {kd wh : Int32} (h : rcM M T N w) (h18 : zzI M 28 18 = nI m) (hm : m < 600) : F_Md_order lwSm M 28 kd wh = some (nI m, moM M w m kd wh) := by
  obtain ⟨hR, h15, hw, -⟩ := h
  have hx : ∀ a, zzn lwSm a = 1200 → ∀ x : Option (Int32 × zzM), zzix lwSm a (nI (600 * w + m)) x = x := fun a ha x => w_ix ha hw hm x
  simp only [F_Md_order, plet, h15, h18, e600, mR_6 hR, mr_32, hx 32 mn_32, w_k hw hm, pI_I, pR_I, mR_7 hR, mr_33, hx 33 mn_33, mR_8 hR, mr_34, hx 34 mn_34, mR_9 hR, mr_35, hx 35 mn_35, mR_10 hR, mr_36, hx 36 mn_36, mR_11 hR, mr_37, hx 37 mn_37, if_neg (show ¬ 28 = 32 by decide), if_neg (show ¬ 28 = 33 by decide), if_neg (show ¬ 28 = 34 by decide), if_neg (show ¬ 28 = 35 by decide), if_neg (show ¬ 28 = 36 by decide), if_neg (show ¬ 28 = 37 by decide), if_true, ← nI_succ, nI_pred]
  rfl
theorem moM_f {M : zzM} {w m q d : Nat} {kd wh : Int32} (hm : m < 600) : frR w m q d M (moM M w m kd wh) := by
  have h : ∀ (a : Nat) (N : zzM) (v : Int32), 32 ≤ a ∧ a ≤ 37 → frR w m q d N (zzsI N a (600 * w + m) v) := fun a N v ha => frR_o ha (Nat.le_refl m) hm
  exact (((((((h 32 M kd (by omega)).tr (h 33 _ wh (by omega)) (Nat.le_refl _) (Nat.le_refl _) (Nat.le_refl _)).tr (h 34 _ 0 (by omega)) (Nat.le_refl _) (Nat.le_refl _) (Nat.le_refl _)).tr (h 35 _ 0 (by omega)) (Nat.le_refl _) (Nat.le_refl _) (Nat.le_refl _)).tr (h 36 _ 0 (by omega)) (Nat.le_refl _) (Nat.le_refl _) (Nat.le_refl _)).tr (h 37 _ 0 (by omega)) (Nat.le_refl _) (Nat.le_refl _) (Nat.le_refl _)).tr (frR_s (by omega)) (Nat.le_refl _) (Nat.le_refl _) (Nat.le_refl _))
theorem moM_v {M : zzM} {w m : Nat} {kd wh : Int32} : odM (moM M w m kd wh) w m = kd ∧ plM (moM M w m kd wh) w m = wh ∧ (∀ a, 34 ≤ a → a ≤ 37 → zzI (moM M w m kd wh) a (600 * w + m) = 0) ∧ zzI (moM M w m kd wh) 28 18 = nI (m + 1) ∧ (∀ j, j ≠ 18 → zzI (moM M w m kd wh) 28 j = zzI M 28 j) ∧ (∀ a k, 32 ≤ a → a ≤ 37 → k ≠ m → zzI (moM M w m kd wh) a (600 * w + k) = zzI M a (600 * w + k)) := by
  refine ⟨by simp [moM, plet, pcall, pck, pI_I, pI_L, pI_R, pL_I, pL_L, pL_R, pR_I, pR_L, pR_R], by simp [moM, plet, pcall, pck, pI_I, pI_L, pI_R, pL_I, pL_L, pL_R, pR_I, pR_L, pR_R], fun a h1 h2 => ?_, by simp [moM, plet, pcall, pck, pI_I, pI_L, pI_R, pL_I, pL_L, pL_R, pR_I, pR_L, pR_R], fun j hj => by simp [moM, plet, pcall, pck, pI_I, pI_L, pI_R, pL_I, pL_L, pL_R, pR_I, pR_L, pR_R, hj], fun a k h1 h2 hk => ?_⟩
  · rcases (show a = 34 ∨ a = 35 ∨ a = 36 ∨ a = 37 by omega) with rfl | rfl | rfl | rfl <;> simp [moM, plet, pcall, pck, pI_I, pI_L, pI_R, pL_I, pL_L, pL_R, pR_I, pR_L, pR_R]
  · have hne : ¬ (600 * w + k = 600 * w + m) := by omega
    rcases (show a = 32 ∨ a = 33 ∨ a = 34 ∨ a = 35 ∨ a = 36 ∨ a = 37 by omega) with rfl | rfl | rfl | rfl | rfl | rfl <;> simp [moM, plet, pcall, pck, pI_I, pI_L, pI_R, pL_I, pL_L, pL_R, pR_I, pR_L, pR_R, hk]
theorem mQ.order {M : zzM} {T : Nat → Nat} {N w i m q tl d : Nat} {kd wh : Int32} (h : mQ M T N w i m q tl d) (hm : m < 600) : mQ (moM M w m kd wh) T N w i (m + 1) q tl d := by
  obtain ⟨h1, h2, h3, h4, h5, h6, h7⟩ := h
  obtain ⟨v1, v2, v3, v4, v5, v6⟩ := moM_v (M := M) (w := w) (m := m) (kd := kd) (wh := wh)
  exact ⟨h1.R2 (moM_f (q := q) (d := d) hm), (v5 16 (by omega)).trans h2, (v5 17 (by omega)).trans h3, v4, (v5 19 (by omega)).trans h5, (v5 20 (by omega)).trans h6, (v5 21 (by omega)).trans h7⟩
theorem mQ.at {M : zzM} {T : Nat → Nat} {N w i m q tl d : Nat} (h : mQ M T N w i m q tl d) (i2 : Nat) : mQ (zzsI M 28 16 (nI i2)) T N w i2 m q tl d := by
  obtain ⟨h1, h2, h3, h4, h5, h6, h7⟩ := h
  exact ⟨h1.R2 (frR_s (m := m) (q := q) (d := d) (by omega)), rfl, h3, h4, h5, h6, h7⟩
theorem mQ.tl {M : zzM} {T : Nat → Nat} {N w i m q tl d : Nat} (h : mQ M T N w i m q tl d) (t2 : Nat) : mQ (zzsI M 28 20 (nI t2)) T N w i m q t2 d := by
  obtain ⟨h1, h2, h3, h4, h5, h6, h7⟩ := h
  exact ⟨h1.R2 (frR_s (m := m) (q := q) (d := d) (by omega)), h2, h3, h4, h5, rfl, h7⟩
theorem mQ.ord {M : zzM} {T : Nat → Nat} {N w i m q tl d a k : Nat} {v : Int32} (h : mQ M T N w i m q tl d) (ha : 32 ≤ a ∧ a ≤ 37) (hk : k < 600) : mQ (zzsI M a (600 * w + k) v) T N w i m q tl d := by
  obtain ⟨h1, h2, h3, h4, h5, h6, h7⟩ := h
  have e : ∀ j, zzI (zzsI M a (600 * w + k) v) 28 j = zzI M 28 j := fun j => by rw [pI_I, if_neg (by omega)]
  exact ⟨h1.R2 (frR_o (m := 0) (q := q) (d := d) ha (by omega) hk), (e 16).trans h2, (e 17).trans h3, (e 18).trans h4, (e 19).trans h5, (e 20).trans h6, (e 21).trans h7⟩
def mop (M : zzM) (i d : Nat) (kd ov : Int32) : zzM := zzsI (zzsI (zzsI (zzsI M 28 16 (nI (i + 1))) 41 d kd) 42 d ov) 28 21 (nI (d + 1))
theorem m_open_y {M : zzM} {T : Nat → Nat} {N w i m q tl d br : Nat} {kd ov : Int32} (h : mQ M T N w i m q tl d) (hi : i < 1000) (hb : br < 1000) (hb0 : br ≠ 0) (hc : chT T N i = br) (hd : d < 2) : F_Md_open lwSm M 28 kd (nI br) ov = some ((), mop M i d kd ov) := by
  obtain ⟨h1, h2, h3, h4, h5, h6, h7⟩ := h
  have hR := h1.1
  have hne : ¬ nI d = 2 := fun e => by
    have := (peq (a := d) (b := 2) (by omega) (by omega)).mp e
    omega
  have hx : ∀ a, zzn lwSm a = 4 → ∀ x : Option (Unit × zzM), zzix lwSm a (nI d) x = x := fun a ha x => pix (S := lwSm) ha (by omega) (by omega) x
  simp only [F_Md_open, plet, h3, if_true, m_peek h1 h2 hi, pcall, if_pos (chM_is h1.ok hb hb0 hc), h7, if_neg hne, h2, pI_I, pR_I, mR_22 hR, mr_41, hx 41 mn_41, pnI (show d < 100000 by omega), mR_23 hR, mr_42, hx 42 mn_42, if_neg (show ¬ 21 = 16 by decide), if_neg (show ¬ 28 = 41 by decide), if_neg (show ¬ 28 = 42 by decide), ← nI_succ]
  rfl
theorem m_open_n {M : zzM} {T : Nat → Nat} {N w i m q tl d br : Nat} {kd ov : Int32} (h : mQ M T N w i m q tl d) (hi : i < 1000) (hb : br < 1000) (hb0 : br ≠ 0) (hc : chT T N i ≠ br ∨ d = 2) : F_Md_open lwSm M 28 kd (nI br) ov = some ((), zzsI M 28 17 (nI i)) := by
  obtain ⟨h1, h2, h3, h4, h5, h6, h7⟩ := h
  simp only [F_Md_open, plet, h3, if_true, m_peek h1 h2 hi, pcall, h7, h2]
  by_cases hcc : chT T N i = br
  · rcases hc with hc | hc
    · exact absurd hcc hc
    · rw [if_pos (chM_is h1.ok hb hb0 hcc), if_pos (by rw [hc]; rfl)]
  · rw [if_neg (chM_ne h1.ok hb hb0 hcc)]
theorem m_open_w {M : zzM} {kd br ov : Int32} (hw : zzI M 28 17 ≠ -1) : F_Md_open lwSm M 28 kd br ov = some ((), M) := by
  simp only [F_Md_open, plet, if_neg hw]
theorem mop_f {M : zzM} {w m q i d : Nat} {kd ov : Int32} : frR w m q d M (mop M i d kd ov) := (((frR_s (by omega)).tr (frR_p (by omega) (Nat.le_refl d)) (Nat.le_refl _) (Nat.le_refl _) (Nat.le_refl _)).tr (frR_p (by omega) (Nat.le_refl d)) (Nat.le_refl _) (Nat.le_refl _) (Nat.le_refl _)).tr (frR_s (by omega)) (Nat.le_refl _) (Nat.le_refl _) (Nat.le_refl _)
theorem mQ.op {M : zzM} {T : Nat → Nat} {N w i m q tl d : Nat} {kd ov : Int32} (h : mQ M T N w i m q tl d) : mQ (mop M i d kd ov) T N w (i + 1) m q tl (d + 1) ∧ zzI (mop M i d kd ov) 41 d = kd ∧ zzI (mop M i d kd ov) 42 d = ov := by
  obtain ⟨h1, h2, h3, h4, h5, h6, h7⟩ := h
  refine ⟨⟨h1.R2 (mop_f (m := m) (q := q)), by simp [mop, plet, pcall, pck, pI_I, pI_L, pI_R, pL_I, pL_L, pL_R, pR_I, pR_L, pR_R], by simp [mop, plet, pcall, pck, pI_I, pI_L, pI_R, pL_I, pL_L, pL_R, pR_I, pR_L, pR_R, h3], by simp [mop, plet, pcall, pck, pI_I, pI_L, pI_R, pL_I, pL_L, pL_R, pR_I, pR_L, pR_R, h4], by simp [mop, plet, pcall, pck, pI_I, pI_L, pI_R, pL_I, pL_L, pL_R, pR_I, pR_L, pR_R, h5], by simp [mop, plet, pcall, pck, pI_I, pI_L, pI_R, pL_I, pL_L, pL_R, pR_I, pR_L, pR_R, h6], by simp [mop, plet, pcall, pck, pI_I, pI_L, pI_R, pL_I, pL_L, pL_R, pR_I, pR_L, pR_R]⟩, by simp [mop, plet, pcall, pck, pI_I, pI_L, pI_R, pL_I, pL_L, pL_R, pR_I, pR_L, pR_R], by simp [mop, plet, pcall, pck, pI_I, pI_L, pI_R, pL_I, pL_L, pL_R, pR_I, pR_L, pR_R]⟩
theorem m_aim {M : zzM} {T : Nat → Nat} {N w o : Nat} (h : rcM M T N w) (ho : o < 600) : F_Md_aim lwSm M 28 (nI o) = some ((), zzsI M 37 (600 * w + o) (zzI M 28 18)) := by
  obtain ⟨hR, h15, hw, -⟩ := h
  simp only [F_Md_aim, plet, mR_11 hR, mr_37, h15, e600, w_ix mn_37 hw ho, w_k hw ho]
/-- closing: what lies behind the brace -/
def mcl (M : zzM) (i d : Nat) : zzM := zzsI (zzsI M 28 16 (nI (i + 1))) 28 21 (nI d)
theorem mQ.cl {M : zzM} {T : Nat → Nat} {N w i m q tl d : Nat} (h : mQ M T N w i m q tl (d + 1)) : mQ (mcl M i d) T N w (i + 1) m q tl d ∧ frR w m q d M (mcl M i d) := by
  have hf : frR w m q d M (mcl M i d) := (frR_s (by omega)).tr (frR_s (by omega)) (Nat.le_refl _) (Nat.le_refl _) (Nat.le_refl _)
  obtain ⟨h1, h2, h3, h4, h5, h6, h7⟩ := h
  exact ⟨⟨h1.R2 hf, by simp [mcl, plet, pcall, pck, pI_I, pI_L, pI_R, pL_I, pL_L, pL_R, pR_I, pR_L, pR_R], by simp [mcl, plet, pcall, pck, pI_I, pI_L, pI_R, pL_I, pL_L, pL_R, pR_I, pR_L, pR_R, h3], by simp [mcl, plet, pcall, pck, pI_I, pI_L, pI_R, pL_I, pL_L, pL_R, pR_I, pR_L, pR_R, h4], by simp [mcl, plet, pcall, pck, pI_I, pI_L, pI_R, pL_I, pL_L, pL_R, pR_I, pR_L, pR_R, h5], by simp [mcl, plet, pcall, pck, pI_I, pI_L, pI_R, pL_I, pL_L, pL_R, pR_I, pR_L, pR_R, h6], by simp [mcl, plet, pcall, pck, pI_I, pI_L, pI_R, pL_I, pL_L, pL_R, pR_I, pR_L, pR_R]⟩, hf⟩
def mcK (M : zzM) (kd o p : Int32) : Option (Unit × zzM) := if kd = (1 : Int32) then (zzcall (F_Md_peek lwSm M 28) fun r32 M => if r32 = (123 : Int32) then (zzcall (F_Md_order lwSm M 28 (17 : Int32) p) fun r34 M => zzcall (F_Md_aim lwSm M 28 o) fun r35 M => zzcall (F_Md_open lwSm M 28 (2 : Int32) (123 : Int32) r34) fun r36 M => some ((), M)) else (zzcall (F_Md_aim lwSm M 28 o) fun r33 M => some ((), M))) else (if kd = (2 : Int32) then (zzcall (F_Md_aim lwSm M 28 o) fun r31 M => some ((), M)) else (if kd = (3 : Int32) then (zzcall (F_Md_order lwSm M 28 (17 : Int32) p) fun r25 M => zzref lwSm 1 (zzR M 28 11) fun b26 => zzlet (zzI M 28 15) fun x27 => zzlet ((600 : Int32) * x27) fun x28 => zzlet (x28 + r25) fun x29 => zzix lwSm b26 x29 (zzlet (zzsI M b26 (x29).toNatClampNeg o) fun M => zzcall (F_Md_aim lwSm M 28 o) fun r30 M => some ((), M))) else (if kd = (4 : Int32) then (zzcall (F_Md_order lwSm M 28 (8 : Int32) p) fun r24 M => some ((), M)) else (if kd = (5 : Int32) then (zzcall (F_Md_aim lwSm M 28 o) fun r21 M => zzcall (F_Md_order lwSm M 28 (10 : Int32) p) fun r22 M => zzcall (F_Md_open lwSm M 28 (6 : Int32) (123 : Int32) o) fun r23 M => some ((), M)) else (if kd = (6 : Int32) then (zzcall (F_Md_order lwSm M 28 (11 : Int32) p) fun r20 M => some ((), M)) else (zzcall (F_Md_order lwSm M 28 (19 : Int32) p) fun r18 M => zzcall (F_Md_aim lwSm M 28 o) fun r19 M => some ((), M)))))))
theorem m_close {M : zzM} {T : Nat → Nat} {N w i m q tl d o : Nat} {kd p : Int32} (h : mQ M T N w i m q tl (d + 1)) (hd : d < 2) (h41 : zzI M 41 d = kd) (h42 : zzI M 42 d = nI o) (ho : o < 600) (hp : plM M w o = p) : F_Md_close lwSm M 28 = mcK (mcl M i d) kd (nI o) p := by
  obtain ⟨h1, h2, h3, h4, h5, h6, h7⟩ := h
  obtain ⟨hR, h15, hw, -⟩ := h1
  have hx : ∀ a, zzn lwSm a = 4 → ∀ x : Option (Unit × zzM), zzix lwSm a (nI d) x = x := fun a ha x => pix (S := lwSm) ha (by omega) (by omega) x
  have hp' : zzI M 33 (600 * w + o) = p := hp
  have h21 : zzI (zzsI M 28 16 (nI (i + 1))) 28 21 = nI (d + 1) := h7
  simp only [F_Md_close, plet, mR_22 hR, mr_41, h7, nI_pred, hx 41 mn_41, pnI (show d < 100000 by omega), h41, mR_23 hR, mr_42, hx 42 mn_42, h42, mR_7 hR, mr_33, h15, e600, w_ix mn_33 hw ho, w_k hw ho, hp', h2, ← nI_succ, h21]
  rfl
/-! the loops over a text -/
abbrev rd (f : Nat) (M : zzM) : Option (Int32 × zzM) := F_Md_read_74 lwSm f M 28
def bdy (f : Nat) (M : zzM) : Option (Int32 × zzM) := zzcall (F_Md_isEndHere lwSm M 28) fun r2 M => if r2 = 0 then (zzlet (zzI M 28 16) fun x3 => zzlet (zzI M 28 1) fun x4 => if x4 ≤ x3 then (zzlet (zzI M 28 21) fun x5 => if x5 ≤ 0 then (rd f M) else (zzlet (zzI M 28 16) fun x6 => zzlet (zzsI M 28 17 x6) fun M => rd f M)) else (zzcall (F_Md_readStatement lwSm M 28) fun r7 M => rd f M)) else (zzcall (F_Md_close lwSm M 28) fun r8 M => rd f M)
theorem rd_w {M : zzM} {f : Nat} (hw : zzI M 28 17 ≠ -1) : rd (f + 1) M = F_Md_read_172 lwSm M 28 := by
  show F_Md_read_74_b lwSm (F_Md_read_74 lwSm f) M 28 = _
  simp only [F_Md_read_74_b, plet, if_neg hw]
theorem rd_end {M : zzM} {T : Nat → Nat} {N w m q tl f : Nat} (h : mQ M T N w N m q tl 0) : rd (f + 1) M = F_Md_read_172 lwSm M 28 := by
  obtain ⟨h1, h2, h3, h4, h5, h6, h7⟩ := h
  have hN := h1.2.2.2.2.1
  show F_Md_read_74_b lwSm (F_Md_read_74 lwSm f) M 28 = _
  simp only [F_Md_read_74_b, plet, h3, if_true, h2, h1.2.2.2.1, if_neg (nI_nlt (Nat.le_refl N) (show N < 2 ^ 31 by omega)), h7]
  exact if_pos (by decide)
theorem r100_step {k74 : zzM → Nat → Option (Int32 × zzM)} {n : Nat} : F_Md_read_100 lwSm k74 (n + 1) = F_Md_read_100_b lwSm k74 (F_Md_read_100 lwSm k74 n) := rfl
/-- line feeds passed over by both -/
theorem skf_step {S : zzS} {n : Nat} : F_Rd_skipLineFeeds_0 S (n + 1) = F_Rd_skipLineFeeds_0_b S (F_Rd_skipLineFeeds_0 S n) := rfl
theorem lnT_s (T : Nat → Nat) (i : Nat) (h : T i = 10) : lnT (fun i => nI (T i)) (i + 1) = lnT (fun i => nI (T i)) i + 1 := by
  show lnT _ i + (if nI (T i) = 10 then 1 else 0) = _
  rw [if_pos (by rw [h]; rfl)]
theorem rd_skip {S : zzS} {T : Nat → Nat} {N w m q tl d fu f : Nat} : ∀ (y n n2 i : Nat) (Mc Mm : zzM), N - i < y → y ≤ n → y ≤ n2 → cQ S Mc T N i tl fu → mQ Mm T N w i m q tl d → ∃ i2 Mc1 Mm1, F_Rd_skipLineFeeds_0 S n Mc 23 = some ((), Mc1) ∧ (∀ f, F_Md_read_100 lwSm (F_Md_read_74 lwSm f) n2 Mm 28 = bdy f Mm1) ∧ (∀ n0, fcN n0 Mc Mc1) ∧ (∀ m q d, frR w m q d Mm Mm1) ∧ cQ S Mc1 T N i2 tl fu ∧ mQ Mm1 T N w i2 m q tl d ∧ i ≤ i2 ∧ chT T N i2 ≠ 10 := by
  intro y
  induction y with
  | zero => intro n n2 i Mc Mm h; omega
  | succ y ih =>
    intro n n2 i Mc Mm hy hn hn2 hc hm
    obtain ⟨n3, rfl⟩ : ∃ n3, n = n3 + 1 := ⟨n - 1, by omega⟩
    obtain ⟨n4, rfl⟩ : ∃ n4, n2 = n4 + 1 := ⟨n2 - 1, by omega⟩
    have hc0 := hc
    obtain ⟨c1, c2, c3, c4, c5, c6, c7⟩ := hc
    obtain ⟨r1, r2, r3, r4, r5, r6⟩ := c1
    have hok := hm.1.ok
    have hpk := m_peek hm.1 hm.2.1 (show i < 1000 by omega)
    by_cases h10 : chT T N i = 10
    · obtain ⟨hlt, hcx⟩ := chT_lt (T := T) (N := N) (i := i) (by omega)
      have hT : T i = 10 := hcx ▸ h10
      have hf : ∀ n0, fcN n0 Mc (zzsI (zzsI Mc 23 2 (nI (i + 1))) 23 3 (nI (lnT (fun i => nI (T i)) i + 1))) := fun n0 => (fcN_23 (by omega)).tr (fcN_23 (by omega)) (Nat.le_refl _)
      have hc1 : cQ S (zzsI (zzsI Mc 23 2 (nI (i + 1))) 23 3 (nI (lnT (fun i => nI (T i)) i + 1))) T N (i + 1) tl fu := ⟨(show rcC S Mc T N from ⟨r1, r2, r3, r4, r5, r6⟩).N (gS.rf S) (hf _), by simp [plet, pcall, pck, pI_I, pI_L, pI_R, pL_I, pL_L, pL_R, pR_I, pR_L, pR_R], by omega, by rw [lnT_s T i hT]; simp [plet, pcall, pck, pI_I, pI_L, pI_R, pL_I, pL_L, pL_R, pR_I, pR_L, pR_R], by simp [plet, pcall, pck, pI_I, pI_L, pI_R, pL_I, pL_L, pL_R, pR_I, pR_L, pR_R, c5], c6, c7⟩
      obtain ⟨i2, Mc1, Mm1, a1, a2, a3, a4, a5, a6, a7, a8⟩ := ih n3 n4 (i + 1) _ (zzsI Mm 28 16 (nI (i + 1))) (by omega) (by omega) (by omega) hc1 (hm.at (i + 1))
      refine ⟨i2, Mc1, Mm1, ?_, fun f => ?_, fun n0 => (hf n0).tr (a3 n0) (Nat.le_refl _), fun m q d => (frR_s (by omega)).tr (a4 m q d) (Nat.le_refl _) (Nat.le_refl _) (Nat.le_refl _), a5, a6, by omega, a8⟩
      · rw [skf_step]
        have e3 : zzI (zzsI Mc 23 2 (nI (i + 1))) 23 3 = nI (lnT (fun i => nI (T i)) i) := c4
        simp only [F_Rd_skipLineFeeds_0_b, plet, c2, r4, if_neg (nI_ge hlt (show N < 2 ^ 31 by omega)), r3, cr_1 r1, pix (cn_1 r1) (show i < 400 by omega) (by omega), pnI (show i < 100000 by omega), (r6 i hlt).1, if_pos (show nI (T i) = (10 : Int32) by rw [hT]; rfl), ← nI_succ, e3]
        exact a1
      · rw [r100_step]
        simp only [F_Md_read_100_b, hpk, pcall, if_pos (show chM T N i = (10 : Int32) from chM_is hok (v := 10) (by omega) (by omega) h10), plet, hm.2.1, ← nI_succ]
        exact a2 f
    · refine ⟨i, Mc, Mm, ?_, fun f => ?_, fun n0 => fcN.rf _ _, fun m q d => frR.rf _ _ _ _ _, hc0, hm, Nat.le_refl _, h10⟩
      · rw [skf_step]
        by_cases hlt : i < N
        · have hT : ¬ nI (T i) = (10 : Int32) := fun e => by
            have hok2 := (r6 i hlt).2
            unfold okc at hok2
            have := (peq (a := T i) (b := 10) (by omega) (by omega)).mp e
            exact h10 (by unfold chT; rw [if_pos hlt]; exact this)
          simp only [F_Rd_skipLineFeeds_0_b, plet, c2, r4, if_neg (nI_ge hlt (show N < 2 ^ 31 by omega)), r3, cr_1 r1, pix (cn_1 r1) (show i < 400 by omega) (by omega), pnI (show i < 100000 by omega), (r6 i hlt).1, if_neg hT]
        · simp only [F_Rd_skipLineFeeds_0_b, plet, c2, r4, if_pos (nI_le (show N ≤ i by omega) (show i < 2 ^ 31 by omega))]
      · rw [r100_step]
        simp only [F_Md_read_100_b, hpk, pcall, if_neg (show ¬ chM T N i = (10 : Int32) from chM_ne hok (v := 10) (by omega) (by omega) h10)]
        rfl
