/-! statements, chains, blocks -/
theorem psB.pos {S : zzS} {Mc Mm : zzM} {w d b i j : Nat} (h : psB S Mc Mm w d b i j) : 1 ≤ d := by
  cases d with
  | zero => exact h.elim
  | succ d => omega
theorem wO.mo {S : zzS} {w lim : Nat} {z : Prop} {l c h j b0 b1 t : Nat} {Mc Mm : zzM} {G : Nat → Option (Int32 × zzM)} {x : Option (Int32 × zzM)} (H : wO S w lim z l c h j b0 t Mc Mm G x) (hb : b0 ≤ b1) : wO S w lim z l c h j b1 t Mc Mm G x := by
  obtain ⟨e, Mc1, Mm1, o1, ll1, t1, k, h1, h2, h3, h4, h5, h6, h7⟩ := H
  exact ⟨e, Mc1, Mm1, o1, ll1, t1, k, h1, h2, h3, h4, h5, by omega, h7⟩
theorem w_stmt {S : zzS} {w lim n d c l h : Nat} (hB : bOK S w lim n d c (l + 1)) (hF : c < 2 → bOK S w lim n 2 (c + 1) (l + 1)) (hn : 1 ≤ n) (hl : l ≤ 6) (hl2 : 1 ≤ d → l < 6) (hc : c ≤ 2) (hh : h ≤ l) {Mc Mm : zzM} {o ll t s i j : Nat} (hP : psS (psB S Mc Mm w d) (d = 2) S Mc Mm w s i j) (hX : wX S Mc Mm w lim) (hD : dW S Mc Mm w o ll t) (ht : t ≤ lim) (hm : mS Mm i c h) : wO S w lim True l c h j (if d = 2 then 1 else 0) t Mc Mm (fun f => rn f Mm) (FD_Wk_statement S (n + 2) Mc 27 (some s) (nI l) (nI c)) := by
  obtain ⟨hij, hj, p, hst, hpl, hcs⟩ := hP
  have hX0 := hX
  obtain ⟨hlim, hx2, hx3, hx4, -⟩ := hX
  have q1 := hst.1
  have q2 := hst.2.1
  have q3 := hst.2.2.1
  have hS := hD.1.1.1
  have hC := hD.1.1.2.1
  have hR := hD.1.2.1.1
  have hw1 := hD.1.2.2.1
  have hw := hD.1.2.2.2.1
  have h19 := hD.1.2.2.2.2.2.2.1
  have h35 := hD.1.2.2.2.2.2.2.2.1
  have hi : i < 600 := by omega
  have sp : ∀ a kd, zzI Mc s 0 = a → a ≠ 58 → odM Mm w i = kd → (kd = 1 ∨ kd = 2 ∨ kd = 3 ∨ kd = 4 ∨ kd = 5 ∨ kd = 6 ∨ kd = 7 ∨ kd = 9 ∨ kd = 12 ∨ kd = 13 ∨ kd = 14 ∨ kd = 15 ∨ kd = 16 ∨ kd = 18) → ¬ t < lim → wO S w lim True l c h j (if d = 2 then 1 else 0) t Mc Mm (fun f => rn f Mm) (FD_Wk_statement S (n + 2) Mc 27 (some s) (nI l) (nI c)) := fun a kd ha h58 hk hs hlt => by
    rw [c_stmt_n hS hC q2 q3 ha h58 h19 hx2 (by omega) (by omega)]
    exact wO_spent hD (by omega) hm hx3 hi hk hs
  have gf := fun (ht2 : t < lim) => st_facts (l := l) (p := p) hD (show t < 300 by omega) hm
  have ex : ∀ (ht2 : t < lim) (k : Nat) (f : Int32), exR S Mc Mm w (zzR Mc s k) f → exR S (cst Mc t) (mst Mm i t (nI p)) w (zzR (cst Mc t) s k) f := fun ht2 k f he => by
    have g3 := (gf ht2).2.2.1
    rw [(g3.1 s (by omega)).2 k]
    exact he.go g3.1 g3.2.2.1
  have ec : ∀ k, zzI (cst Mc t) s k = zzI Mc s k := fun k => by rw [cst, pI_I, if_neg (by omega)]
  rcases hcs with ⟨a, kd, y1, y2, y3, y4, y5⟩ | ⟨y1, y2, ⟨v, y3, y4, y5⟩, y6, y7⟩ | ⟨y1, y2, ⟨v, y3, y4, y5⟩, y6, y7, y8⟩ | ⟨y1, y2, y3, y4, y5⟩ | ⟨y1, y2, ⟨v, y3, y4, y5⟩, y6⟩ | ⟨y1, y2, y3, b1, b2, m, y4, y5, y6, y7⟩ | ⟨y1, y2, y3, b1, m, y4, y5, y6, y7, y8, y9⟩ | ⟨y1, y2, b1, m, y4, y5, y6, y7, y8⟩ | ⟨y1, y2, b1, b2, m, m2, y4, y5, y6, y7, y8, y9, y10, y11, y12, y13⟩ | ⟨y0, y1, y2, y3⟩
  · have h58 : a ≠ 58 := by rcases y1 with ⟨h, _⟩ | ⟨h, _⟩ | ⟨h, _⟩ | ⟨h, _⟩ | ⟨h, _⟩ | ⟨h, _⟩ <;> subst h <;> decide
    have hkd : kd = 1 ∨ kd = 2 ∨ kd = 3 ∨ kd = 4 ∨ kd = 5 ∨ kd = 6 ∨ kd = 7 ∨ kd = 9 ∨ kd = 12 ∨ kd = 13 ∨ kd = 14 ∨ kd = 15 ∨ kd = 16 ∨ kd = 18 := by rcases y1 with ⟨_, h⟩ | ⟨_, h⟩ | ⟨_, h⟩ | ⟨_, h⟩ | ⟨_, h⟩ | ⟨_, h⟩ <;> subst h <;> decide
    by_cases ht2 : t < lim
    · obtain ⟨g1, g2, g3, g4, g5⟩ := gf ht2
      subst y5
      have he := ex ht2 5 _ y4
      have hrn : ∀ f, rn (f + 1) Mm = zzcall (F_Md_act lwSm (mst Mm i t (nI p)) 28 kd (nI (600 * w + i))) (fun _ M => rn f M) := fun f => rn_st hR hw1 hw hi hm y3 hkd h35 hx3 ht2 hlim hpl (by rcases y1 with ⟨_, h⟩ | ⟨_, h⟩ | ⟨_, h⟩ | ⟨_, h⟩ | ⟨_, h⟩ | ⟨_, h⟩ <;> subst h <;> simp) f
      rw [c_stmt hS hC q2 q3 q1 y2 h58 h19 hx2 ht2 hlim]
      rcases y1 with ⟨rfl, rfl⟩ | ⟨rfl, rfl⟩ | ⟨rfl, rfl⟩ | ⟨rfl, rfl⟩ | ⟨rfl, rfl⟩ | ⟨rfl, rfl⟩
      · exact (wO_op hD ht2 hlim hm hl (by omega) hst hrn (w_act g1 q1 q2 q3 hi g5 ((ec 0).trans y2) (Or.inl ⟨rfl, rfl⟩) he))
      · exact (wO_op hD ht2 hlim hm hl (by omega) hst hrn (w_act g1 q1 q2 q3 hi g5 ((ec 0).trans y2) (Or.inr (Or.inl ⟨rfl, rfl⟩)) he))
      · exact (wO_op hD ht2 hlim hm hl (by omega) hst hrn (w_act g1 q1 q2 q3 hi g5 ((ec 0).trans y2) (Or.inr (Or.inr (Or.inl ⟨rfl, rfl⟩))) he))
      · exact (wO_op hD ht2 hlim hm hl (by omega) hst hrn (w_rule g1 q1 q2 q3 hi he))
      · have hy : F_Md_act lwSm (mst Mm i t (nI p)) 28 15 (nI (600 * w + i)) = zzcall (F_Md_askObjects lwSm (mst Mm i t (nI p)) 28 (nI (600 * w + i))) fun r30 M => some ((), M) := rfl
        rw [hy] at hrn
        exact (wO_op hD ht2 hlim hm hl (by omega) hst hrn (w_ask g1 q1 q2 q3 hi g5 he))
      · exact (wO_op hD ht2 hlim hm hl (by omega) hst hrn (w_act g1 q1 q2 q3 hi g5 ((ec 0).trans y2) (Or.inr (Or.inr (Or.inr ⟨rfl, rfl⟩))) he))
    · exact sp a kd y2 h58 y3 hkd ht2
  · by_cases ht2 : t < lim
    · obtain ⟨g1, g2, g3, g4, g5⟩ := gf ht2
      subst y7
      rw [c_stmt hS hC q2 q3 q1 y1 (by decide) h19 hx2 ht2 hlim]
      exact wO_op hD ht2 hlim hm hl (by omega) hst (fun f => rn_st hR hw1 hw hi hm y2 (by simp) h35 hx3 ht2 hlim hpl (by simp) f) (w_set g1 q2 q3 hi g5 ((ec 0).trans y1) q1 y3 ((ec 3).trans y4) y5 (ex ht2 5 _ y6))
    · exact sp 97 1 y1 (by decide) y2 (by simp) ht2
  · by_cases ht2 : t < lim
    · obtain ⟨g1, g2, g3, g4, g5⟩ := gf ht2
      subst y8
      rw [c_stmt hS hC q2 q3 q1 y1 (by decide) h19 hx2 ht2 hlim]
      exact wO_op hD ht2 hlim hm hl (by omega) hst (fun f => rn_st hR hw1 hw hi hm y2 (by simp) h35 hx3 ht2 hlim hpl (by simp) f) (w_fld g1 q2 q3 hi g5 q1 y3 ((ec 3).trans y4) y5 (ex ht2 4 _ y6) (ex ht2 5 _ y7))
    · exact sp 64 2 y1 (by decide) y2 (by simp) ht2
  · by_cases ht2 : t < lim
    · obtain ⟨g1, g2, g3, g4, g5⟩ := gf ht2
      subst y5
      rw [c_stmt hS hC q2 q3 q1 y1 (by decide) h19 hx2 ht2 hlim]
      exact wO_op hD ht2 hlim hm hl (by omega) hst (fun f => rn_st hR hw1 hw hi hm y2 (by simp) h35 hx3 ht2 hlim hpl (by simp) f) (w_plc g1 q2 q3 hi g5 q1 (ex ht2 4 _ y3) (ex ht2 5 _ y4))
    · exact sp 39 3 y1 (by decide) y2 (by simp) ht2
  · by_cases ht2 : t < lim
    · subst y6
      rw [c_stmt hS hC q2 q3 q1 y1 (by decide) h19 hx2 ht2 hlim]
      exact (w_call (p := p) hF hX0 hD ht2 hm hc hl hh hst hpl (by omega) y2 y3 y4 y5).mo (by omega)
    · exact sp 65 18 y1 (by decide) y2 (by simp) ht2
  · by_cases ht2 : t < lim
    · rw [c_stmt hS hC q2 q3 q1 y1 (by decide) h19 hx2 ht2 hlim]
      exact (w_branch hB hn hX0 hD ht2 hm (hl2 y6.pos) hh hst hpl hij hj y2 y3 y4 y5 y6 (y7.imp (fun z => ⟨z.1.1, z.1.2, z.2⟩) id)).mo (by omega)
    · exact sp 63 5 y1 (by decide) y2 (by simp) ht2
  · by_cases ht2 : t < lim
    · rw [c_stmt hS hC q2 q3 q1 y1 (by decide) h19 hx2 ht2 hlim]
      exact (w_loop hB hX0 hD ht2 hm (hl2 y5.pos) hh hij hj ⟨hst, hpl, y2, y3, y4, y5, y6, y7, y8, y9⟩).mo (by omega)
    · exact sp 42 6 y1 (by decide) y2 (by simp) ht2
  · by_cases ht2 : t < lim
    · rw [c_stmt hS hC q2 q3 q1 y1 (by decide) h19 hx2 ht2 hlim]
      exact (w_act_ hB hX0 hD ht2 hm (hl2 y5.pos) hh hst hpl hij hj y2 y4 y5 y6 y7 y8).mo (by omega)
    · exact sp 91 7 y1 (by decide) y2 (by simp) ht2
  · by_cases ht2 : t < lim
    · rw [c_stmt hS hC q2 q3 q1 y1 (by decide) h19 hx2 ht2 hlim]
      exact (w_closing hB hX0 hD ht2 hm (hl2 y6.pos) hh hst hpl hij hj y2 y4 y5 y6 y7 y8 y9 y10 y12 y13).mo (by omega)
    · exact sp 126 9 y1 (by decide) y2 (by simp) ht2
  · have e : FD_Wk_statement S (n + 2) Mc 27 (some s) (nI l) (nI c) = some (0, Mc) := by
      show F_Wk_statement S (FD_Wk_block S (n + 1)) (FD_Wk_statement S (n + 1)) (FD_Wk_branch S (n + 1)) (FD_Wk_loop S (n + 1)) (FD_Wk_act S (n + 1)) (FD_Wk_closing S (n + 1)) (FD_Wk_call S (n + 1)) Mc 27 (some s) (nI l) (nI c) = _
      simp only [F_Wk_statement, poptp q2 q3, plet, y1, if_true]
    rw [e, if_pos y0]
    exact wO_go (b0 := 0) hD hm hi y2 (i2 := j) y3 (fun Mm2 g1 g2 g3 => wO_done g1 ht g2)
abbrev cB18 (S : zzS) (n q : Nat) := F_Wk_block_18 S (FD_Wk_block S n) (FD_Wk_statement S n) (FD_Wk_branch S n) (FD_Wk_loop S n) (FD_Wk_act S n) (FD_Wk_closing S n) (FD_Wk_call S n) q
theorem blk_step {S : zzS} {n q : Nat} : cB18 S n (q + 1) = F_Wk_block_18_b S (FD_Wk_block S n) (FD_Wk_statement S n) (FD_Wk_branch S n) (FD_Wk_loop S n) (FD_Wk_act S n) (FD_Wk_closing S n) (FD_Wk_call S n) (cB18 S n q) := rfl
theorem w_chain {S : zzS} {w lim n d c l h : Nat} (hSt : ∀ s i j Mc Mm o ll t, psS (psB S Mc Mm w d) (d = 2) S Mc Mm w s i j → wX S Mc Mm w lim → dW S Mc Mm w o ll t → t ≤ lim → mS Mm i c h → wO S w lim True l c h j (if d = 2 then 1 else 0) t Mc Mm (fun f => rn f Mm) (FD_Wk_statement S n Mc 27 (some s) (nI l) (nI c))) : ∀ (L : List Nat) (x : Option Nat) (i j q : Nat) (Mc Mm : zzM) (o ll t : Nat), psC (psS (psB S Mc Mm w d) (d = 2) S Mc Mm w) Mc L x i j → L.length < q → wX S Mc Mm w lim → dW S Mc Mm w o ll t → t ≤ lim → mS Mm i c h → wO S w lim True l c h j (if d = 2 then L.length else 0) t Mc Mm (fun f => rn f Mm) (cB18 S n q Mc 27 (nI l) (nI c) x)
  | [], x, i, j, q + 1, Mc, Mm, o, ll, t, hP, hq, hX, hD, ht, hm => by
    obtain ⟨rfl, rfl⟩ := hP
    rw [blk_step]
    exact wO_done hD ht hm
  | s :: L, x, i, j, q + 1, Mc, Mm, o, ll, t, hP, hq, hX, hD, ht, hm => by
    obtain ⟨rfl, k, h1, h2⟩ := hP
    have hs := h1.st
    rw [blk_step]
    simp only [F_Wk_block_18_b, poptp hs.2.1 hs.2.2.1]
    have H := hSt s i k Mc Mm o ll t h1 hX hD ht hm
    have hb : (if d = 2 then (s :: L).length else 0) = (if d = 2 then 1 else 0) + (if d = 2 then L.length else 0) := by
      by_cases hd : d = 2
      · rw [if_pos hd, if_pos hd, if_pos hd, List.length_cons]; omega
      · rw [if_neg hd, if_neg hd, if_neg hd]
    rw [hb]
    refine wO.bind (l := l) (h := h) (c := c) H (Nat.le_refl _) (Nat.le_refl _) (Nat.le_refl _) ?_ ?_ (fun M => rfl)
    · intro Mc2 Mm2 o2 ll2 t2 _ d1 d2 d3 d4 d5 d6
      rw [if_pos rfl, plet, (d4.1 s (by omega)).2 8]
      exact w_chain hSt L _ k j q Mc2 Mm2 o2 ll2 t2 (psC.go d4.1 (fun s i j h => ⟨h.st.1, h.fw d4⟩) h2) (by simp at hq; omega) (hX.go d4) d1 d3 d5
    · intro Mc2 Mm2 o2 ll2 t2 r kd v s2 p2 d1 d2 d3 d4 d5 d6 d7 d8 d9 d10 d11 d12
      rw [if_neg (show ¬ (1 : Int32) = 0 by decide)]
      exact wO_fail d1 d3 d5 d6 d7 d8 d9 d10 d11 d12
theorem FDblock_s {S : zzS} {n : Nat} : FD_Wk_block S (n + 1) = F_Wk_block S (FD_Wk_block S n) (FD_Wk_statement S n) (FD_Wk_branch S n) (FD_Wk_loop S n) (FD_Wk_act S n) (FD_Wk_closing S n) (FD_Wk_call S n) := by
  unfold FD_Wk_loop FD_Wk_block FD_Wk_statement FD_Wk_branch FD_Wk_act FD_Wk_closing FD_Wk_call
  rw [FGW_s]
theorem c_block {S : zzS} {M : zzM} {n b l : Nat} {c : Int32} (hb : bkP S b) (hl : l ≤ 6) : FD_Wk_block S (n + 1) M 27 (some b) (nI l) c = cB18 S n 2000 M 27 (nI l) c (zzR M b 0) := by
  rw [FDblock_s, F_Wk_block, poptp hb.1 hb.2.1, if_pos (show nI l ≤ (6 : Int32) from nI_le (b := 6) hl (by omega)), plet]
theorem w_bOK {S : zzS} {w lim : Nat} : ∀ (m d c l n : Nat), d ≤ 2 → c ≤ 2 → d + 3 * (2 - c) ≤ m → 3 * m + 3 ≤ n → l + d ≤ 2 * c + 3 → bOK S w lim n d c l := by
  intro m
  induction m with
  | zero =>
    intro d c l n hd hc hm hn hl h b i j Mc Mm o ll t hh hP
    have := hP.pos
    omega
  | succ m ih =>
    intro d c l n hd hc hm hn hl h b i j Mc Mm o ll t hh hP hX hD ht hms
    cases d with
    | zero => exact hP.elim
    | succ d =>
      obtain ⟨n2, rfl⟩ : ∃ n2, n = n2 + 3 := ⟨n - 3, by omega⟩
      obtain ⟨hb, hj, L, hL⟩ := hP
      rw [c_block hb (by omega)]
      have hlen := psC.le (fun s i j h => h.st.2.2.2) hL
      have H := w_chain (h := h) (fun s i j Mc Mm o ll t a1 a2 a3 a4 a5 => w_stmt (ih d c (l + 1) n2 (by omega) hc (by omega) (by omega) (by omega)) (fun hc2 => ih 2 (c + 1) (l + 1) n2 (by omega) (by omega) (by omega) (by omega) (by omega)) (by omega) (by omega) (by omega) hc hh a1 a2 a3 a4 a5) L (zzR Mc b 0) i j 2000 Mc Mm o ll t hL (by omega) hX hD ht hms
      rw [if_neg (by omega)] at H
      exact H
theorem w_body {S : zzS} {w lim b j : Nat} {Mc Mm : zzM} {o ll t : Nat} (hP : psB S Mc Mm w 3 b 0 j) (hX : wX S Mc Mm w lim) (hD : dW S Mc Mm w o ll t) (ht : t ≤ lim) (hms : mS Mm 0 0 0) : wO S w lim True 0 0 0 j 600 t Mc Mm (fun f => rn f Mm) (FD_Wk_block S 60 Mc 27 (some b) (nI 0) (nI 0)) := by
  obtain ⟨hb, hj, L, hL⟩ := hP
  have e : FD_Wk_block S 60 Mc 27 (some b) (nI 0) (nI 0) = cB18 S 59 2000 Mc 27 (nI 0) (nI 0) (zzR Mc b 0) := c_block (n := 59) hb (by omega)
  rw [e]
  have hlen := psC.le (fun s i j h => h.st.2.2.2) hL
  have H := w_chain (n := 57 + 2) (h := 0) (fun s i j Mc Mm o ll t a1 a2 a3 a4 a5 => w_stmt (w_bOK 8 2 0 1 57 (by omega) (by omega) (by omega) (by omega) (by omega)) (fun hc2 => w_bOK 8 2 1 1 57 (by omega) (by omega) (by omega) (by omega) (by omega)) (by omega) (by omega) (by omega) (by omega) (by omega) a1 a2 a3 a4 a5) L (zzR Mc b 0) 0 j 2000 Mc Mm o ll t hL (by omega) hX hD ht hms
  exact H.mo (by rw [if_pos rfl]; omega)
