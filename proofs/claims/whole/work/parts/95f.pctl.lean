/-! the reference's machine, step by step -/
abbrev rn (f : Nat) (M : zzM) : Option (Int32 × zzM) := F_Md_run_66 lwSm f M 28
abbrev rs (r : Nat) (M : zzM) (kd p v : Int32) (f : Nat) : Option (Int32 × zzM) := zzcall (F_Md_raise_3 lwSm r M 28 p v kd) (fun _ M => rn f M)
def d0 (M : zzM) : Prop := zzI M 28 49 = 0 ∧ zzI M 28 50 = 0
def mS (M : zzM) (i c h : Nat) : Prop := zzI M 28 52 = nI i ∧ zzI M 28 53 = nI c ∧ zzI M 28 55 = nI h ∧ d0 M
theorem rn_s {M : zzM} {f : Nat} (hd : d0 M) : rn (f + 1) M = zzcall (F_Md_walk lwSm M 28) (fun _ M => rn f M) := by
  show F_Md_run_66_b lwSm (F_Md_run_66 lwSm f) M 28 = _
  simp only [F_Md_run_66_b, plet, pcall, pck, pI_I, pI_L, pI_R, pL_I, pL_L, pL_R, pR_I, pR_L, pR_R, hd.1, if_true]
theorem rn_done {M : zzM} {f : Nat} (hd : zzI M 28 49 = 1) : rn (f + 1) M = some (zzI M 28 50, M) := by
  show F_Md_run_66_b lwSm (F_Md_run_66 lwSm f) M 28 = _
  simp only [F_Md_run_66_b, plet, pcall, pck, pI_I, pI_L, pI_R, pL_I, pL_L, pL_R, pR_I, pR_L, pR_R, hd]
  rw [if_neg (by decide)]
theorem zc_as {α β : Type} (x : Option (α × zzM)) (K : Unit → zzM → Option β) : zzcall (zzcall x (fun _ M => some ((), M))) K = zzcall x (fun _ M => K () M) := by
  cases x <;> rfl
theorem zc_id {α : Type} (x : Option (α × zzM)) : zzcall x (fun r M => some (r, M)) = x := by
  cases x <;> rfl
theorem e600 {w i : Nat} : (600 : Int32) * nI w + nI i = nI (600 * w + i) := by show nI 600 * nI w + nI i = _; rw [nI_mul, nI_add]
theorem zc_u (x : Option (Unit × zzM)) : zzcall x (fun _ M => some ((), M)) = x := by
  cases x <;> rfl
/-- the order at i -/
theorem wk_st {M : zzM} {w i : Nat} {kd : Int32} (hR : mdR M) (hw1 : zzI M 28 3 = nI w) (hw : w ≤ 1) (hi : i < 600) (hn : zzI M 28 52 = nI i) (hk : odM M w i = kd) (hs : kd = 1 ∨ kd = 2 ∨ kd = 3 ∨ kd = 4 ∨ kd = 5 ∨ kd = 6 ∨ kd = 7 ∨ kd = 9 ∨ kd = 12 ∨ kd = 13 ∨ kd = 14 ∨ kd = 15 ∨ kd = 16 ∨ kd = 18) : F_Md_walk lwSm M 28 = F_Md_walk_168 lwSm (zzsI M 28 52 (nI (i + 1))) 28 (nI (600 * w + i)) kd := by
  simp only [F_Md_walk, plet, pcall, pck, pI_I, pI_L, pI_R, pL_I, pL_L, pL_R, pR_I, pR_L, pR_R, hw1, hn, e600, mR_6 hR, mr_32, w_ix mn_32 hw hi, w_k hw hi, hk, ← nI_succ]
  rcases hs with h | h | h | h | h | h | h | h | h | h | h | h | h | h <;> subst h <;> rfl
theorem wk_go {M : zzM} {w i : Nat} (hR : mdR M) (hw1 : zzI M 28 3 = nI w) (hw : w ≤ 1) (hi : i < 600) (hn : zzI M 28 52 = nI i) (hk : odM M w i = 17) : F_Md_walk lwSm M 28 = some ((), zzsI (zzsI M 28 52 (nI (i + 1))) 28 52 (tgM M w i)) := by
  simp only [F_Md_walk, plet, pcall, pck, pI_I, pI_L, pI_R, pL_I, pL_L, pL_R, pR_I, pR_L, pR_R, hw1, hn, e600, mR_6 hR, mr_32, w_ix mn_32 hw hi, w_k hw hi, hk, ← nI_succ, mR_11 hR, mr_37, w_ix mn_37 hw hi]
  rfl
theorem wk_end {M : zzM} {w i : Nat} (hR : mdR M) (hw1 : zzI M 28 3 = nI w) (hw : w ≤ 1) (hi : i < 600) (hn : zzI M 28 52 = nI i) (hk : odM M w i = 20) : F_Md_walk lwSm M 28 = some ((), zzsI (zzsI M 28 52 (nI (i + 1))) 28 49 1) := by
  simp only [F_Md_walk, plet, pcall, pck, pI_I, pI_L, pI_R, pL_I, pL_L, pL_R, pR_I, pR_L, pR_R, hw1, hn, e600, mR_6 hR, mr_32, w_ix mn_32 hw hi, w_k hw hi, hk, ← nI_succ]
  rfl
theorem wk_ret {M : zzM} {w i c : Nat} (hR : mdR M) (hw1 : zzI M 28 3 = nI w) (hw : w ≤ 1) (hi : i < 600) (hn : zzI M 28 52 = nI i) (hk : odM M w i = 19) (hc : zzI M 28 53 = nI (c + 1)) (hc2 : c < 2) : F_Md_walk lwSm M 28 = some ((), zzsI (zzsI (zzsI M 28 52 (nI (i + 1))) 28 53 (nI c)) 28 52 (zzI M 52 c)) := by
  have hx : ∀ x : Option (Unit × zzM), zzix lwSm 52 (nI c) x = x := fun x => pix (S := lwSm) mn_52 hc2 (by omega) x
  simp only [F_Md_walk, plet, pcall, pck, pI_I, pI_L, pI_R, pL_I, pL_L, pL_R, pR_I, pR_L, pR_R, hw1, hn, e600, mR_6 hR, mr_32, w_ix mn_32 hw hi, w_k hw hi, hk, ← nI_succ, if_neg (show ¬ 53 = 52 by decide), hc, nI_pred, mR_54 hR, mr_52, if_true, hx, pnI (show c < 100000 by omega)]
  rfl
theorem wk_acte {M : zzM} {w i : Nat} (hR : mdR M) (hw1 : zzI M 28 3 = nI w) (hw : w ≤ 1) (hi : i < 600) (hn : zzI M 28 52 = nI i) (hk : odM M w i = 8) : F_Md_walk lwSm M 28 = zzcall (F_Md_endAct lwSm (zzsI M 28 52 (nI (i + 1))) 28 (plM M w i)) fun _ M => some ((), M) := by
  simp only [F_Md_walk, plet, pcall, pck, pI_I, pI_L, pI_R, pL_I, pL_L, pL_R, pR_I, pR_L, pR_R, hw1, hn, e600, mR_6 hR, mr_32, w_ix mn_32 hw hi, w_k hw hi, hk, ← nI_succ, mR_7 hR, mr_33, w_ix mn_33 hw hi]
  rfl
theorem wk_clo {M : zzM} {w i : Nat} (hR : mdR M) (hw1 : zzI M 28 3 = nI w) (hw : w ≤ 1) (hi : i < 600) (hn : zzI M 28 52 = nI i) (hk : odM M w i = 10) : F_Md_walk lwSm M 28 = zzcall (F_Md_beginClosing lwSm (zzsI M 28 52 (nI (i + 1))) 28 (plM M w i)) fun _ M => some ((), M) := by
  simp only [F_Md_walk, plet, pcall, pck, pI_I, pI_L, pI_R, pL_I, pL_L, pL_R, pR_I, pR_L, pR_R, hw1, hn, e600, mR_6 hR, mr_32, w_ix mn_32 hw hi, w_k hw hi, hk, ← nI_succ, mR_7 hR, mr_33, w_ix mn_33 hw hi]
  rfl
theorem wk_cle {M : zzM} {w i : Nat} (hR : mdR M) (hw1 : zzI M 28 3 = nI w) (hw : w ≤ 1) (hi : i < 600) (hn : zzI M 28 52 = nI i) (hk : odM M w i = 11) : F_Md_walk lwSm M 28 = zzcall (F_Md_closeEnd lwSm (zzsI M 28 52 (nI (i + 1))) 28) fun _ M => some ((), M) := by
  simp only [F_Md_walk, plet, pcall, pck, pI_I, pI_L, pI_R, pL_I, pL_L, pL_R, pR_I, pR_L, pR_R, hw1, hn, e600, mR_6 hR, mr_32, w_ix mn_32 hw hi, w_k hw hi, hk, ← nI_succ]
  rfl
/-- steps counted -/
theorem lN_ne {a b : Nat} (ha : a ≤ 300) (hb : b ≤ 300) (h : a ≠ b) : ¬ lN a = lN b := fun e => h ((lN_eq (by omega) (by omega)).mp e)
theorem m_spent {M : zzM} {w i t : Nat} {kd : Int32} (hR : mdR M) (hw : w ≤ 1) (hi : i < 600) (h1 : zzL M 28 35 = lN t) (h2 : zzL M 28 34 = lN t) : F_Md_walk_168 lwSm M 28 (nI (600 * w + i)) kd = some ((), zzsI (zzsI M 28 50 2) 28 49 1) := by
  have hz : zzokZ 1 = true := by decide
  simp only [F_Md_walk_168, F_Md_step, plet, pcall, pck, pI_I, pI_L, pI_R, pL_I, pL_L, pL_R, pR_I, pR_L, pR_R, mR_7 hR, mr_33, w_ix mn_33 hw hi, w_k hw hi, h1, h2, pcmp_eq, if_true, hz]
/-- the reference's memory behind its step -/
def mst (M : zzM) (i t : Nat) (p : Int32) : zzM := zzsI (zzsL (zzsI M 28 52 (nI (i + 1))) 28 35 (lN (t + 1))) 28 51 p
def cst (M : zzM) (t : Nat) : zzM := zzsI M 19 8 (nI (t + 1))
set_option maxRecDepth 4000 in
theorem m_stepped {M : zzM} {w i t lim : Nat} {kd : Int32} (hR : mdR M) (hw : w ≤ 1) (hi : i < 600) (h1 : zzL M 28 35 = lN t) (h2 : zzL M 28 34 = lN lim) (ht : t < lim) (hl : lim ≤ 300) : F_Md_walk_168 lwSm (zzsI M 28 52 (nI (i + 1))) 28 (nI (600 * w + i)) kd = (if kd = 1 ∨ kd = 2 ∨ kd = 3 then F_Md_store lwSm (mst M i t (plM M w i)) 28 kd (nI (600 * w + i)) else if kd = 7 then zzcall (F_Md_handle lwSm (mst M i t (plM M w i)) 28 7 (zzI (mst M i t (plM M w i)) 28 45)) (fun _ N => some ((), zzsI N 28 45 (zzI N 28 45 + 1))) else if kd = 9 then F_Md_handle lwSm (mst M i t (plM M w i)) 28 9 (tgM M w i) else if kd = 18 then F_Md_call lwSm (mst M i t (plM M w i)) 28 (gvM M w i) else F_Md_act lwSm (mst M i t (plM M w i)) 28 kd (nI (600 * w + i))) := by
  have hR1 : mdR (zzsI M 28 52 (nI (i + 1))) := hR
  have hR2 : mdR (mst M i t (plM M w i)) := hR
  have hne : ¬ lN t = lN lim := lN_ne (by omega) hl (by omega)
  have hst : F_Md_step lwSm (zzsI M 28 52 (nI (i + 1))) 28 (plM M w i) = some (1, mst M i t (plM M w i)) := by
    simp only [F_Md_step, plet, pcall, pck, pI_I, pI_L, pI_R, pL_I, pL_L, pL_R, pR_I, pR_L, pR_R, h1, h2, pcmp_eq, if_neg hne, lN_1, mst]
  have z1 : zzI (zzsI M 28 52 (nI (i + 1))) 33 (600 * w + i) = plM M w i := by simp [mst, plet, pcall, pck, pI_I, pI_L, pI_R, pL_I, pL_L, pL_R, pR_I, pR_L, pR_R]
  have z2 : zzI (mst M i t (plM M w i)) 37 (600 * w + i) = tgM M w i := by simp [mst, plet, pcall, pck, pI_I, pI_L, pI_R, pL_I, pL_L, pL_R, pR_I, pR_L, pR_R]
  have z3 : zzI (mst M i t (plM M w i)) 34 (600 * w + i) = gvM M w i := by simp [mst, plet, pcall, pck, pI_I, pI_L, pI_R, pL_I, pL_L, pL_R, pR_I, pR_L, pR_R]
  simp only [F_Md_walk_168, mR_7 hR1, mr_33, w_ix mn_33 hw hi, w_k hw hi, plet, z1, hst, pcall, mR_11 hR2, mr_37, w_ix mn_37 hw hi, z2, mR_8 hR2, mr_34, w_ix mn_34 hw hi, z3]
  rw [if_neg (show ¬ (1 : Int32) = 0 by decide)]
  by_cases k1 : kd = 1
  · simp only [k1, if_true, true_or]; exact zc_u _
  · by_cases k2 : kd = 2
    · simp only [k2, if_true, or_true, true_or, if_neg (show ¬ (2 : Int32) = 1 by decide)]; exact zc_u _
    · by_cases k3 : kd = 3
      · simp only [k3, if_true, or_true, if_neg (show ¬ (3 : Int32) = 1 by decide), if_neg (show ¬ (3 : Int32) = 2 by decide)]; exact zc_u _
      · by_cases k7 : kd = 7
        · subst k7; rfl
        · by_cases k9 : kd = 9
          · simp only [k9]; exact zc_u _
          · by_cases k18 : kd = 18
            · simp only [k18]; exact zc_u _
            · simp only [k1, k2, k3, k7, k9, k18, or_self, if_false, ite_self]; exact zc_u _
theorem c_step_n {S : zzS} {M : zzM} {t lim : Nat} (hS : clS S) (hC : clR M) (h1 : zzI M 19 8 = nI t) (h2 : zzI M 27 4 = nI lim) (h : lim ≤ t) (hb : t ≤ 300) : F_Wk_step S M 27 = some (0, M) := by
  simp only [F_Wk_step, plet, pcall, pck, pI_I, pI_L, pI_R, pL_I, pL_L, pL_R, pR_I, pR_L, pR_R, cR_27_2 hC, cr_19 hS, h1, h2, if_neg (nI_nlt h (by omega))]
theorem c_step_y {S : zzS} {M : zzM} {t lim : Nat} (hS : clS S) (hC : clR M) (h1 : zzI M 19 8 = nI t) (h2 : zzI M 27 4 = nI lim) (h : t < lim) (hb : lim ≤ 300) : F_Wk_step S M 27 = some (1, cst M t) := by
  simp only [F_Wk_step, plet, pcall, pck, pI_I, pI_L, pI_R, pL_I, pL_L, pL_R, pR_I, pR_L, pR_R, cR_27_2 hC, cr_19 hS, h1, h2, if_pos (nI_lt h (by omega)), ← nI_succ]
  rfl
theorem st_facts {S : zzS} {Mc Mm : zzM} {w o ll t i c h l p : Nat} (hD : dW S Mc Mm w o ll t) (ht : t < 300) (hm : mS Mm i c h) : dW S (cst Mc t) (mst Mm i t (nI p)) w o ll (t + 1) ∧ mS (mst Mm i t (nI p)) (i + 1) c h ∧ fw l h c Mc (cst Mc t) Mm (mst Mm i t (nI p)) ∧ errS Mc (cst Mc t) ∧ zzI (mst Mm i t (nI p)) 28 51 = nI p := by
  have gc : fcC Mc (cst Mc t) := fun a ha => ⟨fun j => by rw [cst, pI_I, if_neg (by omega)], fun _ => rfl⟩
  have gm : fmC Mm (mst Mm i t (nI p)) := ⟨fun a h1 h2 j => by simp only [mst, plet, pcall, pck, pI_I, pI_L, pI_R, pL_I, pL_L, pL_R, pR_I, pR_L, pR_R]; rw [if_neg (by omega), if_neg (by omega)], fun k hk => by simp only [mst, plet, pcall, pck, pI_I, pI_L, pI_R, pL_I, pL_L, pL_R, pR_I, pR_L, pR_R]; simp only [if_true]; rw [if_neg (by omega), if_neg (by omega)], rfl⟩
  refine ⟨?_, ⟨rfl, hm.2.1, hm.2.2.1, hm.2.2.2⟩, ⟨gc, ⟨fun _ _ _ _ _ => rfl, fun j _ => rfl, rfl, rfl, rfl⟩, gm, ⟨fun a h1 h2 j _ => ?_, fun j _ => rfl, fun j _ => rfl, fun j _ => rfl⟩⟩, ⟨rfl, rfl, rfl⟩, rfl⟩
  · obtain ⟨⟨h1, h2, h3, h4, ⟨v1, v2, v3, v4, v5, v6, v7, v8⟩, h6, h7, h8, h9⟩, h10, a, h11, h12, h13⟩ := hD
    exact ⟨⟨h1, h2, h3, h4, ⟨v1, v2, v3, v4, v5, v6, v7, v8⟩, h6.to gc gm rfl rfl (fun _ => rfl) (fun _ => rfl), rfl, rfl, by omega⟩, h10, a, by omega, h12, h13⟩
  · simp only [mst, plet, pcall, pck, pI_I, pI_L, pI_R, pL_I, pL_L, pL_R, pR_I, pR_L, pR_R]; rw [if_neg (by omega), if_neg (by omega)]
