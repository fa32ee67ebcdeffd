/-! the query -/
theorem bit_or (a b i : Int32) : ((a ||| b) >>> i) &&& 1 = ((a >>> i) &&& 1) ||| ((b >>> i) &&& 1) := by
  apply Int32.toBitVec_inj.mp
  simp only [Int32.toBitVec_or, Int32.toBitVec_and, Int32.toBitVec_shiftRight]
  generalize (i.toBitVec.smod 32) = y
  ext j hj
  simp only [BitVec.getElem_and, BitVec.getElem_or, BitVec.sshiftRight_eq', BitVec.getElem_sshiftRight, BitVec.getLsbD_or, BitVec.msb_or]
  split <;> simp [Bool.and_or_distrib_right]
theorem bit_01 (a : Int32) : a &&& 1 = 0 ∨ a &&& 1 = 1 := by
  obtain ⟨j, h1, h2⟩ := pk_andE a (m := 1) 1 (by decide)
  rw [h2]
  have : j = 0 ∨ j = 1 := by omega
  rcases this with h | h <;> subst h
  · exact Or.inl (by decide)
  · exact Or.inr (by decide)
def btF (bits : Int32) (i : Nat) : Bool := (bits >>> (nI i &&& 31)) &&& 1 = 1
theorem btF_n {bits : Int32} {i : Nat} : btF bits i = false ↔ (bits >>> (nI i &&& 31)) &&& 1 = 0 := by
  unfold btF
  rcases bit_01 (bits >>> (nI i &&& 31)) with h | h <;> rw [h] <;> decide
theorem btF_or {bits : Int32} {k i : Nat} (hk : k < i) (hi : i < 12) (h : btF bits i = false) : btF (bits ||| (1 <<< (nI k &&& 31))) i = false := by
  rw [btF_n] at h ⊢
  rw [bit_or, h]
  have : ∀ k, k < 12 → ∀ i, i < 12 → k < i → (0 : Int32) ||| ((((1 : Int32) <<< (nI k &&& 31)) >>> (nI i &&& 31)) &&& 1) = 0 := by decide
  exact this k (by omega) i hi hk
theorem btF_0 {i : Nat} (h : i < 12) : btF 0 i = false := by
  have : ∀ i, i < 12 → btF 0 i = false := by decide
  exact this i h
def btL (bits : Int32) (k : Nat) : List Nat := (List.range k).filter (btF bits)
theorem btL_s (bits : Int32) (k : Nat) : btL bits (k + 1) = if btF bits k = true then btL bits k ++ [k] else btL bits k := by
  unfold btL
  rw [List.range_succ, List.filter_append]
  by_cases h : btF bits k = true
  · rw [if_pos h]; simp [h]
  · rw [if_neg h]; simp [h]
theorem btL_len (bits : Int32) : ∀ k, (btL bits k).length ≤ k
  | 0 => by simp [btL]
  | k + 1 => by
    have := btL_len bits k
    rw [btL_s]
    split <;> simp <;> omega
theorem btL_12 {bits : Int32} {k : Nat} (hk : k ≤ 12) (h : ∀ i, k ≤ i → i < 12 → btF bits i = false) : ∀ m, k + m ≤ 12 → btL bits (k + m) = btL bits k
  | 0, _ => rfl
  | m + 1, hm => by
    rw [← Nat.add_assoc, btL_s, if_neg (by rw [h (k + m) (by omega) (by omega)]; simp)]
    exact btL_12 hk h m (by omega)
theorem fnR_bt (bits n : Int32) (q : Nat → Int32) : fnR bits n q ↔ n = nI (btL bits 12).length ∧ ∀ i o, (btL bits 12)[i]? = some o → q i = nI o := by
  constructor
  · rintro ⟨L, rfl, h1, h2⟩
    exact ⟨h1, h2⟩
  · intro h
    exact ⟨_, rfl, h.1, h.2⟩
theorem aob_step {S : zzS} {n : Nat} : F_Md_askObjects_100 S (n + 1) = F_Md_askObjects_100_b S (F_Md_askObjects_100 S n) := rfl
/-- what the second loop leaves alone -/
def frQ (M M1 : zzM) : Prop := (∀ b j, b ≠ 50 → ¬ (b = 28 ∧ j = 40) → zzI M1 b j = zzI M b j) ∧ M1.2 = M.2
theorem frQ.tr {M M1 M2 : zzM} (h : frQ M M1) (g : frQ M1 M2) : frQ M M2 := ⟨fun b j h1 h2 => (g.1 b j h1 h2).trans (h.1 b j h1 h2), g.2.trans h.2⟩
theorem frQ.R {M M1 : zzM} (h : frQ M M1) (hR : mdR M) : mdR M1 := fun k hk => by
  have := hR k hk
  unfold zzR at this ⊢
  rw [h.2]; exact this
theorem frQ_w {M : zzM} (k : Nat) (v c : Int32) : frQ M (zzsI (zzsI M 50 k v) 28 40 c) := ⟨fun b j h1 h2 => by
  simp only [plet, pcall, pck, pI_I, pI_L, pI_R, pL_I, pL_L, pL_R, pR_I, pR_L, pR_R]
  by_cases hb : b = 28
  · rw [if_pos hb, if_neg (by omega), if_neg h1]
  · rw [if_neg hb, if_neg h1], rfl⟩
theorem m_aob {bits : Int32} {o : Nat} (ho : o ≤ 12) : ∀ (m k n : Nat) (M : zzM), k + m = o → m < n → mdR M → zzI M 28 28 = nI o → zzI M 28 40 = nI (btL bits k).length → (∀ i x, (btL bits k)[i]? = some x → zzI M 50 i = nI x) → ∃ M1, F_Md_askObjects_100 lwSm n M 28 bits (nI k) = some ((), M1) ∧ frQ M M1 ∧ zzI M1 28 40 = nI (btL bits o).length ∧ (∀ i x, (btL bits o)[i]? = some x → zzI M1 50 i = nI x)
  | 0, k, n + 1, M, h1, h2, hR, h3, h4, h5 => by
    have : k = o := by omega
    subst this
    refine ⟨M, ?_, ⟨fun _ _ _ _ => rfl, rfl⟩, h4, h5⟩
    rw [aob_step]
    simp only [F_Md_askObjects_100_b, plet, pcall, pck, pI_I, pI_L, pI_R, pL_I, pL_L, pL_R, pR_I, pR_L, pR_R, h3, if_pos (nI_le (Nat.le_refl k) (by omega))]
  | m + 1, k, n + 1, M, h1, h2, hR, h3, h4, h5 => by
    rw [aob_step]
    have hle : ¬ nI o ≤ nI k := nI_ge (by omega) (by omega)
    have hlen := btL_len bits k
    by_cases hb : btF bits k = true
    · have hb1 : ¬ (bits >>> (nI k &&& 31)) &&& 1 = 0 := fun h => by rw [btF_n.mpr h] at hb; cases hb
      have e : btL bits (k + 1) = btL bits k ++ [k] := by rw [btL_s, if_pos hb]
      simp only [F_Md_askObjects_100_b, plet, pcall, pck, pI_I, pI_L, pI_R, pL_I, pL_L, pL_R, pR_I, pR_L, pR_R, h3, if_neg hle, if_neg hb1, mR_41 hR, mr_50, h4, pix (S := lwSm) (k := (btL bits k).length) mn_50 (by omega) (by omega), pnI (show (btL bits k).length < 100000 by omega), ← nI_succ, if_neg (show ¬ 28 = 50 by decide)]
      have hq := frQ_w (M := M) (btL bits k).length (nI k) (nI ((btL bits k).length + 1))
      obtain ⟨M1, a1, a2, a3, a4⟩ := m_aob ho m (k + 1) n (zzsI (zzsI M 50 (btL bits k).length (nI k)) 28 40 (nI ((btL bits k).length + 1))) (by omega) (by omega) (hq.R hR) (by simp [plet, pcall, pck, pI_I, pI_L, pI_R, pL_I, pL_L, pL_R, pR_I, pR_L, pR_R, h3]) (by rw [e]; simp [plet, pcall, pck, pI_I, pI_L, pI_R, pL_I, pL_L, pL_R, pR_I, pR_L, pR_R]) (fun i x hx => by
        rw [e] at hx
        simp only [plet, pcall, pck, pI_I, pI_L, pI_R, pL_I, pL_L, pL_R, pR_I, pR_L, pR_R, if_neg (show ¬ 50 = 28 by decide), if_true]
        by_cases hi : i = (btL bits k).length
        · subst hi
          rw [List.getElem?_append_right (Nat.le_refl _)] at hx
          simp at hx
          rw [if_pos rfl, hx]
        · rw [if_neg hi]
          by_cases hi2 : i < (btL bits k).length
          · rw [List.getElem?_append_left hi2] at hx
            exact h5 i x hx
          · rw [List.getElem?_eq_none (by simp; omega)] at hx
            cases hx)
      exact ⟨M1, a1, hq.tr a2, a3, a4⟩
    · have hb1 : (bits >>> (nI k &&& 31)) &&& 1 = 0 := btF_n.mp (by simpa using hb)
      have e : btL bits (k + 1) = btL bits k := by rw [btL_s, if_neg hb]
      simp only [F_Md_askObjects_100_b, plet, pcall, pck, pI_I, pI_L, pI_R, pL_I, pL_L, pL_R, pR_I, pR_L, pR_R, h3, if_neg hle, if_pos hb1, ← nI_succ]
      exact m_aob ho m (k + 1) n M (by omega) (by omega) hR h3 (by rw [e]; exact h4) (by rw [e]; exact h5)
theorem dW.fnd {S : zzS} {Mc Mm Mm1 : zzM} {w o ll t : Nat} {bits : Int32} (hD : dW S Mc Mm w o ll t) (hq : frQ Mm Mm1) (h1 : zzI Mm1 28 40 = nI (btL bits 12).length) (h2 : ∀ i x, (btL bits 12)[i]? = some x → zzI Mm1 50 i = nI x) : dW S (zzsI Mc 19 6 bits) Mm1 w o ll t ∧ fX Mc (zzsI Mc 19 6 bits) Mm Mm1 := by
  have i28 : ∀ j, j ≠ 40 → zzI Mm1 28 j = zzI Mm 28 j := fun j hj => hq.1 28 j (by omega) (by omega)
  have ia : ∀ b, b ≠ 50 → b ≠ 28 → zzI Mm1 b = zzI Mm b := fun b hb hb2 => funext fun j => hq.1 b j hb (by omega)
  have la : ∀ b, zzL Mm1 b = zzL Mm b := fun b => by unfold zzL; rw [hq.2]
  have f : fX Mc (zzsI Mc 19 6 bits) Mm Mm1 := by
    have f0 := fX_I (Mc := Mc) (Mm := Mm) (a := 19) (b := 28) (k := 6) (j := 40) (v := bits) (x := zzI Mm 28 40) (by omega) (by omega)
    refine ⟨f0.1, f0.2.1, ⟨fun a h3 h4 j => hq.1 a j (by omega) (by omega), fun k hk => i28 k (by omega), by rw [la]⟩, fun b h3 h4 h5 j => hq.1 b j (by omega) (by omega), fun j => by rw [la], fun j h3 h4 => i28 j (by omega)⟩
  refine ⟨?_, f⟩
  obtain ⟨⟨⟨c1, c2, c3, c4, c5, c6⟩, ⟨m1, m2, m3, m4, m5⟩, h3, h4, ⟨v1, v2, v3, v4, v5, v6, v7, v8⟩, h6, h7, h8, h9⟩, h10, a, h11, h12, h13⟩ := hD
  refine ⟨⟨⟨c1, c2, c3, c4, c5, c6⟩, ⟨hq.R m1, ?_, m3, ?_, m5⟩, ?_, h4, ⟨?_, ?_, ?_, ?_, ?_, ?_, ?_, ?_⟩, h6.to f.1 f.2.2.1 rfl ?_ (fun _ => rfl) (fun i => ?_), h7, ?_, h9⟩, ?_, a, h11, h12, ?_⟩
  · rw [i28 28 (by omega)]; exact m2
  · rw [i28 30 (by omega)]; exact m4
  · rw [i28 3 (by omega)]; exact h3
  · rw [la]; exact v1
  · rw [la]; exact v2
  · rw [i28 36 (by omega)]; exact v3
  · rw [ia 48 (by omega) (by omega)]; exact v4
  · rw [i28 42 (by omega)]; exact v5
  · rw [ia 51 (by omega) (by omega)]; exact v6
  · have e : zzI (zzsI Mc 19 6 bits) 19 6 = bits := by simp [plet, pcall, pck, pI_I, pI_L, pI_R, pL_I, pL_L, pL_R, pR_I, pR_L, pR_R]
    rw [e, fnR_bt]
    exact ⟨h1, h2⟩
  · rw [i28 44 (by omega)]; exact v8
  · rw [i28 38 (by omega)]
  · rw [ia 49 (by omega) (by omega)]
  · rw [la]; exact h8
  · rw [la]; exact h10
  · rw [i28 45 (by omega)]; exact h13
theorem cask_step {S : zzS} {n : Nat} : F_Wk_ask_17 S (n + 1) = F_Wk_ask_17_b S (F_Wk_ask_17 S n) := rfl
theorem mask_step {S : zzS} {n : Nat} : F_Md_askObjects_14 S (n + 1) = F_Md_askObjects_14_b S (F_Md_askObjects_14 S n) := rfl
theorem oO.pre {S : zzS} {w p s t : Nat} {Mc Mm Mc1 Mm1 : zzM} {x : Option (Int32 × zzM)} {y : Option (Unit × zzM)} (f : fX Mc Mc1 Mm Mm1) (e : errS Mc Mc1) (h : oO S w p s t Mc1 Mm1 x y) : oO S w p s t Mc Mm x y := by
  rcases h with ⟨a, b, c, d, h1, h2, h3, h4, h5⟩ | ⟨a, b, c, d, k, v, h1, h2, h3, h4, h5, h6⟩
  · exact Or.inl ⟨a, b, c, d, h1, h2, h3, f.tr h4, e.tr h5⟩
  · exact Or.inr ⟨a, b, c, d, k, v, h1, h2, h3, h4, f.tr h5, h6⟩
theorem w_ask_loop {S : zzS} {w o ll t s p i : Nat} {old : Int64} (hs63 : 63 ≤ s) (hs : s < S.2.1) (hk : zzk S s = 13) (hi : i < 600) : ∀ (m k n n2 : Nat) (Mc Mm : zzM) (bits : Int32), k + m = o → m < n → m < n2 → dW S Mc Mm w o ll t → zzI Mm 28 51 = nI p → exR S Mc Mm w (zzR Mc s 5) (seM Mm w i) → (∀ i, k ≤ i → i < 12 → btF bits i = false) → oO S w p s t Mc Mm (F_Wk_ask_17 S n Mc 27 (some s) old bits (nI k)) (F_Md_askObjects_14 lwSm n2 Mm 28 (nI (600 * w + i)) old bits (nI k))
  | 0, k, n + 1, n2 + 1, Mc, Mm, bits, h1, h2, h2', hD, hp, he, hb => by
    have : k = o := by omega
    subst this
    obtain ⟨hS, hC, hc3, hc4, -⟩ := hD.1.1
    obtain ⟨hR, hm2, -⟩ := hD.1.2.1
    have hle : nI k ≤ nI k := nI_le (Nat.le_refl k) (by omega)
    have hD1 := hD.var 25 old
    have hC1 : clR (zzsL Mc 17 25 old) := hC
    have hn : nmF (zzsL Mm 47 25 old) (zzsL Mm 47 25 old) := nmF.rf _
    have h12 := btL_12 hc4 hb (12 - k) (by omega)
    rw [show k + (12 - k) = 12 by omega] at h12
    obtain ⟨M1, a1, a2, a3, a4⟩ := m_aob (bits := bits) hc4 k 0 2000 (zzsI (zzsL Mm 47 25 old) 28 40 0) (by omega) (by omega) hR (by simp [plet, pcall, pck, pI_I, pI_L, pI_R, pL_I, pL_L, pL_R, pR_I, pR_L, pR_R]; exact hm2) (by simp [btL, plet, pcall, pck, pI_I, pI_L, pI_R, pL_I, pL_L, pL_R, pR_I, pR_L, pR_R]; exact nI_of_0) (by simp [btL])
    have hq : frQ (zzsL Mm 47 25 old) M1 := by
      refine ⟨fun b j h3 h4 => ?_, a2.2⟩
      rw [a2.1 b j h3 h4, pI_I]
      by_cases hb : b = 28
      · rw [if_pos hb, if_neg (by omega)]
      · rw [if_neg hb]
    obtain ⟨d1, d2⟩ := hD1.fnd hq (by rw [h12]; exact a3) (by rw [h12]; exact a4)
    refine Or.inl ⟨_, M1, k, ll, ?_, ?_, d1, (fX_L (by omega) (by omega)).tr d2, ⟨rfl, rfl, rfl⟩⟩
    · rw [cask_step]
      simp only [F_Wk_ask_17_b, plet, pcall, pck, pI_I, pI_L, pI_R, pL_I, pL_L, pL_R, pR_I, pR_L, pR_R, cR_27_0 hC, cr_5 hS, hc3, if_pos hle, cR_27_1 hC, cr_16 hS, cR_16_1 hC, cr_17 hS, cR_27_2 hC, cr_19 hS]
      rw [show (25 : Int32) = nI 25 from rfl, pix (cn_17 hS) (by omega) (by omega), pnI (by omega)]
    · rw [mask_step]
      simp only [F_Md_askObjects_14_b, plet, pcall, pck, pI_I, pI_L, pI_R, pL_I, pL_L, pL_R, pR_I, pR_L, pR_R, hm2, if_pos hle, mR_33 hR, mr_47]
      rw [show (25 : Int32) = nI 25 from rfl, pix (S := lwSm) mn_47 (by omega) (by omega), pnI (by omega)]
      exact a1
  | m + 1, k, n + 1, n2 + 1, Mc, Mm, bits, h1, h2, h2', hD, hp, he, hb => by
    obtain ⟨hS, hC, hc3, hc4, -⟩ := hD.1.1
    obtain ⟨hR, hm2, -⟩ := hD.1.2.1
    have hw := hD.1.2.2.2.1
    have hle : ¬ nI o ≤ nI k := nI_ge (by omega) (by omega)
    have f1 : fX Mc (zzsL Mc 17 25 (nI k).toInt64) Mm (zzsL Mm 47 25 (nI k).toInt64) := fX_L (by omega) (by omega)
    have hD1 := hD.var 25 (nI k).toInt64
    obtain ⟨Mc1, Mm1, er, val, a1, a2, a3, a4, a5, a6, a7⟩ := w_val hD1 (he.go f1.1 f1.2.2.1)
    have hC1 := a3.cR (clR_L hC)
    have g2 : zzI Mm1 28 51 = nI p := (a4.1 28 51 (by omega)).trans hp
    have hD2 := hD1.KA a3 a4
    have f2 := f1.tr (fX_KA a3 a4)
    have e2 : errS Mc Mc1 := (show errS Mc (zzsL Mc 17 25 (nI k).toInt64) from ⟨rfl, rfl, rfl⟩).tr (errS_K a3)
    rw [cask_step, mask_step]
    simp only [F_Wk_ask_17_b, F_Md_askObjects_14_b, plet, pcall, pck, pI_I, pI_L, pI_R, pL_I, pL_L, pL_R, pR_I, pR_L, pR_R, cR_27_0 hC, cr_5 hS, hc3, if_neg hle, cR_27_1 hC, cr_16 hS, cR_16_1 hC, cr_17 hS, poptp hs hk, hm2, mR_33 hR, mr_47, mR_10 hR, mr_36, w_ix mn_36 hw hi, w_k hw hi]
    rw [show (25 : Int32) = nI 25 from rfl, pix (S := lwSm) mn_47 (by omega) (by omega), pix (cn_17 hS) (by omega) (by omega), pnI (show 25 < 100000 by omega), a1, a2]
    simp only [plet, pcall, pck, pI_I, pI_L, pI_R, pL_I, pL_L, pL_R, pR_I, pR_L, pR_R, cR_27_1 hC1, cr_16 hS, a5]
    by_cases h0 : er = 0
    · subst h0
      simp only [if_true, a7 rfl, pcmp_eq]
      rw [if_neg (show ¬ (1 : Int32) = 0 by decide), ← nI_succ]
      refine oO.pre f2 e2 ?_
      have he2 : exR S Mc1 Mm1 w (zzR Mc1 s 5) (seM Mm1 w i) := by
        rw [(f2.1 s (by omega)).2 5, seM, f2.2.2.1.1 36 (by omega) (by omega)]
        exact he.go f2.1 f2.2.2.1
      by_cases hv : val = 0
      · rw [if_pos hv, if_pos hv]
        exact w_ask_loop hs63 hs hk hi m (k + 1) n n2 Mc1 Mm1 bits (by omega) (by omega) (by omega) hD2 g2 he2 (fun i h3 h4 => hb i (by omega) h4)
      · rw [if_neg hv, if_neg hv]
        exact w_ask_loop hs63 hs hk hi m (k + 1) n n2 Mc1 Mm1 _ (by omega) (by omega) (by omega) hD2 g2 he2 (fun i h3 h4 => btF_or (by omega) h4 (hb i (by omega) h4))
    · rw [if_neg h0, if_pos (if10.mpr h0), c_fail hS hC1, pcall]
      refine oO_fail (kd := er) (v := 0) h0 hD2 f2 rfl ?_
      rw [a6, g2]
theorem w_ask {S : zzS} {Mc Mm : zzM} {w o ll t s p i : Nat} (hD : dW S Mc Mm w o ll t) (hs63 : 63 ≤ s) (hs : s < S.2.1) (hk : zzk S s = 13) (hi : i < 600) (hp : zzI Mm 28 51 = nI p) (he : exR S Mc Mm w (zzR Mc s 5) (seM Mm w i)) : oO S w p s t Mc Mm (F_Wk_ask S Mc 27 (some s)) (zzcall (F_Md_askObjects lwSm Mm 28 (nI (600 * w + i))) fun r30 M => some ((), M)) := by
  obtain ⟨hS, hC, hc3, hc4, -⟩ := hD.1.1
  obtain ⟨hR, hm2, -⟩ := hD.1.2.1
  have hw := hD.1.2.2.2.1
  have h := w_ask_loop (old := zzL Mc 17 25) (i := i) hs63 hs hk hi o 0 2000 2000 Mc Mm 0 (by omega) (by omega) (by omega) hD hp he (fun i _ h => btF_0 h)
  have ex : F_Wk_ask S Mc 27 (some s) = F_Wk_ask_17 S 2000 Mc 27 (some s) (zzL Mc 17 25) 0 (nI 0) := by
    simp only [F_Wk_ask, plet, pcall, pck, pI_I, pI_L, pI_R, pL_I, pL_L, pL_R, pR_I, pR_L, pR_R, cR_27_1 hC, cr_16 hS, cR_16_1 hC, cr_17 hS]
    rw [show (25 : Int32) = nI 25 from rfl, pix (cn_17 hS) (by omega) (by omega), pnI (by omega)]
    rfl
  have ey : F_Md_askObjects lwSm Mm 28 (nI (600 * w + i)) = F_Md_askObjects_14 lwSm 2000 Mm 28 (nI (600 * w + i)) (zzL Mc 17 25) 0 (nI 0) := by
    rw [hD.2.1]
    simp only [F_Md_askObjects, plet, pcall, pck, pI_I, pI_L, pI_R, pL_I, pL_L, pL_R, pR_I, pR_L, pR_R, mR_33 hR, mr_47]
    rw [show (25 : Int32) = nI 25 from rfl, pix (S := lwSm) mn_47 (by omega) (by omega), pnI (by omega)]
    rfl
  rw [ex, ey]
  rcases h with ⟨a, b, c, d, h1, h2, h3⟩ | ⟨a, b, c, d, k, v, h1, h2, h3⟩
  · exact Or.inl ⟨a, b, c, d, h1, by rw [h2, pcall], h3⟩
  · refine Or.inr ⟨a, b, c, d, k, v, h1, ?_, h3⟩
    rw [h2]
    cases F_Md_raise lwSm b 28 k (nI p) v <;> rfl
