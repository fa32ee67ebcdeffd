/-! the simple calls, second half -/
theorem btL_at {bits : Int32} {k : Nat} (h : btF bits k = true) : ∀ m, (btL bits (k + 1 + m))[(btL bits k).length]? = some k
  | 0 => by rw [Nat.add_zero, btL_s, if_pos h]; simp
  | m + 1 => by
    have ih := btL_at h m
    rw [← Nat.add_assoc, btL_s]
    split
    · rw [List.getElem?_append_left]
      · exact ih
      · rcases Nat.lt_or_ge (btL bits k).length (btL bits (k + 1 + m)).length with h1 | h1
        · exact h1
        · rw [List.getElem?_eq_none h1] at ih; cases ih
    · exact ih
theorem fnd_step {S : zzS} {n : Nat} : F_Rp_foundAt_4 S (n + 1) = F_Rp_foundAt_4_b S (F_Rp_foundAt_4 S n) := rfl
theorem c_fnd {S : zzS} {M : zzM} {u bits : Int32} (hb : zzI M 19 6 = bits) : ∀ m k n, k + m = 12 → m < n → (∀ i o, (btL bits 12)[i]? = some o → u = nI i → (btL bits k).length ≤ i → F_Rp_foundAt_4 S n M 19 u (nI (btL bits k).length) (nI k) = some (nI o, M)) ∧ ((∀ i, (btL bits k).length ≤ i → i < (btL bits 12).length → u ≠ nI i) → F_Rp_foundAt_4 S n M 19 u (nI (btL bits k).length) (nI k) = some (-1, M))
  | 0, k, n + 1, hk, _ => by
    have hk : k = 12 := by omega
    subst hk
    refine ⟨fun i o h1 _ h3 => ?_, fun _ => ?_⟩
    · rw [List.getElem?_eq_none h3] at h1; cases h1
    · rw [fnd_step]
      unfold F_Rp_foundAt_4_b
      rw [if_pos (by decide)]
  | m + 1, k, n + 1, hk, hn => by
    have ih := c_fnd (S := S) (M := M) (u := u) hb m (k + 1) n (by omega) (by omega)
    have hl := btL_len bits k
    have hlt : ¬ (12 : Int32) ≤ nI k := nI_ge (b := 12) (by omega) (by omega)
    rw [fnd_step]
    unfold F_Rp_foundAt_4_b
    rw [if_neg hlt, plet, plet, hb, plet]
    by_cases hf : btF bits k = true
    · have hf2 : bits >>> (nI k &&& 31) &&& 1 = 1 := by simpa [btF] using hf
      have hat := btL_at hf m
      rw [show k + 1 + m = 12 by omega] at hat
      have hlen : (btL bits (k + 1)).length = (btL bits k).length + 1 := by rw [btL_s, if_pos hf]; simp
      rw [if_pos hf2]
      rw [hlen] at ih
      refine ⟨fun i o h1 h2 h3 => ?_, fun h => ?_⟩
      · by_cases hi : i = (btL bits k).length
        · subst hi
          rw [hat] at h1
          cases h1
          rw [if_pos h2.symm]
        · have hil : i < (btL bits 12).length := by
            rcases Nat.lt_or_ge i (btL bits 12).length with h4 | h4
            · exact h4
            · rw [List.getElem?_eq_none h4] at h1; cases h1
          have := btL_len bits 12
          rw [if_neg (fun e => hi (by rw [h2] at e; exact ((peq (by omega) (by omega)).mp e).symm)), plet, plet, ← nI_succ, ← nI_succ]
          exact ih.1 i o h1 h2 (by omega)
      · have hcl : (btL bits k).length < (btL bits 12).length := by
          rcases Nat.lt_or_ge (btL bits k).length (btL bits 12).length with h4 | h4
          · exact h4
          · rw [List.getElem?_eq_none h4] at hat; cases hat
        rw [if_neg (fun e => h _ (Nat.le_refl _) hcl e.symm), plet, plet, ← nI_succ, ← nI_succ]
        exact ih.2 (fun i h1 h2 => h i (by omega) h2)
    · have hf2 : ¬ bits >>> (nI k &&& 31) &&& 1 = 1 := by simpa [btF] using hf
      have hlen : btL bits (k + 1) = btL bits k := by rw [btL_s, if_neg hf]
      rw [if_neg hf2, plet, ← nI_succ]
      rw [hlen] at ih
      exact ih
theorem pu_query {S : zzS} {Mc Mm : zzM} (H : puRel S Mc Mm) : lwO_query puRel S Mc Mm := by
  intro u
  obtain ⟨T, N, w, o, ll, t, sc, H⟩ := H
  obtain ⟨hS, hC, hR, h63⟩ := pu_dat H
  have H0 := H
  obtain ⟨⟨_, _, _, _, ⟨v1, v2, v3, v4, v5, v6, v7, v8, v9⟩, _⟩, _⟩ := H0
  rw [fnR_bt] at v7
  obtain ⟨f1, f2⟩ := v7
  have hl := btL_len (zzI Mc 19 6) 12
  have e : zzI (zzsI Mm 28 0 0) 28 40 = nI (btL (zzI Mc 19 6) 12).length := f1
  obtain ⟨q1, q2⟩ := c_fnd (S := S) (M := Mc) (u := u) rfl 12 0 2000 (by omega) (by omega)
  have e0 : (btL (zzI Mc 19 6) 0).length = 0 := by simp [btL]
  rw [e0] at q1 q2
  have ec : F_Bs_query S Mc 0 u = F_Rp_foundAt_4 S 2000 Mc 19 u (nI 0) (nI 0) := by
    simp only [F_Bs_query, F_Rp_foundAt]
    rw [cR_0_7 hC, cr_19 hS, zc_id]
    rfl
  rw [← ec] at q1 q2
  by_cases hu : u < 0
  · refine ⟨-1, Mc, zzsI Mm 28 0 0, q2 (fun i _ h2 e => ?_), ?_, T, N, w, o, ll, t, sc, pu_neu H (gS.rf _) (ncQ.rf _ _) nmQ_0⟩
    · rw [e] at hu
      exact nI_pos (by omega) hu
    · simp only [F_Md_query]
      rw [plet, if_pos hu]
  · obtain ⟨i, hi, rfl⟩ := nI_of hu
    by_cases hil : i < (btL (zzI Mc 19 6) 12).length
    · obtain ⟨x, hx⟩ : ∃ x, (btL (zzI Mc 19 6) 12)[i]? = some x := ⟨_, List.getElem?_eq_getElem hil⟩
      refine ⟨nI x, Mc, zzsI Mm 28 0 0, q1 i x hx rfl (by omega), ?_, T, N, w, o, ll, t, sc, pu_neu H (gS.rf _) (ncQ.rf _ _) nmQ_0⟩
      have e50 : zzI (zzsI Mm 28 0 0) 50 i = nI x := f2 i x hx
      simp only [F_Md_query]
      rw [plet, if_neg hu, plet, e, if_neg (nI_ge hil (by omega)), mR_41 (mdR_I hR), mr_50, pix mn_50 (show i < 12 by omega) (by omega), plet, pnI (show i < 100000 by omega), e50]
    · refine ⟨-1, Mc, zzsI Mm 28 0 0, q2 (fun j _ h2 e => ?_), ?_, T, N, w, o, ll, t, sc, pu_neu H (gS.rf _) (ncQ.rf _ _) nmQ_0⟩
      · have := (nI_eq hi (show j < 2 ^ 31 by omega)).mp e
        omega
      · simp only [F_Md_query]
        rw [plet, if_neg hu, plet, e, if_pos (nI_le (by omega) hi)]
theorem o62 {S : zzS} (hS : clS S) (M : zzM) (x : Int64) : (zzopt S 2 (some 62) none fun b => zzix S b (0 : Int32) (zzlet (zzsL M b ((0 : Int32)).toNatClampNeg x) fun M => some ((0 : Int32), M))) = some (0, zzsL M 62 0 x) := by
  have h1 : 62 < S.2.1 := by have := hS.2.2.2; omega
  have h2 : zzk S 62 = 2 := by unfold zzk; rw [hS.2.1]
  have h3 : zzn S 62 = 1 := by unfold zzn; rw [hS.2.1]
  rw [poptp h1 h2, ← nI_0, pix h3 (show 0 < 1 by omega) (by omega)]
  rfl
theorem s62 {M : zzM} {x : Int64} : zzL (zzsL M 62 0 x) 62 0 = x := by simp [plet, pcall, pck, pI_I, pI_L, pI_R, pL_I, pL_L, pL_R, pR_I, pR_L, pR_R]
theorem thr {M : zzM} {v : Int32} (h : zzI M 28 0 = v) : F_Md_thrown lwSm M 28 = some (v, M) := by
  unfold F_Md_thrown; rw [plet, h]
theorem pu_62 {S : zzS} {Mc Mm : zzM} {x : Int64} (H : puRel S Mc Mm) : puRel S (zzsL Mc 62 0 x) Mm := by
  obtain ⟨T, N, w, o, ll, t, sc, H⟩ := H
  exact ⟨T, N, w, o, ll, t, sc, pu_neu H (gS.rf _) ncQ_62 (nmQ.rf _ _)⟩
theorem pu_0 {S : zzS} {Mc Mm : zzM} {v : Int32} (H : puRel S Mc Mm) : puRel S Mc (zzsI Mm 28 0 v) := by
  obtain ⟨T, N, w, o, ll, t, sc, H⟩ := H
  exact ⟨T, N, w, o, ll, t, sc, pu_neu H (gS.rf _) (ncQ.rf _ _) nmQ_0⟩
theorem pu_junk {S : zzS} {Mc Mm : zzM} (H : puRel S Mc Mm) : puRel (zzjunk S) Mc Mm := by
  obtain ⟨T, N, w, o, ll, t, sc, H⟩ := H
  exact ⟨T, N, w, o, ll, t, sc, pu_neu H (gS_junk _) (ncQ.rf _ _) (nmQ.rf _ _)⟩
theorem pu_output {S : zzS} {Mc Mm : zzM} (H : puRel S Mc Mm) : lwO_output puRel S Mc Mm := by
  intro u
  have Hr := H
  obtain ⟨T, N, w, o, ll, t, sc, H⟩ := H
  obtain ⟨hS, hC, hR, h63⟩ := pu_dat H
  obtain ⟨⟨_, _, _, _, ⟨v1, v2, ⟨k, k1, k2, k3⟩, v4, v5, v6, v7, v8, v9⟩, _⟩, _⟩ := H
  have t1 : zzI (zzsI Mm 28 0 1) 28 0 = 1 := by simp [plet, pcall, pck, pI_I, pI_L, pI_R, pL_I, pL_L, pL_R, pR_I, pR_L, pR_R]
  have t0 : zzI (zzsI Mm 28 0 0) 28 0 = 0 := by simp [plet, pcall, pck, pI_I, pI_L, pI_R, pL_I, pL_L, pL_R, pR_I, pR_L, pR_R]
  by_cases hu : u < 0
  · refine Or.inr ⟨0, Mc, zzsI Mm 28 0 1, ?_, ?_, thr t1, pu_junk (pu_0 Hr)⟩
    · unfold FT_Bs_output
      rw [if_pos hu]
    · unfold F_Md_output
      rw [if_pos hu, plet, plet, t1, if_neg (by decide)]
  · obtain ⟨i, hi, rfl⟩ := nI_of hu
    by_cases hik : i < k
    · left
      refine ⟨zzI Mc 20 i, zzsL Mc 62 0 (zzI Mc 20 i).toInt64, zzsI Mm 28 0 0, ?_, ?_, thr t0, s62, pu_62 (pu_0 Hr)⟩
      · unfold F_Lw_output
        rw [cO_0 hS]
        simp only [F_Bs_output]
        rw [if_neg hu, cR_0_7 hC, cr_19 hS, plet, k2, if_pos (nI_lt hik (by omega)), cr_19 hS, cR_19_0 hC, cr_20 hS, pix (cn_20 hS) (show i < 40 by omega) (by omega), plet, pnI (show i < 100000 by omega), pcall, plet, o62 hS]
      · have e : zzI (zzsI Mm 28 0 0) 48 i = zzI Mc 20 i := by rw [v4]; rfl
        unfold F_Md_output
        rw [if_neg hu, plet, k3, if_neg (nI_ge hik (by omega)), plet, plet, t0, if_pos rfl, mR_37 (mdR_I hR), mr_48, pix mn_48 (show i < 40 by omega) (by omega), plet, pnI (show i < 100000 by omega), e]
    · refine Or.inr ⟨0, Mc, zzsI Mm 28 0 1, ?_, ?_, thr t1, pu_junk (pu_0 Hr)⟩
      · unfold FT_Bs_output
        rw [if_neg hu, cR_0_7 hC, cr_19 hS, plet, k2, if_neg (nI_nlt (by omega) hi)]
      · unfold F_Md_output
        rw [if_neg hu, plet, k3, if_pos (nI_le (by omega) hi), plet, plet, t1, if_neg (by decide)]
theorem pu_error {S : zzS} {Mc Mm : zzM} (H : puRel S Mc Mm) : lwO_error puRel S Mc Mm := by
  intro u
  have Hr := H
  obtain ⟨T, N, w, o, ll, t, sc, H⟩ := H
  obtain ⟨hS, hC, hR, h63⟩ := pu_dat H
  obtain ⟨_, _, _, _, _, _, e1, e2, e3⟩ := H
  have t1 : zzI (zzsI Mm 28 0 1) 28 0 = 1 := by simp [plet, pcall, pck, pI_I, pI_L, pI_R, pL_I, pL_L, pL_R, pR_I, pR_L, pR_R]
  have t0 : zzI (zzsI Mm 28 0 0) 28 0 = 0 := by simp [plet, pcall, pck, pI_I, pI_L, pI_R, pL_I, pL_L, pL_R, pR_I, pR_L, pR_R]
  have hgood : ∀ r, F_Bs_error S Mc 0 u = some (r, Mc) → F_Md_error lwSm Mm 28 u = some (r, zzsI Mm 28 0 0) → (∃ r Mc1 Mm1, F_Lw_error S Mc (some 0) u (some 62) = some (0, Mc1) ∧ F_Md_error lwSm Mm 28 u = some (r, Mm1) ∧ F_Md_thrown lwSm Mm1 28 = some (0, Mm1) ∧ zzL Mc1 62 0 = r.toInt64 ∧ puRel S Mc1 Mm1) := fun r h1 h2 => by
    refine ⟨r, zzsL Mc 62 0 r.toInt64, zzsI Mm 28 0 0, ?_, h2, thr t0, s62, pu_62 (pu_0 Hr)⟩
    unfold F_Lw_error
    rw [cO_0 hS, h1, pcall, plet, o62 hS]
  by_cases h0 : u = 0
  · subst h0
    refine Or.inl (hgood (zzI Mc 19 9) ?_ ?_)
    · unfold F_Bs_error
      rw [if_pos rfl, cR_0_7 hC, cr_19 hS, plet]
    · unfold F_Md_error F_Md_error_15
      rw [if_neg (by decide), if_neg (by decide), plet, plet, t0, if_pos rfl, if_pos rfl, plet, e1]
      rfl
  · by_cases h1 : u = 1
    · subst h1
      have em : F_Md_error lwSm Mm 28 1 = some (zzI Mm 28 47, zzsI Mm 28 0 0) := by
        unfold F_Md_error F_Md_error_15
        rw [if_neg (by decide), if_neg (by decide), plet, plet, t0, if_pos rfl, if_neg (by decide), if_pos rfl, plet]
        rfl
      rcases e3 with ⟨f1, f2⟩ | ⟨s, p, f1, f2, f3⟩
      · refine Or.inl (hgood (-1) ?_ (by rw [em, f2]))
        unfold F_Bs_error
        rw [if_neg (by decide), if_pos rfl, cR_0_7 hC, cr_19 hS, plet, f1, poptn]
      · refine Or.inl (hgood (nI p) ?_ (by rw [em, f2]))
        unfold F_Bs_error
        rw [if_neg (by decide), if_pos rfl, cR_0_7 hC, cr_19 hS, plet, f1, poptp f3.2.1 f3.2.2.1, cr_19 hS, plet, f1, poptp f3.2.1 f3.2.2.1, plet, f3.2.2.2.2.1]
    · by_cases h2 : u = 2
      · subst h2
        refine Or.inl (hgood (zzI Mc 19 11) ?_ ?_)
        · unfold F_Bs_error
          rw [if_neg (by decide), if_neg (by decide), if_pos rfl, cR_0_7 hC, cr_19 hS, plet]
        · unfold F_Md_error F_Md_error_15
          rw [if_neg (by decide), if_neg (by decide), plet, plet, t0, if_pos rfl, if_neg (by decide), if_neg (by decide), plet, e2]
          rfl
      · refine Or.inr ⟨0, Mc, zzsI Mm 28 0 1, ?_, ?_, thr t1, pu_junk (pu_0 Hr)⟩
        · unfold FT_Bs_error
          rw [if_neg h0, if_neg h1, if_neg h2]
        · have ht : F_Md_error_14 lwSm Mm 28 u 28 = some (0, zzsI Mm 28 0 1) := by
            unfold F_Md_error_14 F_Md_error_15
            rw [plet, plet, t1, if_neg (by decide)]
          unfold F_Md_error
          by_cases hu : u < 0
          · rw [if_pos hu]; exact ht
          · obtain ⟨i, hi, rfl⟩ := nI_of hu
            have : 3 ≤ i := by
              have g0 : i ≠ 0 := fun e => h0 (by rw [e]; rfl)
              have g1 : i ≠ 1 := fun e => h1 (by rw [e]; rfl)
              have g2 : i ≠ 2 := fun e => h2 (by rw [e]; rfl)
              omega
            rw [if_neg hu, if_pos (show (3 : Int32) ≤ nI i from nI_le (a := 3) this hi)]
            exact ht
theorem lin_step {S : zzS} {n : Nat} : F_Md_line_19 S (n + 1) = F_Md_line_19_b S (F_Md_line_19 S n) := rfl
theorem e400 {w i : Nat} : (400 : Int32) * nI w + nI i = nI (400 * w + i) := by show nI 400 * nI w + nI i = _; rw [nI_mul, nI_add]
theorem m_lin {M : zzM} {w p : Nat} (hR : mdR M) (h3 : zzI M 28 3 = nI w) (hw : w ≤ 1) (h47 : zzI M 28 47 = nI p) (hp : p < 400) : ∀ m k n, k + m = p → m < n → F_Md_line_19 lwSm n M 28 (nI (lnT (fun i => zzI M 31 (400 * w + i)) k)) (nI k) = some (nI (lnT (fun i => zzI M 31 (400 * w + i)) p), M)
  | 0, k, n + 1, hk, _ => by
    have : k = p := by omega
    subst this
    rw [lin_step]
    unfold F_Md_line_19_b
    rw [plet, h47, if_pos (nI_le (Nat.le_refl _) (by omega))]
  | m + 1, k, n + 1, hk, hn => by
    have ih := m_lin hR h3 hw h47 hp m (k + 1) n (by omega) (by omega)
    rw [lin_step]
    unfold F_Md_line_19_b
    rw [plet, h47, if_neg (nI_ge (show k < p by omega) (by omega)), mR_5 hR, mr_31, plet, h3, plet, plet, e400, pix mn_31 (show 400 * w + k < 800 by omega) (by omega), plet, pnI (show 400 * w + k < 100000 by omega)]
    by_cases h : zzI M 31 (400 * w + k) = 10
    · have el : lnT (fun i => zzI M 31 (400 * w + i)) (k + 1) = lnT (fun i => zzI M 31 (400 * w + i)) k + 1 := by
        show lnT _ k + (if zzI M 31 (400 * w + k) = 10 then 1 else 0) = _
        rw [if_pos h]
      rw [if_pos h, plet, plet, ← nI_succ, ← nI_succ, ← el]
      exact ih
    · have el : lnT (fun i => zzI M 31 (400 * w + i)) (k + 1) = lnT (fun i => zzI M 31 (400 * w + i)) k := by
        show lnT _ k + (if zzI M 31 (400 * w + k) = 10 then 1 else 0) = _
        rw [if_neg h]; rfl
      rw [if_neg h, plet, plet, ← nI_succ, ← nI_0, nI_add, Nat.add_zero, ← el]
      exact ih
theorem pu_line {S : zzS} {Mc Mm : zzM} (H : puRel S Mc Mm) : lwO_line puRel S Mc Mm := by
  have Hr := H
  obtain ⟨T, N, w, o, ll, t, sc, H⟩ := H
  obtain ⟨hS, hC, hR, h63⟩ := pu_dat H
  obtain ⟨⟨_, _, d3, d4, _⟩, _, _, _, _, _, e1, e2, e3⟩ := H
  rcases e3 with ⟨f1, f2⟩ | ⟨s, p, f1, f2, f3⟩
  · refine ⟨0, Mc, zzsI Mm 28 0 0, ?_, ?_, pu_0 Hr⟩
    · simp only [F_Bs_line]
      rw [cR_0_7 hC, cr_19 hS, plet, f1, poptn]
    · have e : zzI (zzsI Mm 28 0 0) 28 47 = -1 := f2
      simp only [F_Md_line]
      rw [plet, plet, e, if_pos rfl]
  · refine ⟨nI (lnT (fun i => zzI Mm 31 (400 * w + i)) p), Mc, zzsI Mm 28 0 0, ?_, ?_, pu_0 Hr⟩
    · simp only [F_Bs_line]
      rw [cR_0_7 hC, cr_19 hS, plet, f1, poptp f3.2.1 f3.2.2.1, cr_19 hS, plet, f1, poptp f3.2.1 f3.2.2.1, plet, f3.2.2.2.2.2]
    · have e : zzI (zzsI Mm 28 0 0) 28 47 = nI p := f2
      have hp := f3.2.2.2.1
      have := m_lin (M := zzsI Mm 28 0 0) (w := w) (mdR_I hR) d3 d4 e hp p 0 2000 (by omega) (by omega)
      simp only [F_Md_line]
      rw [plet, plet, e, if_neg (nI_m1 (by omega))]
      exact this
theorem i6 (u : Int32) : u.toInt64.toInt32 = u := Int32.toInt32_toInt64 u
/-- a field's place in both -/
theorem fl_c {S : zzS} {M : zzM} {o : Nat} (ho : zzI M 5 1 = nI o) (ho2 : o ≤ 12) (u v : Int32) : (∃ k d, k < o ∧ d < 6 ∧ u = nI k ∧ v = nI d ∧ F_Bd_slotOf S M 5 u.toInt64 v = some (nI (6 * k + d), M)) ∨ ((u.toInt64 < 0 ∨ ¬ u.toInt64 < (nI o).toInt64 ∨ v < 0 ∨ 6 ≤ v) ∧ F_Bd_slotOf S M 5 u.toInt64 v = some (-1, M)) := by
  by_cases hd : v < 0 ∨ 6 ≤ v
  · refine Or.inr ⟨by rcases hd with h | h <;> simp [h], ?_⟩
    simp only [F_Bd_slotOf, plet, ho, pcmp_lt, pcmp_ge]
    by_cases a1 : u.toInt64 < 0
    · rw [if_pos a1]
    · rw [if_neg a1]
      by_cases a2 : u.toInt64 < (nI o).toInt64
      · rw [if_neg (fun h => h a2)]
        by_cases a3 : v < 0
        · rw [if_pos a3]
        · obtain ⟨d, hd1, rfl⟩ := nI_of a3
          have h6 : nI 6 ≤ nI d := hd.resolve_left a3
          rw [nI_leI (by omega) hd1] at h6
          rw [if_neg a3, if_neg (show ¬ nI d < (6 : Int32) from nI_nlt (b := 6) h6 hd1)]
      · rw [if_pos a2]
  · obtain ⟨d, hd1, rfl⟩ := nI_of (fun h => hd (Or.inl h))
    have h6 : ¬ nI 6 ≤ nI d := fun h => hd (Or.inr h)
    rw [nI_leI (by omega) hd1] at h6
    have := c_slotOf (S := S) (M := M) (d := d) ho ho2 (by omega) u.toInt64
    by_cases a : u.toInt64 < 0 ∨ ¬ u.toInt64 < (nI o).toInt64
    · rw [if_pos a] at this
      exact Or.inr ⟨by rcases a with h | h <;> simp [h], this⟩
    · obtain ⟨k, hk, e1, e2⟩ := pl_small (by omega) (fun h => a (Or.inl h)) (Classical.not_not.mp (fun h => a (Or.inr h)))
      rw [if_neg a, e1, pnI (show k < 100000 by omega)] at this
      rw [i6] at e1
      exact Or.inl ⟨k, d, hk, by omega, e1, rfl, this⟩
theorem fl_m {M : zzM} {o : Nat} (ho : zzI M 28 28 = nI o) (u v : Int32) : F_Md_isField lwSm M 28 u v = some (if u.toInt64 < 0 ∨ ¬ u.toInt64 < (nI o).toInt64 ∨ v < 0 ∨ 6 ≤ v then 0 else 1, M) := by
  simp only [F_Md_isField, plet, m_isObject ho, pcall]
  by_cases a1 : u.toInt64 < 0
  · simp [a1]
  · by_cases a2 : u.toInt64 < (nI o).toInt64
    · by_cases a3 : v < 0
      · simp [a1, a2, a3]
      · by_cases a4 : 6 ≤ v
        · simp [a1, a2, a3, a4]
        · simp [a1, a2, a3, a4]
    · simp [a1, a2]
theorem fl_y {o k d : Nat} (hk : k < o) (ho : o ≤ 12) (hd : d < 6) : ¬ ((nI k).toInt64 < 0 ∨ ¬ (nI k).toInt64 < (nI o).toInt64 ∨ nI d < 0 ∨ 6 ≤ nI d) := by
  rw [nI_l (show k < 2 ^ 31 by omega), nI_l (show o < 2 ^ 31 by omega)]
  rintro (h | h | h | h)
  · have := (lN_lt (a := k) (b := 0) (by omega) (by omega)).mp h
    omega
  · exact h ((lN_lt (by omega) (by omega)).mpr hk)
  · exact nI_pos (by omega) h
  · exact nI_ge (b := 6) hd (by omega) h
theorem e6 {k d : Nat} : (6 : Int32) * nI k + nI d = nI (6 * k + d) := by show nI 6 * nI k + nI d = _; rw [nI_mul, nI_add]
theorem pu_at {S : zzS} {Mc Mm : zzM} (H : puRel S Mc Mm) : lwO_at puRel S Mc Mm := by
  intro u v
  have Hr := H
  obtain ⟨T, N, w, o, ll, t, sc, H⟩ := H
  obtain ⟨hS, hC, hR, h63⟩ := pu_dat H
  obtain ⟨⟨⟨_, _, k3, k4, k5, k6⟩, ⟨_, l2, l3, l4, l5⟩, _, _, ⟨v1, v2, _⟩, _⟩, _⟩ := H
  have t1 : zzI (zzsI Mm 28 0 1) 28 0 = 1 := by simp [plet, pcall, pck, pI_I, pI_L, pI_R, pL_I, pL_L, pL_R, pR_I, pR_L, pR_R]
  have t0 : zzI (zzsI Mm 28 0 0) 28 0 = 0 := by simp [plet, pcall, pck, pI_I, pI_L, pI_R, pL_I, pL_L, pL_R, pR_I, pR_L, pR_R]
  rcases fl_c (S := S) k3 k4 u v with ⟨k, d, hk, hd, rfl, rfl, e⟩ | ⟨hno, e⟩
  · left
    refine ⟨zzL Mc 6 (6 * k + d), zzsL Mc 62 0 (zzL Mc 6 (6 * k + d)), zzsI Mm 28 0 0, ?_, ?_, thr t0, s62, pu_62 (pu_0 Hr)⟩
    · unfold F_Lw_at
      rw [cO_0 hS]
      simp only [F_Bs_at]
      rw [cR_0_5 hC, cr_5 hS, plet, e, pcall, if_neg (nI_m1 (by omega)), cR_0_5 hC, cr_5 hS, cR_5_0 hC, cr_6 hS, pix (cn_6 hS) (show 6 * k + d < 72 by omega) (by omega), plet, pnI (show 6 * k + d < 100000 by omega), pcall, o62 hS]
    · have e2 : zzL (zzsI Mm 28 0 0) 45 (6 * k + d) = zzL Mc 6 (6 * k + d) := by rw [v1]; rfl
      unfold F_Md_at F_Md_at_15
      rw [fl_m l2, if_neg (fl_y hk k4 hd), pcall, if_neg (by decide), plet, plet, t0, if_pos rfl, mR_29 (mdR_I hR), mr_45, plet, plet, e6, pix mn_45 (show 6 * k + d < 72 by omega) (by omega), plet, pnI (show 6 * k + d < 100000 by omega), e2]
  · refine Or.inr ⟨0, Mc, zzsI Mm 28 0 1, ?_, ?_, thr t1, pu_junk (pu_0 Hr)⟩
    · unfold FT_Bs_at
      rw [cR_0_5 hC, cr_5 hS, plet, e, pcall, if_pos rfl]
    · unfold F_Md_at F_Md_at_15
      rw [fl_m l2, if_pos hno, pcall, if_pos rfl, plet, plet, t1, if_neg (by decide)]
theorem pu_field {S : zzS} {Mc Mm : zzM} (H : puRel S Mc Mm) : lwO_field puRel S Mc Mm := by
  intro u v x
  have Hr := H
  obtain ⟨T, N, w, o, ll, t, sc, H⟩ := H
  obtain ⟨hS, hC, hR, h63⟩ := pu_dat H
  have H0 := H
  obtain ⟨⟨⟨_, _, k3, k4, k5, k6⟩, ⟨_, l2, l3, l4, l5⟩, _, _, ⟨v1, v2, _⟩, _⟩, _, tx, a4, _⟩ := H0
  have t1 : zzI (zzsI Mm 28 0 1) 28 0 = 1 := by simp [plet, pcall, pck, pI_I, pI_L, pI_R, pL_I, pL_L, pL_R, pR_I, pR_L, pR_R]
  have t0 : zzI (zzsI Mm 28 0 0) 28 0 = 0 := by simp [plet, pcall, pck, pI_I, pI_L, pI_R, pL_I, pL_L, pL_R, pR_I, pR_L, pR_R]
  rcases fl_c (S := S) k3 k4 u v with ⟨k, d, hk, hd, rfl, rfl, e⟩ | ⟨hno, e⟩
  · left
    have e2 : zzL (zzsI Mm 28 0 0) 45 (6 * k + d) = zzL Mc 6 (6 * k + d) := by rw [v1]; rfl
    have hpu : puRel S (zzsL Mc 6 (6 * k + d) x) (zzsL (zzsI Mm 28 0 0) 45 (6 * k + d) x) := ⟨T, N, w, o, ll, t, sc, by
      refine pu_go H (gS.rf _) ⟨fun _ _ _ _ _ _ _ _ _ _ => rfl, fun a k _ h2 _ _ _ => ?_, fun _ _ _ _ _ => rfl⟩ (nmP_0.tr ⟨fun _ _ => rfl, fun _ _ _ _ => rfl, fmW.rf _ _, ?_, fun k => ?_, rfl⟩) tx k3 k4 l2 k5 k6 l4 (updL (f := zzL Mc 6) (g := zzL Mc 6) v1 _ _) ?_ a4
      · rw [pL_L, if_neg h2]
      · rw [pL_L, if_neg (by omega)]
      · rw [pL_L, if_neg (by omega)]
      · funext j; rw [pL_L, if_neg (by omega), pL_L, if_neg (by omega)]; exact congrFun v2 j⟩
    by_cases hx : zzL Mc 6 (6 * k + d) = x
    · refine ⟨0, zzsL (zzsL Mc 6 (6 * k + d) x) 62 0 0, zzsI Mm 28 0 0, ?_, ?_, thr t0, by rw [if_pos rfl]; exact s62, pu_62 ?_⟩
      · unfold F_Lw_field
        rw [cO_0 hS]
        simp only [F_Bs_field]
        rw [cR_0_5 hC, cr_5 hS, plet, e, pcall, if_neg (nI_m1 (by omega)), cR_0_5 hC, cr_5 hS, cR_5_0 hC, cr_6 hS, pix (cn_6 hS) (show 6 * k + d < 72 by omega) (by omega), plet, pnI (show 6 * k + d < 100000 by omega), plet, if_pos ((pcmp_eq _ _).mpr hx), cr_5 hS, cR_5_0 hC, cr_6 hS, pix (cn_6 hS) (show 6 * k + d < 72 by omega) (by omega), plet, pcall, if_pos rfl, o62 hS]
      · unfold F_Md_field F_Md_field_15
        rw [fl_m l2, if_neg (fl_y hk k4 hd), pcall, if_neg (by decide), plet, plet, t0, if_pos rfl, mR_29 (mdR_I hR), mr_45, plet, plet, e6, pix mn_45 (show 6 * k + d < 72 by omega) (by omega), plet, pnI (show 6 * k + d < 100000 by omega), e2, plet, if_pos ((pcmp_eq _ _).mpr hx)]
      · have es : zzsL Mc 6 (6 * k + d) x = Mc := by
          have h6 : ∀ a j, zzL (zzsL Mc 6 (6 * k + d) x) a j = zzL Mc a j := fun a j => by
            rw [pL_L]
            by_cases ha : a = 6
            · by_cases hj : j = 6 * k + d
              · rw [if_pos ha, if_pos hj, ha, hj, hx]
              · rw [if_pos ha, if_neg hj]
            · rw [if_neg ha]
          have : (zzsL Mc 6 (6 * k + d) x).2.1 = Mc.2.1 := funext fun a => funext fun j => h6 a j
          show (Mc.1, (zzsL Mc 6 (6 * k + d) x).2.1, Mc.2.2) = Mc
          rw [this]
        rw [es]
        exact pu_0 Hr
    · refine ⟨1, zzsL (zzsL Mc 6 (6 * k + d) x) 62 0 1, zzsL (zzsI Mm 28 0 0) 45 (6 * k + d) x, ?_, ?_, thr t0, by rw [if_neg (by decide)]; exact s62, pu_62 hpu⟩
      · unfold F_Lw_field
        rw [cO_0 hS]
        simp only [F_Bs_field]
        rw [cR_0_5 hC, cr_5 hS, plet, e, pcall, if_neg (nI_m1 (by omega)), cR_0_5 hC, cr_5 hS, cR_5_0 hC, cr_6 hS, pix (cn_6 hS) (show 6 * k + d < 72 by omega) (by omega), plet, pnI (show 6 * k + d < 100000 by omega), plet, if_neg (fun h => hx ((pcmp_eq _ _).mp h)), cr_5 hS, cR_5_0 hC, cr_6 hS, pix (cn_6 hS) (show 6 * k + d < 72 by omega) (by omega), plet, pcall, if_neg (by decide), o62 hS]
      · unfold F_Md_field F_Md_field_15
        rw [fl_m l2, if_neg (fl_y hk k4 hd), pcall, if_neg (by decide), plet, plet, t0, if_pos rfl, mR_29 (mdR_I hR), mr_45, plet, plet, e6, pix mn_45 (show 6 * k + d < 72 by omega) (by omega), plet, pnI (show 6 * k + d < 100000 by omega), e2, plet, if_neg (fun h => hx ((pcmp_eq _ _).mp h)), mr_45, plet, plet, e6, pix mn_45 (show 6 * k + d < 72 by omega) (by omega), plet, pnI (show 6 * k + d < 100000 by omega)]
  · refine Or.inr ⟨0, Mc, zzsI Mm 28 0 1, ?_, ?_, thr t1, pu_junk (pu_0 Hr)⟩
    · unfold FT_Bs_field
      rw [cR_0_5 hC, cr_5 hS, plet, e, pcall, if_pos rfl]
    · unfold F_Md_field F_Md_field_15
      rw [fl_m l2, if_pos hno, pcall, if_pos rfl, plet, plet, t1, if_neg (by decide)]
theorem pu_added {S : zzS} {Mc Mm : zzM} (H : puRel S Mc Mm) : lwO_added puRel S Mc Mm := by
  intro u
  have Hr := H
  obtain ⟨T, N, w, o, ll, t, sc, H⟩ := H
  obtain ⟨hS, hC, hR, h63⟩ := pu_dat H
  have H0 := H
  obtain ⟨⟨hcK, hmK, d3, d4, ⟨v1, v2, _⟩, ⟨k, r1, r2, r3, r4⟩, _⟩, ⟨va, _⟩, _⟩ := H0
  have e38 : zzI (zzsI Mm 28 0 0) 28 38 = nI k := r3
  by_cases hu : u < 0
  · refine ⟨-1, Mc, zzsI Mm 28 0 0, ?_, ?_, pu_0 Hr⟩
    · unfold F_Bs_added
      rw [if_pos hu]; rfl
    · unfold F_Md_added
      rw [plet, if_pos hu]
  · obtain ⟨i, hi, rfl⟩ := nI_of hu
    by_cases hik : i < k
    · obtain ⟨s, s1, s2, s3, s4, s5⟩ := r4 i hik
      have hva : zzL Mc 17 = zzL Mm 47 := va.resolve_left (fun h => nI_ne0 (show 0 < k by omega) (by omega) (r2.symm.trans h))
      have s5' : exR S Mc (zzsI Mm 28 0 0) w (zzR Mc s 5) (zzI (zzsI Mm 28 0 0) 49 i) := s5.gw (gS.rf _) (fun _ _ _ => ⟨fun _ => rfl, fun _ => rfl⟩) (nmP_0.2.2.1)
      obtain ⟨x, fn, cs, x1, x2, x3, x4, x5, x6, x7⟩ := s5'
      obtain ⟨Mc1, a1, a2, a3⟩ := c_value hcK x5 x7
      have hmK' : mK (zzsI Mm 28 0 0) o ll := hmK
      obtain ⟨Mm1, b1, b2, b3, b4⟩ := m_ask hmK' d3 x6 x7
      have hE : mE (zzsI Mm 28 0 0) o ll = cE Mc o ll := by
        unfold cE mE
        rw [hva, v1, v2]
        rfl
      rw [hE] at b1 b3 b4
      have hpu : puRel S Mc1 Mm1 := ⟨T, N, w, o, ll, t, sc, by
        have hrf : ∀ a k, zzR Mc1 a k = zzR Mc a k := fun a k => by unfold zzR; rw [a2.2.2]
        refine pu_neu H (gS.rf _) ⟨⟨fun a k _ _ _ _ h5 _ _ _ => a2.1 a k (by omega), fun a k _ _ _ h4 _ => a2.2.1 a k h4, fun a k _ _ _ => hrf a k⟩, a2.1 0 1 (by omega), a2.1 0 2 (by omega), fun k => a2.1 1 k (by omega), a2.1 5 1 (by omega), a2.1 5 3 (by omega), funext fun k => a2.2.1 6 k (by omega), funext fun k => a2.2.1 7 k (by omega)⟩ ?_
        have hI : ∀ b j, ¬ (b = 28 ∧ (j = 0 ∨ j = 66)) → zzI Mm1 b j = zzI Mm b j := fun b j hb => by
          rw [b2.1 b j (by omega), pI_I]
          by_cases h28 : b = 28
          · rw [if_pos h28, if_neg (by omega)]
          · rw [if_neg h28]
        have hL : ∀ b j, b ≠ 61 → ¬ (b = 28 ∧ j = 65) → zzL Mm1 b j = zzL Mm b j := fun b j h1 h2 => b2.2.1 b j h1 h2
        exact ⟨⟨fun k hk => hI 28 k (by omega), fun a k _ _ => hI a k (by omega), ⟨fun _ _ => hI _ _ (by omega), fun _ _ _ _ _ => hI _ _ (by omega), fun _ _ => hI _ _ (by omega), fun _ _ _ _ => hI _ _ (by omega)⟩, hL 28 35 (by omega) (by omega), fun k => hL 47 k (by omega) (by omega), b2.2.2⟩, hI _ _ (by omega), hI _ _ (by omega), fun _ => hI _ _ (by omega), hI _ _ (by omega), hI _ _ (by omega), funext fun k => hL 45 k (by omega) (by omega), funext fun k => hL 46 k (by omega) (by omega)⟩⟩
      have ec : F_Bs_added S Mc 0 (nI i) = if zzI Mc1 16 4 = 0 then (if lg_cmp (evR (cE Mc o ll) cs).2 0 = 0 then some (0, Mc1) else some (1, Mc1)) else some (-2, Mc1) := by
        unfold F_Bs_added F_Bs_added_28
        have hC1 : zzR Mc1 0 6 = some 16 := by unfold zzR; rw [a2.2.2]; exact cR_0_6 hC
        rw [if_neg hu, cR_0_7 hC, cr_19 hS, plet, r2, if_pos (nI_lt hik (by omega)), cr_19 hS, cR_19_2 hC, cr_21 hS, pix (cn_21 hS) (show i < 8 by omega) (by omega), plet, pnI (show i < 100000 by omega), s1, poptp s3 s4, cR_0_6 hC, cr_16 hS, plet, x1, a1, pcall, hC1, cr_16 hS, plet, plet]
      have em : F_Md_added lwSm Mm 28 (nI i) = (if (if (evR (cE Mc o ll) cs).1 = 0 then (1 : Int32) else 0) = 0 then some (-2, Mm1) else (if lg_cmp (zzL Mm1 28 65) 0 = 0 then some (0, Mm1) else some (1, Mm1))) := by
        unfold F_Md_added
        rw [plet, if_neg hu, plet, e38, if_pos (nI_lt hik (by omega)), mR_39 (mdR_I hR), mr_49, pix mn_49 (show i < 8 by omega) (by omega), plet, pnI (show i < 100000 by omega), x2, b1, pcall, plet, plet]
      rw [ec, em, a3]
      by_cases he : (evR (cE Mc o ll) cs).1 = 0
      · rw [if_pos he, if_pos he, if_neg (show ¬ (1 : Int32) = 0 by decide), b4 he]
        by_cases hz : lg_cmp (evR (cE Mc o ll) cs).2 0 = 0
        · exact ⟨0, Mc1, Mm1, if_pos hz, if_pos hz, hpu⟩
        · exact ⟨1, Mc1, Mm1, if_neg hz, if_neg hz, hpu⟩
      · exact ⟨-2, Mc1, Mm1, if_neg he, by rw [if_neg he, if_pos rfl], hpu⟩
    · refine ⟨-1, Mc, zzsI Mm 28 0 0, ?_, ?_, pu_0 Hr⟩
      · unfold F_Bs_added
        rw [if_neg hu, cR_0_7 hC, cr_19 hS, plet, r2, if_neg (nI_nlt (by omega) hi)]; rfl
      · unfold F_Md_added
        rw [plet, if_neg hu, plet, e38, if_neg (nI_nlt (by omega) hi)]
