/-! the simple calls -/
theorem u_ch : ∀ k, k < 127 → ((nI k).toUInt32 % 65536).toInt32 = nI k ∧ zzokC (nI k) = true := by decide
theorem u_ok (u : Int32) : (∃ k, u = nI k ∧ okc k) ∨ (u ≠ 10 ∧ (u < 32 ∨ 126 < u)) := by
  by_cases h1 : u = 10
  · exact Or.inl ⟨10, h1, Or.inl rfl⟩
  · by_cases h2 : u < 32
    · exact Or.inr ⟨h1, Or.inl h2⟩
    · by_cases h3 : 126 < u
      · exact Or.inr ⟨h1, Or.inr h3⟩
      · have e : ¬ u < 0 := fun h => h2 (by rw [Int32.lt_iff_toInt_lt] at h ⊢; have : (0 : Int32).toInt = 0 := rfl; have : (32 : Int32).toInt = 32 := rfl; omega)
        obtain ⟨k, hk, rfl⟩ := nI_of e
        have h4 : ¬ nI k < nI 32 := h2
        have h5 : ¬ nI 126 < nI k := h3
        rw [nI_ltI hk (by omega)] at h4
        rw [nI_ltI (by omega) hk] at h5
        exact Or.inl ⟨k, rfl, Or.inr ⟨by omega, by omega⟩⟩
theorem pu_dat {S : zzS} {Mc Mm : zzM} {T : Nat → Nat} {N w o ll t sc : Nat} (H : puX S Mc Mm T N w o ll t sc) : clS S ∧ clR Mc ∧ mdR Mm ∧ 63 ≤ S.2.1 := ⟨H.1.1.1, H.1.1.2.1, H.1.2.1.1, H.1.1.1.2.2.2⟩
theorem pu_unit {S : zzS} {Mc Mm : zzM} (H : puRel S Mc Mm) : lwO_unit puRel S Mc Mm := by
  intro u
  obtain ⟨T, N, w, o, ll, t, sc, H⟩ := H
  obtain ⟨hS, hC, hR, h63⟩ := pu_dat H
  have H0 := H
  obtain ⟨⟨⟨_, _, k3, k4, k5, k6⟩, ⟨_, l2, l3, l4, l5⟩, _, _, ⟨v1, v2, _⟩, _⟩, _, ⟨t1, t2, t3, t4⟩, a4, _⟩ := H0
  rcases u_ok u with ⟨k, rfl, hk⟩ | ⟨h10, hu⟩
  · have hk2 : k < 127 := by unfold okc at hk; omega
    have hc := u_ch k hk2
    have e1 : F_Bs_unit S Mc 0 (nI k) = F_Bs_unit_18 S Mc 0 (nI k) := by
      unfold F_Bs_unit
      by_cases h : nI k = 10
      · rw [if_pos h]
      · have hk3 : 32 ≤ k := by
          unfold okc at hk
          have : k ≠ 10 := fun e => h (by rw [e]; rfl)
          omega
        rw [if_neg h, if_neg (show ¬ nI k < (32 : Int32) from nI_nlt (b := 32) hk3 (by omega)), if_neg (show ¬ (126 : Int32) < nI k from nI_nlt (a := 126) (by omega) (by omega))]
    have e2 : F_Md_unit lwSm Mm 28 (nI k) = F_Md_unit_23 lwSm (zzsI Mm 28 0 0) 28 (nI k) := by
      unfold F_Md_unit
      rw [plet]
      by_cases h : nI k = 10
      · rw [if_pos h]
      · have hk3 : 32 ≤ k := by
          unfold okc at hk
          have : k ≠ 10 := fun e => h (by rw [e]; rfl)
          omega
        rw [if_neg h, if_neg (show ¬ nI k < (32 : Int32) from nI_nlt (b := 32) hk3 (by omega)), if_neg (show ¬ (126 : Int32) < nI k from nI_nlt (a := 126) (by omega) (by omega))]
    have t3' : zzI (zzsI Mm 28 0 0) 28 1 = nI N := t3
    by_cases hN : N < 400
    · refine ⟨1, zzsI (zzsI Mc 1 N (nI k)) 0 1 (nI (N + 1)), zzsI (zzsI (zzsI Mm 28 0 0) 29 N (nI k)) 28 1 (nI (N + 1)), ?_, ?_, fun i => if i = N then k else T i, N + 1, w, o, ll, t, sc, ?_⟩
      · have t2' : zzI (zzsI Mc 1 N (nI k)) 0 1 = nI N := t2
        rw [e1]
        simp only [F_Bs_unit_18, F_Bs_unit_23]
        rw [if_neg (by decide), plet, t2, if_pos (show nI N < (400 : Int32) from nI_lt (b := 400) hN (by omega)), cR_0_0 hC, cr_1 hS, plet, plet, pix (cn_1 hS) hN (by omega), hc.1, hc.2, pck, pnI (show N < 100000 by omega), plet, plet, t2', plet, plet, ← nI_succ]
      · have t3'' : zzI (zzsI (zzsI Mm 28 0 0) 29 N (nI k)) 28 1 = nI N := t3
        rw [e2]
        unfold F_Md_unit_23
        rw [plet, t3', if_neg (fun e => by have := (peq (a := N) (b := 400) (by omega) (by omega)).mp e; omega), mR_2 (mdR_I hR), mr_29, plet, pix mn_29 hN (by omega), pnI (show N < 100000 by omega), plet, plet, t3'', plet, plet, ← nI_succ]
      · refine pu_go H (gS.rf _) ⟨fun a k h1 h2 h3 _ _ _ _ _ => ?_, fun _ _ _ _ _ _ _ => rfl, fun _ _ _ _ _ => rfl⟩ ⟨fun k hk => ?_, fun a k h1 h2 => ?_, ⟨fun k _ => ?_, fun a k h1 h2 _ => ?_, fun k _ => ?_, fun a k h1 _ => ?_⟩, rfl, fun _ => rfl, rfl⟩ ⟨by omega, by simp [plet, pcall, pck, pI_I, pI_L, pI_R, pL_I, pL_L, pL_R, pR_I, pR_L, pR_R], by simp [plet, pcall, pck, pI_I, pI_L, pI_R, pL_I, pL_L, pL_R, pR_I, pR_L, pR_R], fun i hi => ?_⟩ k3 k4 l2 k5 k6 l4 v1 v2 a4
        · rw [pI_I, pI_I, if_neg h3]
          by_cases ha : a = 0
          · rw [if_pos ha, if_neg (by omega)]
          · rw [if_neg ha]
        · rw [pI_I, if_pos rfl, if_neg (by omega), pI_I, if_neg (by omega), pI_I, if_pos rfl, if_neg (by omega)]
        · rw [pI_I, if_neg (by omega), pI_I, if_neg (by omega), pI_I, if_neg (by omega)]
        · rw [pI_I, if_neg (by omega), pI_I, if_neg (by omega), pI_I, if_neg (by omega)]
        · rw [pI_I, if_neg (by omega), pI_I, if_neg (by omega), pI_I, if_neg (by omega)]
        · rw [pI_I, if_neg (by omega), pI_I, if_neg (by omega), pI_I, if_neg (by omega)]
        · rw [pI_I, if_neg (by omega), pI_I, if_neg (by omega), pI_I, if_neg (by omega)]
        · by_cases hi2 : i = N
          · subst hi2
            exact ⟨by simp [plet, pcall, pck, pI_I, pI_L, pI_R, pL_I, pL_L, pL_R, pR_I, pR_L, pR_R], by simp [plet, pcall, pck, pI_I, pI_L, pI_R, pL_I, pL_L, pL_R, pR_I, pR_L, pR_R], by simp; exact hk⟩
          · have := t4 i (by omega)
            simp only [plet, pcall, pck, pI_I, pI_L, pI_R, pL_I, pL_L, pL_R, pR_I, pR_L, pR_R]
            simp [hi2]
            exact this
    · have hN4 : N = 400 := by omega
      subst hN4
      refine ⟨0, Mc, zzsI Mm 28 0 0, ?_, ?_, T, 400, w, o, ll, t, sc, pu_neu H (gS.rf _) (ncQ.rf _ _) nmQ_0⟩
      · rw [e1]
        simp only [F_Bs_unit_18, F_Bs_unit_23]
        rw [if_neg (by decide), plet, t2, if_neg (show ¬ nI 400 < (400 : Int32) from nI_nlt (b := 400) (Nat.le_refl _) (by omega))]
      · rw [e2]
        unfold F_Md_unit_23
        rw [plet, t3', if_pos (show nI 400 = (400 : Int32) from rfl)]
  · refine ⟨0, Mc, zzsI Mm 28 0 0, ?_, ?_, T, N, w, o, ll, t, sc, pu_neu H (gS.rf _) (ncQ.rf _ _) nmQ_0⟩
    · unfold F_Bs_unit
      rw [if_neg h10]
      by_cases h : u < 32
      · rw [if_pos h]; rfl
      · rw [if_neg h, if_pos (hu.resolve_left h)]; rfl
    · unfold F_Md_unit
      rw [plet, if_neg h10]
      by_cases h : u < 32
      · rw [if_pos h]
      · rw [if_neg h, if_pos (hu.resolve_left h)]
theorem pu_object {S : zzS} {Mc Mm : zzM} (H : puRel S Mc Mm) : lwO_object puRel S Mc Mm := by
  intro u
  obtain ⟨T, N, w, o, ll, t, sc, H⟩ := H
  obtain ⟨hS, hC, hR, h63⟩ := pu_dat H
  have H0 := H
  obtain ⟨⟨⟨_, _, k3, k4, k5, k6⟩, ⟨_, l2, l3, l4, l5⟩, _, _, ⟨v1, v2, _⟩, _⟩, _, t1, a4, _⟩ := H0
  have l2' : zzI (zzsI Mm 28 0 0) 28 28 = nI o := l2
  by_cases ho : o < 12
  · refine ⟨nI o, _, _, by simp only [F_Bs_object]; rw [cR_0_5 hC, cr_5 hS, plet, c_create hS hC k3 ho, pcall], by simp only [F_Md_object]; rw [plet, plet, m_addObject (mdR_I hR) l2' ho, pcall], T, N, w, o + 1, ll, t, sc, ?_⟩
    refine pu_go H (gS.rf _) ⟨fun a k h1 _ _ h4 _ _ _ _ => ?_, fun a k _ h2 _ _ _ => ?_, fun _ _ _ _ _ => rfl⟩ ⟨fun k hk => ?_, fun a k h1 h2 => ?_, ⟨fun k _ => ?_, fun a k h1 h2 _ => ?_, fun k _ => ?_, fun a k h1 _ => ?_⟩, rfl, fun _ => rfl, rfl⟩ t1 (by simp [plet, pcall, pck, pI_I, pI_L, pI_R, pL_I, pL_L, pL_R, pR_I, pR_L, pR_R]) (by omega) (by simp [plet, pcall, pck, pI_I, pI_L, pI_R, pL_I, pL_L, pL_R, pR_I, pR_L, pR_R]) k5 k6 l4 (updL (f := zzL Mc 6) (g := zzL Mc 6) (updL (f := zzL Mc 6) (g := zzL Mc 6) (updL (f := zzL Mc 6) (g := zzL Mc 6) (updL (f := zzL Mc 6) (g := zzL Mc 6) (updL (f := zzL Mc 6) (g := zzL Mc 6) (updL (f := zzL Mc 6) (g := zzL Mc 6) v1 _ _) _ _) _ _) _ _) _ _) _ _) v2 a4
    · rw [pI_I]
      by_cases ha : a = 5
      · rw [if_pos ha, if_neg (by omega)]; rfl
      · rw [if_neg ha]; rfl
    · simp only [plet, pcall, pck, pI_I, pI_L, pI_R, pL_I, pL_L, pL_R, pR_I, pR_L, pR_R, if_neg h2]
    · rw [pI_I, if_pos rfl, if_neg (by omega)]
      show zzI (zzsI Mm 28 0 0) 28 k = _
      rw [pI_I, if_pos rfl, if_neg (by omega)]
    all_goals
      rw [pI_I, if_neg (by omega), pI_L, pI_L, pI_L, pI_L, pI_L, pI_L, pI_I, if_neg (by omega)]
  · refine ⟨-1, Mc, zzsI Mm 28 0 0, by simp only [F_Bs_object]; rw [cR_0_5 hC, cr_5 hS, plet, c_create_n k3 (by omega), pcall], by simp only [F_Md_object]; rw [plet, plet, m_addObject_n l2' (by omega), pcall], T, N, w, o, ll, t, sc, pu_neu H (gS.rf _) (ncQ.rf _ _) nmQ_0⟩
theorem pI_zfl {M : zzM} {a n b j : Nat} {v : Int64} : zzI (zfl M a n v) b j = zzI M b j := rfl
theorem pu_list {S : zzS} {Mc Mm : zzM} (H : puRel S Mc Mm) : lwO_list puRel S Mc Mm := by
  intro u
  obtain ⟨T, N, w, o, ll, t, sc, H⟩ := H
  obtain ⟨hS, hC, hR, h63⟩ := pu_dat H
  have H0 := H
  obtain ⟨⟨⟨_, _, k3, k4, k5, k6⟩, ⟨_, l2, l3, l4, l5⟩, _, _, ⟨v1, v2, _⟩, _⟩, _, t1, a4, _⟩ := H0
  by_cases hx : ¬ u.toInt64 < 0 ∧ u.toInt64 ≤ 20
  · obtain ⟨k, hk, e⟩ := p_len hx
    refine ⟨0, zfl (zzsI Mc 5 3 (nI k)) 7 20 0, zfl (zzsI (zzsI Mm 28 0 0) 28 30 (nI k)) 46 20 0, ?_, ?_, T, N, w, o, k, t, sc, ?_⟩
    · simp only [F_Bs_list]
      rw [cR_0_5 hC, cr_5 hS, plet, c_resize hS hC, if_pos hx, e, pcall, if_neg (by decide)]
    · simp only [F_Md_list]
      rw [plet, plet, m_makeList (mdR_I hR), if_pos hx, e, pcall, if_neg (by decide)]
    · refine pu_go H (gS.rf _) ⟨fun a k h1 _ _ h4 _ _ _ _ => ?_, fun a k _ _ h2 _ _ => ?_, fun _ _ _ _ _ => rfl⟩ ⟨fun k hk => ?_, fun a k h1 h2 => ?_, ⟨fun k _ => ?_, fun a k h1 h2 _ => ?_, fun k _ => ?_, fun a k h1 _ => ?_⟩, ?_, fun k => ?_, rfl⟩ t1 k3 k4 l2 (show zzI (zzsI Mc 5 3 (nI k)) 5 3 = _ by simp [plet, pcall, pck, pI_I, pI_L, pI_R, pL_I, pL_L, pL_R, pR_I, pR_L, pR_R]) hk (show zzI (zzsI (zzsI Mm 28 0 0) 28 30 (nI k)) 28 30 = _ by simp [plet, pcall, pck, pI_I, pI_L, pI_R, pL_I, pL_L, pL_R, pR_I, pR_L, pR_R]) ?_ (zfl_eq v2) a4
      · show zzI (zzsI Mc 5 3 _) a k = _
        rw [pI_I]
        by_cases ha : a = 5
        · rw [if_pos ha, if_neg (by omega)]
        · rw [if_neg ha]
      · rw [congrFun (zfl_o (M := zzsI Mc 5 3 _) h2) k]; rfl
      · show zzI (zzsI (zzsI Mm 28 0 0) 28 30 _) 28 k = _
        rw [pI_I, if_pos rfl, if_neg (by omega), pI_I, if_pos rfl, if_neg (by omega)]
      · show zzI (zzsI (zzsI Mm 28 0 0) 28 30 _) a k = _
        rw [pI_I, if_neg (by omega), pI_I, if_neg (by omega)]
      · rw [pI_zfl, pI_I, if_neg (by omega), pI_I, if_neg (by omega)]
      · rw [pI_zfl, pI_I, if_neg (by omega), pI_I, if_neg (by omega)]
      · rw [pI_zfl, pI_I, if_neg (by omega), pI_I, if_neg (by omega)]
      · rw [pI_zfl, pI_I, if_neg (by omega), pI_I, if_neg (by omega)]
      · rw [congrFun (zfl_o (M := zzsI (zzsI Mm 28 0 0) 28 30 _) (show 28 ≠ 46 by omega)) 35]; rfl
      · rw [congrFun (zfl_o (M := zzsI (zzsI Mm 28 0 0) 28 30 _) (show 47 ≠ 46 by omega)) k]; rfl
      · rw [zfl_o (by omega), zfl_o (by omega)]; exact v1
  · refine ⟨3, Mc, zzsI Mm 28 0 0, by simp only [F_Bs_list]; rw [cR_0_5 hC, cr_5 hS, plet, c_resize hS hC, if_neg hx, pcall, if_pos rfl], by simp only [F_Md_list]; rw [plet, plet, m_makeList (mdR_I hR), if_neg hx, pcall, if_pos rfl], T, N, w, o, ll, t, sc, pu_neu H (gS.rf _) (ncQ.rf _ _) nmQ_0⟩
theorem pu_failAt {S : zzS} {Mc Mm : zzM} (H : puRel S Mc Mm) : lwO_failAt puRel S Mc Mm := by
  intro u
  obtain ⟨T, N, w, o, ll, t, sc, H⟩ := H
  obtain ⟨hS, hC, hR, h63⟩ := pu_dat H
  have H0 := H
  obtain ⟨⟨⟨_, _, k3, k4, k5, k6⟩, ⟨_, l2, l3, l4, l5⟩, _, _, ⟨v1, v2, _⟩, _⟩, _, t1, a4, _⟩ := H0
  have key : ∀ v : Int32, ∃ r Mc1 Mm1, F_Bs_failAt_9 S Mc 0 v = some (r, Mc1) ∧ (if v = zzI Mm 28 32 then some ((0 : Int32), zzsI Mm 28 0 0) else some ((1 : Int32), zzsI (zzsI Mm 28 0 0) 28 32 v)) = some (r, Mm1) ∧ puRel S Mc1 Mm1 := by
    intro v
    by_cases hv : v = zzI Mm 28 32
    · refine ⟨0, zzsI Mc 0 2 v, zzsI Mm 28 0 0, ?_, if_pos hv, T, N, w, o, ll, t, sc, ?_⟩
      · unfold F_Bs_failAt_9
        rw [plet, a4, if_pos hv, plet]
      · refine pu_go H (gS.rf _) ⟨fun a k h1 h2 _ h4 _ _ _ _ => ?_, fun a k _ h2 _ _ _ => rfl, fun _ _ _ _ _ => rfl⟩ nmP_0 t1 k3 k4 l2 k5 k6 l4 v1 v2 ?_
        · rw [pI_I]
          by_cases ha : a = 0
          · rw [if_pos ha, if_neg (by omega)]
          · rw [if_neg ha]
        · rw [pI_I, if_pos rfl, if_pos rfl]
          exact hv
    · refine ⟨1, zzsI Mc 0 2 v, zzsI (zzsI Mm 28 0 0) 28 32 v, ?_, if_neg hv, T, N, w, o, ll, t, sc, ?_⟩
      · unfold F_Bs_failAt_9
        rw [plet, a4, if_neg hv, plet]
      · refine pu_go H (gS.rf _) ⟨fun a k h1 h2 _ h4 _ _ _ _ => ?_, fun a k _ h2 _ _ _ => rfl, fun _ _ _ _ _ => rfl⟩ ⟨fun k hk => ?_, fun a k h1 h2 => ?_, ⟨fun k _ => ?_, fun a k h1 h2 _ => ?_, fun k _ => ?_, fun a k h1 _ => ?_⟩, rfl, fun _ => rfl, rfl⟩ t1 k3 k4 l2 k5 k6 l4 v1 v2 ?_
        · rw [pI_I]
          by_cases ha : a = 0
          · rw [if_pos ha, if_neg (by omega)]
          · rw [if_neg ha]
        · rw [pI_I, if_pos rfl, if_neg (by omega), pI_I, if_pos rfl, if_neg (by omega)]
        · rw [pI_I, if_neg (by omega), pI_I, if_neg (by omega)]
        · rw [pI_I, if_neg (by omega), pI_I, if_neg (by omega)]
        · rw [pI_I, if_neg (by omega), pI_I, if_neg (by omega)]
        · rw [pI_I, if_neg (by omega), pI_I, if_neg (by omega)]
        · rw [pI_I, if_neg (by omega), pI_I, if_neg (by omega)]
        · simp [plet, pcall, pck, pI_I, pI_L, pI_R, pL_I, pL_L, pL_R, pR_I, pR_L, pR_R]
  unfold F_Bs_failAt F_Md_failAt
  have e32 : zzI (zzsI Mm 28 0 0) 28 32 = zzI Mm 28 32 := rfl
  by_cases hu : 0 ≤ u
  · obtain ⟨r, Mc1, Mm1, b1, b2, b3⟩ := key u
    refine ⟨r, Mc1, Mm1, by rw [if_pos hu]; exact b1, ?_, b3⟩
    rw [plet, if_pos hu, plet, e32]
    exact b2
  · obtain ⟨r, Mc1, Mm1, b1, b2, b3⟩ := key (-1)
    refine ⟨r, Mc1, Mm1, by rw [if_neg hu]; exact b1, ?_, b3⟩
    rw [plet, if_neg hu, plet, e32]
    exact b2
theorem pu_restored {S : zzS} {Mc Mm : zzM} (H : puRel S Mc Mm) : lwO_restored puRel S Mc Mm := by
  obtain ⟨T, N, w, o, ll, t, sc, H⟩ := H
  obtain ⟨hS, hC, hR, h63⟩ := pu_dat H
  have H0 := H
  obtain ⟨⟨_, _, _, _, ⟨v1, v2, v3, v4, v5, v6, v7, v8, v9⟩, _⟩, _⟩ := H0
  have e : zzI (zzsI Mm 28 0 0) 28 44 = zzI Mc 19 7 := v8.symm
  refine ⟨zzI Mc 19 7, Mc, zzsI Mm 28 0 0, ?_, ?_, T, N, w, o, ll, t, sc, pu_neu H (gS.rf _) (ncQ.rf _ _) nmQ_0⟩
  · simp only [F_Bs_restored]
    rw [cR_0_7 hC, cr_19 hS, plet, v9, pck]
  · simp only [F_Md_restored]
    rw [plet, plet, e, v9, pck]
theorem pu_steps {S : zzS} {Mc Mm : zzM} (H : puRel S Mc Mm) : lwO_steps puRel S Mc Mm := by
  obtain ⟨T, N, w, o, ll, t, sc, H⟩ := H
  obtain ⟨hS, hC, hR, h63⟩ := pu_dat H
  have H0 := H
  obtain ⟨⟨_, _, _, _, _, _, d7, d8, d9⟩, _⟩ := H0
  have e : zzL (zzsI Mm 28 0 0) 28 35 = lN t := d8
  refine ⟨lN t, Mc, zzsI Mm 28 0 0, ?_, ?_, T, N, w, o, ll, t, sc, pu_neu H (gS.rf _) (ncQ.rf _ _) nmQ_0⟩
  · simp only [F_Bs_steps]
    rw [cR_0_7 hC, cr_19 hS, plet, d7, plet, nI_l (by omega)]
  · simp only [F_Md_steps]
    rw [plet, plet, e]
theorem pu_closed {S : zzS} {Mc Mm : zzM} (H : puRel S Mc Mm) : lwO_closed puRel S Mc Mm := by
  intro u
  obtain ⟨T, N, w, o, ll, t, sc, H⟩ := H
  obtain ⟨hS, hC, hR, h63⟩ := pu_dat H
  have H0 := H
  obtain ⟨⟨_, _, _, _, ⟨v1, v2, v3, v4, ⟨k, k1, k2, k3⟩, v6, v7, v8, v9⟩, _⟩, _⟩ := H0
  have e : zzI (zzsI Mm 28 0 0) 28 42 = nI k := k3
  simp only [F_Bs_closed, F_Md_closed]
  by_cases hu : u < 0
  · exact ⟨-1, Mc, zzsI Mm 28 0 0, by rw [if_pos hu], by rw [plet, if_pos hu], T, N, w, o, ll, t, sc, pu_neu H (gS.rf _) (ncQ.rf _ _) nmQ_0⟩
  · obtain ⟨i, hi, rfl⟩ := nI_of hu
    by_cases hik : i < k
    · refine ⟨zzI Mc 22 i, Mc, zzsI Mm 28 0 0, ?_, ?_, T, N, w, o, ll, t, sc, pu_neu H (gS.rf _) (ncQ.rf _ _) nmQ_0⟩
      · rw [if_neg hu, cR_0_7 hC, cr_19 hS, plet, k2, if_pos (nI_lt hik (by omega)), cr_19 hS, cR_19_4 hC, cr_22 hS, pix (cn_22 hS) (show i < 20 by omega) (by omega), plet, pnI (show i < 100000 by omega)]
      · rw [plet, if_neg hu, plet, e, if_neg (nI_ge hik (by omega)), mR_43 (mdR_I hR), mr_51, pix mn_51 (show i < 20 by omega) (by omega), plet, pnI (show i < 100000 by omega), v6]
        rfl
    · refine ⟨-1, Mc, zzsI Mm 28 0 0, ?_, ?_, T, N, w, o, ll, t, sc, pu_neu H (gS.rf _) (ncQ.rf _ _) nmQ_0⟩
      · rw [if_neg hu, cR_0_7 hC, cr_19 hS, plet, k2, if_neg (nI_nlt (by omega) hi)]
      · rw [plet, if_neg hu, plet, e, if_pos (nI_le (by omega) hi)]
