/-! the class's parts of a statement -/
theorem FGB_s (n : Nat) : FG_B (n + 1) = (F_Rd_block (FG_B n).1 (FG_B n).2.1 (FG_B n).2.2.1 (FG_B n).2.2.2, F_Rd_statement (FG_B n).1 (FG_B n).2.1 (FG_B n).2.2.1 (FG_B n).2.2.2, F_Rd_part (FG_B n).1 (FG_B n).2.1 (FG_B n).2.2.1 (FG_B n).2.2.2, F_Rd_enclosed (FG_B n).1 (FG_B n).2.1 (FG_B n).2.2.1 (FG_B n).2.2.2) := rfl
theorem FDb_s {n : Nat} : FD_Rd_block (n + 1) = F_Rd_block (FD_Rd_block n) (FD_Rd_statement n) (FD_Rd_part n) (FD_Rd_enclosed n) := by
  unfold FD_Rd_block FD_Rd_statement FD_Rd_part FD_Rd_enclosed
  rw [FGB_s]
theorem FDst_s {n : Nat} : FD_Rd_statement (n + 1) = F_Rd_statement (FD_Rd_block n) (FD_Rd_statement n) (FD_Rd_part n) (FD_Rd_enclosed n) := by
  unfold FD_Rd_block FD_Rd_statement FD_Rd_part FD_Rd_enclosed
  rw [FGB_s]
theorem FDp_s {n : Nat} : FD_Rd_part (n + 1) = F_Rd_part (FD_Rd_block n) (FD_Rd_statement n) (FD_Rd_part n) (FD_Rd_enclosed n) := by
  unfold FD_Rd_block FD_Rd_statement FD_Rd_part FD_Rd_enclosed
  rw [FGB_s]
theorem FDe_s {n : Nat} : FD_Rd_enclosed (n + 1) = F_Rd_enclosed (FD_Rd_block n) (FD_Rd_statement n) (FD_Rd_part n) (FD_Rd_enclosed n) := by
  unfold FD_Rd_block FD_Rd_statement FD_Rd_part FD_Rd_enclosed
  rw [FGB_s]
/-- a part's frame: slot k of s is written, and what is new -/
def pfr (s k n0 : Nat) (M M1 : zzM) : Prop := (∀ a j, a < n0 → a ≠ 26 → ¬ (a = 23 ∧ (j = 2 ∨ j = 3 ∨ j = 4 ∨ j = 7)) → zzI M1 a j = zzI M a j) ∧ (∀ a j, a < n0 → ¬ (a = s ∧ j = k) → zzR M1 a j = zzR M a j) ∧ (∀ a j, a < n0 → zzL M1 a j = zzL M a j)
theorem fcN.p {s k n0 : Nat} {M M1 : zzM} (h : fcN n0 M M1) : pfr s k n0 M M1 := ⟨h.1, fun a j h1 _ => h.2.1 a j h1, h.2.2⟩
theorem pfr.tr {s k n0 n1 : Nat} {M M1 M2 : zzM} (h : pfr s k n0 M M1) (g : pfr s k n1 M1 M2) (hn : n0 ≤ n1) : pfr s k n0 M M2 := ⟨fun a j h1 h2 h3 => (g.1 a j (by omega) h2 h3).trans (h.1 a j h1 h2 h3), fun a j h1 h2 => (g.2.1 a j (by omega) h2).trans (h.2.1 a j h1 h2), fun a j h1 => (g.2.2 a j (by omega)).trans (h.2.2 a j h1)⟩
theorem pfr_w {s k n0 : Nat} {M : zzM} {v : Option Nat} : pfr s k n0 M (zzsR M s k v) := ⟨fun _ _ _ _ _ => rfl, fun a j _ h => by
  rw [pR_R]
  by_cases ha : a = s
  · rw [if_pos ha, if_neg (fun e => h ⟨ha, e⟩)]
  · rw [if_neg ha], fun _ _ _ => rfl⟩
theorem pfr.N {s k n0 : Nat} {M M1 : zzM} (h : pfr s k n0 M M1) (hs : s ≤ n0) : fcN s M M1 := ⟨fun a j h1 h2 h3 => h.1 a j (by omega) h2 h3, fun a j h1 => h.2.1 a j (by omega) (by omega), fun a j h1 => h.2.2 a j (by omega)⟩
theorem pfr.ag {s k : Nat} {S S1 : zzS} {M M1 : zzM} (h : pfr s k S.2.1 M M1) (g : gS S S1) (h63 : 63 ≤ s) : agC (s + 1) S.2.1 S S1 M M1 := ⟨g.1, fun a h1 h2 => ⟨g.2.2 a h2, fun j => h.1 a j h2 (by omega) (by omega), fun j => h.2.1 a j h2 (by omega)⟩⟩
theorem c_copyOf {S : zzS} {M : zzM} {len : Nat} (hS : clS S) (hl : len < 400) : F_Ar_copyOf S M (some 26) (nI len) = some (some S.2.1, zznew S 1 len len, zzcpI (zzclr M S.2.1) 26 0 S.2.1 0 len) := by
  have h63 := hS.2.2.2
  have hne : ¬ nI len = Int32.ofNat 400 := fun e => by
    have := (peq (a := len) (b := 400) (by omega) (by omega)).mp e
    omega
  have hnn : zznn (nI len) = true := by
    unfold zznn
    rw [pnI (by omega)]
    simp [nI_pos (n := len) (by omega)]
    omega
  have g := gS_new S 1 len len
  have hS1 := g.cl hS
  have hx : zzn (zznew S 1 len len) S.2.1 = len := by unfold zzn zznew; simp
  have hmin : (if nI len < Int32.ofNat 400 then nI len else Int32.ofNat 400) = nI len := if_pos (nI_lt hl (by omega))
  have hok : zzcpok (zznew S 1 len len) 26 0 S.2.1 0 (nI len) = true := by
    unfold zzcpok
    rw [cn_26 hS1, hx, pnI (by omega)]
    simp [nI_pos (n := len) (by omega)]
    have e0 : (0 : Int32).toNatClampNeg = 0 := by decide
    omega
  have e : (nI len).toNatClampNeg = len := pnI (by omega)
  unfold F_Ar_copyOf
  rw [cO_26 hS, cn_26 hS, plet, if_neg hne, hnn, pck]
  rw [e]
  refine pmk ?_ (gS.rf _)
  rw [phas (cl_26 hS1) (ck_26 hS1), pck, cn_26 hS1, plet, hmin, plet, hok, pck, e, plet]
  rfl
/-- the array of an expression's codes, made -/
def mkA (S : zzS) (M : zzM) (s k len : Nat) : zzM := zzsR (zzcpI (zzclr M S.2.1) 26 0 S.2.1 0 len) s k (some S.2.1)
theorem mkA_f {S : zzS} {M : zzM} {s k : Nat} {E : List (Int32 × Int32)} (hS : clS S) (hs : s < S.2.1) (he : ceR M E) (hl : E.length < 400) (hok : okA E) : pfr s k S.2.1 M (mkA S M s k E.length) ∧ caR (zznew S 1 E.length E.length) (mkA S M s k E.length) S.2.1 E ∧ zzR (mkA S M s k E.length) s k = some S.2.1 := by
  have h63 := hS.2.2.2
  refine ⟨⟨fun a j h1 h2 h3 => ?_, fun a j h1 h2 => ?_, fun a j h1 => ?_⟩, ⟨?_, ?_, ?_, by omega, fun i q hq => ?_⟩, by simp [mkA, plet, pcall, pck, pI_I, pI_L, pI_R, pL_I, pL_L, pL_R, pR_I, pR_L, pR_R]⟩
  · show zzI (zzcpI (zzclr M S.2.1) 26 0 S.2.1 0 E.length) a j = _
    simp only [zzI, zzcpI, zzclr]
    rw [if_neg (show ¬ a = S.2.1 by omega), if_neg (show ¬ a = S.2.1 by omega)]
  · rw [mkA, pR_R]
    have e : zzR (zzcpI (zzclr M S.2.1) 26 0 S.2.1 0 E.length) a j = zzR M a j := by simp only [zzR, zzcpI, zzclr]; rw [if_neg (by omega)]
    by_cases ha : a = s
    · rw [if_pos ha, if_neg (fun e => h2 ⟨ha, e⟩), e]
    · rw [if_neg ha, e]
  · show zzL (zzcpI (zzclr M S.2.1) 26 0 S.2.1 0 E.length) a j = _
    simp only [zzL, zzcpI, zzclr]
    rw [if_neg (show ¬ a = S.2.1 by omega)]
  · show S.2.1 < S.2.1 + 1; omega
  · unfold zzk zznew; simp
  · unfold zzn zznew; simp
  · have hi : i < E.length := by
      rcases Nat.lt_or_ge i E.length with h | h
      · exact h
      · rw [List.getElem?_eq_none h] at hq; cases hq
    have e : zzI (mkA S M s k E.length) S.2.1 i = enc q := by
      rw [← he.2 i q hq]
      show zzI (zzcpI (zzclr M S.2.1) 26 0 S.2.1 0 E.length) S.2.1 i = _
      simp only [zzI, zzcpI, zzclr, if_true, va_cpy]
      rw [if_pos (by omega), if_neg (show ¬ 26 = S.2.1 by omega), Nat.zero_add, Nat.sub_zero]
    rw [e]
    obtain ⟨v, c, v1, v2, v3, v4⟩ := hok q (List.mem_of_getElem? hq)
    exact enc_dec v1 v2 v3 v4
/-- parts E and A -/
theorem p_E {S : zzS} {M M1 : zzM} {n s : Nat} {dd : Int32} {E : List (Int32 × Int32)} (hS : clS S) (hC : clR M1) (hs : s < S.2.1) (hk : zzk S s = 13) (he : ceR M1 E) (hl : E.length < 400) (h : FD_Rd_ranked S 60 (zzsI M 23 7 0) 23 0 0 = some (1, M1)) : FD_Rd_part (n + 1) S M 23 (some s) 69 dd = some (1, zznew S 1 E.length E.length, mkA S M1 s 5 E.length) := by
  have g := gS_new S 1 E.length E.length
  obtain ⟨k1, k2⟩ := g.k hs hk
  have e : FD_Rd_part (n + 1) S M 23 (some s) 69 dd = zzcall (FD_Rd_ranked S 60 (zzsI M 23 7 0) 23 0 0) fun r31 M => if r31 = 0 then (zzopt S 13 (some s) (none) (fun b32 => zzlet (zzsR M b32 5 none) fun M => zzlet (zzR M b32 5) fun r34 => zzopt S 1 r34 (some ((0 : Int32), S, M)) (fun b35 => some ((1 : Int32), S, M)))) else (zzref S 1 (zzR M 23 6) fun b36 => zzlet (zzI M 23 7) fun x37 => zzcallA S (F_Ar_copyOf S M (some b36) x37) fun r38 S M => zzopt S 13 (some s) (none) (fun b39 => zzlet (zzsR M b39 5 r38) fun M => zzlet (zzR M b39 5) fun r41 => zzopt S 1 r41 (some ((0 : Int32), S, M)) (fun b42 => some ((1 : Int32), S, M)))) := by
    rw [FDp_s]; rfl
  rw [e, h, pcall, if_neg (by decide), cR_23_6 hC, cr_26 hS, plet, he.1]
  refine pcallA (c_copyOf hS hl) g ?_ (gS.rf _)
  rw [poptp k1 k2, plet, plet]
  have e2 : zzR (zzsR (zzcpI (zzclr M1 S.2.1) 26 0 S.2.1 0 E.length) s 5 (some S.2.1)) s 5 = some S.2.1 := by simp [plet, pcall, pck, pI_I, pI_L, pI_R, pL_I, pL_L, pL_R, pR_I, pR_L, pR_R]
  rw [e2, poptp (show S.2.1 < S.2.1 + 1 by omega) (by unfold zzk zznew; simp)]
  rfl
theorem p_En {S : zzS} {M M1 : zzM} {n s : Nat} {dd : Int32} (hs : s < S.2.1) (hk : zzk S s = 13) (h : FD_Rd_ranked S 60 (zzsI M 23 7 0) 23 0 0 = some (0, M1)) : FD_Rd_part (n + 1) S M 23 (some s) 69 dd = some (0, S, zzsR M1 s 5 none) := by
  have e : FD_Rd_part (n + 1) S M 23 (some s) 69 dd = zzcall (FD_Rd_ranked S 60 (zzsI M 23 7 0) 23 0 0) fun r31 M => if r31 = 0 then (zzopt S 13 (some s) (none) (fun b32 => zzlet (zzsR M b32 5 none) fun M => zzlet (zzR M b32 5) fun r34 => zzopt S 1 r34 (some ((0 : Int32), S, M)) (fun b35 => some ((1 : Int32), S, M)))) else (zzref S 1 (zzR M 23 6) fun b36 => zzlet (zzI M 23 7) fun x37 => zzcallA S (F_Ar_copyOf S M (some b36) x37) fun r38 S M => zzopt S 13 (some s) (none) (fun b39 => zzlet (zzsR M b39 5 r38) fun M => zzlet (zzR M b39 5) fun r41 => zzopt S 1 r41 (some ((0 : Int32), S, M)) (fun b42 => some ((1 : Int32), S, M)))) := by
    rw [FDp_s]; rfl
  have e2 : zzR (zzsR M1 s 5 none) s 5 = none := by simp [plet, pcall, pck, pI_I, pI_L, pI_R, pL_I, pL_L, pL_R, pR_I, pR_L, pR_R]
  rw [e, h, pcall, if_pos rfl, poptp hs hk, plet, plet, e2, poptn]
theorem p_A {S : zzS} {M M1 : zzM} {n s : Nat} {dd : Int32} {E : List (Int32 × Int32)} (hS : clS S) (hC : clR M1) (hs : s < S.2.1) (hk : zzk S s = 13) (he : ceR M1 E) (hl : E.length < 400) (h : FD_Rd_atom S 60 (zzsI M 23 7 0) 23 0 = some (1, M1)) : FD_Rd_part (n + 1) S M 23 (some s) 65 dd = some (1, zznew S 1 E.length E.length, mkA S M1 s 4 E.length) := by
  have g := gS_new S 1 E.length E.length
  obtain ⟨k1, k2⟩ := g.k hs hk
  have e : FD_Rd_part (n + 1) S M 23 (some s) 65 dd = zzcall (FD_Rd_atom S 60 (zzsI M 23 7 0) 23 0) fun r31 M => if r31 = 0 then (zzopt S 13 (some s) (none) (fun b32 => zzlet (zzsR M b32 4 none) fun M => zzlet (zzR M b32 4) fun r34 => zzopt S 1 r34 (some ((0 : Int32), S, M)) (fun b35 => some ((1 : Int32), S, M)))) else (zzref S 1 (zzR M 23 6) fun b36 => zzlet (zzI M 23 7) fun x37 => zzcallA S (F_Ar_copyOf S M (some b36) x37) fun r38 S M => zzopt S 13 (some s) (none) (fun b39 => zzlet (zzsR M b39 4 r38) fun M => zzlet (zzR M b39 4) fun r41 => zzopt S 1 r41 (some ((0 : Int32), S, M)) (fun b42 => some ((1 : Int32), S, M)))) := by
    rw [FDp_s]; rfl
  rw [e, h, pcall, if_neg (by decide), cR_23_6 hC, cr_26 hS, plet, he.1]
  refine pcallA (c_copyOf hS hl) g ?_ (gS.rf _)
  rw [poptp k1 k2, plet, plet]
  have e2 : zzR (zzsR (zzcpI (zzclr M1 S.2.1) 26 0 S.2.1 0 E.length) s 4 (some S.2.1)) s 4 = some S.2.1 := by simp [plet, pcall, pck, pI_I, pI_L, pI_R, pL_I, pL_L, pL_R, pR_I, pR_L, pR_R]
  rw [e2, poptp (show S.2.1 < S.2.1 + 1 by omega) (by unfold zzk zznew; simp)]
  rfl
theorem p_An {S : zzS} {M M1 : zzM} {n s : Nat} {dd : Int32} (hs : s < S.2.1) (hk : zzk S s = 13) (h : FD_Rd_atom S 60 (zzsI M 23 7 0) 23 0 = some (0, M1)) : FD_Rd_part (n + 1) S M 23 (some s) 65 dd = some (0, S, zzsR M1 s 4 none) := by
  have e : FD_Rd_part (n + 1) S M 23 (some s) 65 dd = zzcall (FD_Rd_atom S 60 (zzsI M 23 7 0) 23 0) fun r31 M => if r31 = 0 then (zzopt S 13 (some s) (none) (fun b32 => zzlet (zzsR M b32 4 none) fun M => zzlet (zzR M b32 4) fun r34 => zzopt S 1 r34 (some ((0 : Int32), S, M)) (fun b35 => some ((1 : Int32), S, M)))) else (zzref S 1 (zzR M 23 6) fun b36 => zzlet (zzI M 23 7) fun x37 => zzcallA S (F_Ar_copyOf S M (some b36) x37) fun r38 S M => zzopt S 13 (some s) (none) (fun b39 => zzlet (zzsR M b39 4 r38) fun M => zzlet (zzR M b39 4) fun r41 => zzopt S 1 r41 (some ((0 : Int32), S, M)) (fun b42 => some ((1 : Int32), S, M)))) := by
    rw [FDp_s]; rfl
  have e2 : zzR (zzsR M1 s 4 none) s 4 = none := by simp [plet, pcall, pck, pI_I, pI_L, pI_R, pL_I, pL_L, pL_R, pR_I, pR_L, pR_R]
  rw [e, h, pcall, if_pos rfl, poptp hs hk, plet, plet, e2, poptn]
/-- a character -/
theorem p_t {S : zzS} {M : zzM} {T : Nat → Nat} {N i n v s : Nat} {dd : Int32} (h : rcC S M T N) (hh : zzI M 23 2 = nI i) (hi : i ≤ N) (hv : v = 58 ∨ v = 59 ∨ v = 61) : FD_Rd_part (n + 1) S M 23 (some s) (nI v) dd = if chT T N i = v then some (1, S, zzsI M 23 2 (nI (i + 1))) else some (0, S, M) := by
  have hz : zzokZ 1 = true := by decide
  have hz0 : zzokZ 0 = true := by decide
  have e : FD_Rd_part (n + 1) S M 23 (some s) (nI v) dd = zzcall (F_Rd_take S M 23 (nI v)) fun r87 M => zzck (zzokZ r87) (some (r87, S, M)) := by
    rw [FDp_s]
    rcases hv with rfl | rfl | rfl <;> rfl
  rw [e, c_take h hh hi (by omega) (by omega)]
  by_cases hc : chT T N i = v
  · rw [if_pos hc, if_pos hc, pcall, hz, pck]
  · rw [if_neg hc, if_neg hc, pcall, hz0, pck]
/-- a field's digit -/
theorem p_D {S : zzS} {M : zzM} {T : Nat → Nat} {N i n s : Nat} {dd : Int32} (h : rcC S M T N) (hh : zzI M 23 2 = nI i) (hi : i ≤ N) (hs : s < S.2.1) (hk : zzk S s = 13) : FD_Rd_part (n + 1) S M 23 (some s) 68 dd = if 48 ≤ chT T N i ∧ chT T N i ≤ 53 then some (1, S, zzsI (zzsI M 23 2 (nI (i + 1))) s 3 (nI (chT T N i - 48))) else some (0, S, zzsI M s 3 (-1)) := by
  have e : FD_Rd_part (n + 1) S M 23 (some s) 68 dd = zzcall (F_Rd_fieldDigit S M 23) fun r27 M => zzopt S 13 (some s) (none) (fun b28 => zzlet (zzsI M b28 3 r27) fun M => zzlet (zzI M b28 3) fun x29 => if x29 = (-1 : Int32) then (some ((0 : Int32), S, M)) else (some ((1 : Int32), S, M))) := by
    rw [FDp_s]; rfl
  rw [e, c_fieldDigit h hh hi]
  by_cases hc : 48 ≤ chT T N i ∧ chT T N i ≤ 53
  · rw [if_pos hc, if_pos hc, pcall, poptp hs hk, plet, plet]
    have e2 : zzI (zzsI (zzsI M 23 2 (nI (i + 1))) s 3 (nI (chT T N i - 48))) s 3 = nI (chT T N i - 48) := by simp [plet, pcall, pck, pI_I, pI_L, pI_R, pL_I, pL_L, pL_R, pR_I, pR_L, pR_R]
    rw [e2, if_neg (nI_m1 (by omega))]
  · rw [if_neg hc, if_neg hc, pcall, poptp hs hk, plet, plet]
    have e2 : zzI (zzsI M s 3 (-1)) s 3 = -1 := by simp [plet, pcall, pck, pI_I, pI_L, pI_R, pL_I, pL_L, pL_R, pR_I, pR_L, pR_R]
    rw [e2, if_pos rfl]
/-! the loop over a statement's shape -/
abbrev cS58 (n q : Nat) := F_Rd_statement_58 (FD_Rd_block n) (FD_Rd_statement n) (FD_Rd_part n) (FD_Rd_enclosed n) q
theorem s58_step {n q : Nat} : cS58 n (q + 1) = F_Rd_statement_58_b (FD_Rd_block n) (FD_Rd_statement n) (FD_Rd_part n) (FD_Rd_enclosed n) (cS58 n q) := rfl
theorem s58_end {S : zzS} {M : zzM} {n q sh s j : Nat} {dd : Int32} (hsh : sh < 11) (hj : j = zzsl sh) (hl : j ≤ 6) : cS58 n (q + 1) S M 23 dd sh (some s) (nI j) = some (some s, S, M) := by
  have hq : zzsq sh = true := by simp [zzsq, hsh]
  rw [s58_step]
  simp only [F_Rd_statement_58_b, hq, pck, ← hj, if_pos (nI_le (Nat.le_refl j) (by omega))]
theorem s58_y {S S1 S2 : zzS} {M M1 M2 : zzM} {n q sh s j : Nat} {dd c : Int32} {r : Option Nat} (hS : clS S1) (hsh : sh < 11) (hj : j < zzsl sh) (hl : j < 6) (hz : zzsl sh ≤ 6) (hc : zzsb sh j = c) (hp : FD_Rd_part n S M 23 (some s) c dd = some (1, S1, M1)) (g : gS S S1) (h : cS58 n q S1 M1 23 dd sh (some s) (nI (j + 1)) = some (r, S2, M2)) (g2 : gS S1 S2) : cS58 n (q + 1) S M 23 dd sh (some s) (nI j) = some (r, S2, M2) := by
  have hq : zzsq sh = true := by simp [zzsq, hsh]
  have hk : zzscok sh (nI j) = true := by simp [zzscok, hsh, nI_pos (n := j) (by omega), pnI (show j < 100000 by omega), hj]
  rw [s58_step]
  simp only [F_Rd_statement_58_b, hq, pck, if_neg (nI_ge hj (show zzsl sh < 2 ^ 31 by omega)), hk, pnI (show j < 100000 by omega), hc, plet]
  refine pcallA hp g ?_ g2
  rw [if_neg (by decide), phas (cl_23 hS) (ck_23 hS), pck, ← nI_succ]
  exact h
theorem s58_n {S S1 : zzS} {M M1 : zzM} {n q sh s j : Nat} {dd c : Int32} (hsh : sh < 11) (hj : j < zzsl sh) (hl : j < 6) (hz : zzsl sh ≤ 6) (hc : zzsb sh j = c) (hp : FD_Rd_part n S M 23 (some s) c dd = some (0, S1, M1)) (g : gS S S1) : cS58 n (q + 1) S M 23 dd sh (some s) (nI j) = some (none, S1, M1) := by
  have hq : zzsq sh = true := by simp [zzsq, hsh]
  have hk : zzscok sh (nI j) = true := by simp [zzscok, hsh, nI_pos (n := j) (by omega), pnI (show j < 100000 by omega), hj]
  rw [s58_step]
  simp only [F_Rd_statement_58_b, hq, pck, if_neg (nI_ge hj (show zzsl sh < 2 ^ 31 by omega)), hk, pnI (show j < 100000 by omega), hc, plet]
  exact pcallA hp g (if_pos rfl) (gS.rf _)
