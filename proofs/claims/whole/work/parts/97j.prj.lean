/-! blocks within statements -/
def bkO (T : Nat → Nat) (N w fu : Nat) (d : Nat) (S : zzS) (Mc Mm : zzM) (i m q tl c ec : Nat) (x : Option (Option Nat × zzS × zzM)) (G : Nat → Option (Int32 × zzM)) : Prop := ∃ S1 Mc1 Mm1 i2 m2 q2 t2 k, x = some (some S.2.1, S1, Mc1) ∧ gS S S1 ∧ fcN S.2.1 Mc Mc1 ∧ cQ S1 Mc1 T N i2 t2 fu ∧ chT T N i2 = ec ∧ (∀ f, G (f + k) = zzcall (F_Md_close lwSm Mm1 28) (fun _ M => rd f M)) ∧ mQ Mm1 T N w i2 m2 q2 t2 d ∧ frR w m q d Mm Mm1 ∧ qB S1 Mc1 Mm1 w T N q2 (3 - d) S.2.1 S1.2.1 S.2.1 m m2 ∧ i ≤ i2 ∧ m2 ≤ m + (i2 - i) ∧ q ≤ q2 ∧ q2 ≤ q + (i2 - i) ∧ tl ≤ t2 ∧ grw S S1 tl t2 i i2 c ∧ k ≤ i2 - i + 1
def rBk (T : Nat → Nat) (N w fu n d : Nat) : Prop := ∀ S Mc Mm i m q tl ec kd, cQ S Mc T N i tl fu → mQ Mm T N w i m q tl d → m ≤ i → q ≤ i → zzI Mm 41 (d - 1) = kd → ((kd = 4 ∧ ec = 93) ∨ (kd ≠ 4 ∧ ec = 125)) → bkO T N w fu d S Mc Mm i m q tl 1 ec (FD_Rd_block n S Mc 23 (nI d) (nI ec)) (fun f => rd f Mm) ∨ rF S N w i tl fu 1 Mc Mm (FD_Rd_block n S Mc 23 (nI d) (nI ec)) (fun f => rd f Mm)
/-- an enclosed block: both at its first brace -/
def enO (T : Nat → Nat) (N w fu : Nat) (d : Nat) (S : zzS) (Mc Mm : zzM) (i m q tl : Nat) (kd ov : Int32) (x : Option (Option Nat × zzS × zzM)) (G : Nat → Option (Int32 × zzM)) : Prop := ∃ S1 Mc1 Mm1 i2 m2 q2 t2 k, x = some (some S.2.1, S1, Mc1) ∧ gS S S1 ∧ fcN S.2.1 Mc Mc1 ∧ cQ S1 Mc1 T N (i2 + 1) t2 fu ∧ (∀ f, G (f + k) = zzcall (F_Md_close lwSm Mm1 28) (fun _ M => rd f M)) ∧ mQ Mm1 T N w i2 m2 q2 t2 (d + 1) ∧ frR w m q d Mm Mm1 ∧ zzI Mm1 41 d = kd ∧ zzI Mm1 42 d = ov ∧ d < 2 ∧ qB S1 Mc1 Mm1 w T N q2 (2 - d) S.2.1 S1.2.1 S.2.1 m m2 ∧ i < i2 ∧ m ≤ m2 ∧ m2 ≤ m + (i2 - (i + 1)) ∧ q ≤ q2 ∧ q2 ≤ q + (i2 - (i + 1)) ∧ tl ≤ t2 ∧ grw S S1 tl t2 i i2 1 ∧ k ≤ i2 - i
theorem r_encl {S : zzS} {Mc Mm : zzM} {T : Nat → Nat} {N w i m q tl d fu n br ec : Nat} {kd ov : Int32} (hB : d < 2 → rBk T N w fu n (d + 1)) (hc : cQ S Mc T N i tl fu) (hm : mQ Mm T N w i m q tl d) (hmi : m ≤ i + 1) (hqi : q ≤ i + 1) (hd : d ≤ 2) (hbr : (br = 91 ∧ ec = 93 ∧ kd = 4) ∨ (br = 123 ∧ ec = 125 ∧ kd ≠ 4)) : enO T N w fu d S Mc Mm i m q tl kd ov (FD_Rd_enclosed (n + 1) S Mc 23 (nI br) (nI ec) (nI d)) (fun f => zzcall (F_Md_open lwSm Mm 28 kd (nI br) ov) (fun _ M => rd f M)) ∨ rF S N w i tl fu 1 Mc Mm (FD_Rd_enclosed (n + 1) S Mc 23 (nI br) (nI ec) (nI d)) (fun f => zzcall (F_Md_open lwSm Mm 28 kd (nI br) ov) (fun _ M => rd f M)) := by
  have hN := hc.1.2.2.2.2.1
  have hiN := hc.2.2.1
  have htl := hc.2.2.2.2.2.1
  have hb0 : br < 1000 ∧ br ≠ 0 ∧ ec < 1000 ∧ ec ≠ 0 ∧ br ≠ 10 ∧ ec ≠ 10 := by omega
  have fail : FD_Rd_enclosed (n + 1) S Mc 23 (nI br) (nI ec) (nI d) = some (none, S, Mc) → (chT T N i ≠ br ∨ d = 2) → rF S N w i tl fu 1 Mc Mm (FD_Rd_enclosed (n + 1) S Mc 23 (nI br) (nI ec) (nI d)) (fun f => zzcall (F_Md_open lwSm Mm 28 kd (nI br) ov) (fun _ M => rd f M)) := fun e ho => by
    refine rF_w (t2 := tl) (y := i) (p := i) e (gS.rf _) (fcN.rf _ _).Z hc.2.1 hiN (Mm1 := zzsI Mm 28 17 (nI i)) (fun f => ?_) (by simp [plet, pcall, pck, pI_I, pI_L, pI_R, pL_I, pL_L, pL_R, pR_I, pR_L, pR_R]) (by omega) (frR_s (m := m) (q := q) (d := d) (by omega)).Z (Nat.le_refl _) htl (Nat.le_refl _) hiN ⟨by omega, by omega⟩
    show zzcall (F_Md_open lwSm Mm 28 kd (nI br) ov) (fun _ M => rd f M) = _
    rw [m_open_n hm (by omega) hb0.1 hb0.2.1 ho, pcall]
  by_cases hd2 : d < 2
  · have hnd : ¬ (2 : Int32) ≤ nI d := nI_ge (b := 2) hd2 (by omega)
    by_cases hcb : chT T N i = br
    · have hlt := chT_lt (T := T) (N := N) (i := i) (by omega)
      have hc1 : cQ S (zzsI Mc 23 2 (nI (i + 1))) T N (i + 1) tl fu := hc.N (gS.rf _) (fcN_23 (by omega)) (by simp [plet, pcall, pck, pI_I, pI_L, pI_R, pL_I, pL_L, pL_R, pR_I, pR_L, pR_R]) (by omega) (by omega) (nn_1 (N := N) (by omega) (by omega)) (by simp [plet, pcall, pck, pI_I, pI_L, pI_R, pL_I, pL_L, pL_R, pR_I, pR_L, pR_R]) (by simp [plet, pcall, pck, pI_I, pI_L, pI_R, pL_I, pL_L, pL_R, pR_I, pR_L, pR_R]; exact hc.2.2.2.2.1) htl
      obtain ⟨o1, o2, o3⟩ := hm.op (kd := kd) (ov := ov)
      have hop := m_open_y (kd := kd) (ov := ov) hm (by omega) hb0.1 hb0.2.1 hcb hd2
      have hfop : frR w m q d Mm (mop Mm i d kd ov) := mop_f
      have ecl : ∀ (r : Option Nat) (S9 : zzS) (M9 : zzM), gS S S9 → (zzcallA S (FD_Rd_block n S (zzsI Mc 23 2 (nI (i + 1))) 23 (nI (d + 1)) (nI ec)) fun r3 S M => zzopt S 12 r3 (some (none, S, M)) (fun b4 => zzck (zzhas S 23 17) (zzcall (F_Rd_take S M 23 (nI ec)) fun r5 M => if r5 = 0 then (some (none, S, M)) else (some (some b4, S, M))))) = some (r, S9, M9) → FD_Rd_enclosed (n + 1) S Mc 23 (nI br) (nI ec) (nI d) = some (r, S9, M9) := fun r S9 M9 g9 h9 => by
        rw [FDe_s]
        unfold F_Rd_enclosed
        rw [if_neg hnd, c_take hc.1 hc.2.1 hiN hb0.1 hb0.2.1, if_pos hcb, pcall, if_neg (by decide), plet, ← nI_succ]
        exact h9
      rcases hB hd2 S (zzsI Mc 23 2 (nI (i + 1))) (mop Mm i d kd ov) (i + 1) m q tl ec kd hc1 o1 hmi hqi o2 (by rcases hbr with ⟨_, h1, h2⟩ | ⟨_, h1, h2⟩; exact Or.inl ⟨h2, h1⟩; exact Or.inr ⟨h2, h1⟩) with ⟨S1, Mc1, Mm1, i2, m2, q2, t2, k, a1, a2, a3, a4, a5, a6, a7, a8, a9, a10, a11, a12, a13, a14, a15, a16⟩ | ⟨p, S1, Mc1, Mm1, k, t2, y, a1, a2, a3, a4, a5, a6, a7, a8, a9, a10, a11, a12, a13, a14⟩
      · left
        have hlt2 := chT_lt (T := T) (N := N) (i := i2) (by omega)
        have hbk : S.2.1 < S1.2.1 ∧ zzk S1 S.2.1 = 12 := by
          have e : 3 - (d + 1) = (1 - d) + 1 := by omega
          rw [e] at a9
          exact ⟨a9.2.1, a9.2.2.1.2.1⟩
        have htk := c_take a4.1 a4.2.1 a4.2.2.1 hb0.2.2.1 hb0.2.2.2.1
        rw [if_pos a5] at htk
        have hle := a9.le
        refine ⟨S1, zzsI Mc1 23 2 (nI (i2 + 1)), Mm1, i2, m2, q2, t2, k, ecl _ _ _ a2 (pcallA a1 a2 ?_ (gS.rf _)), a2, ((fcN_23 (by omega)).tr a3 (Nat.le_refl _)).tr (fcN_23 (by omega)) (Nat.le_refl _), a4.N (gS.rf _) (fcN_23 (by omega)) (by simp [plet, pcall, pck, pI_I, pI_L, pI_R, pL_I, pL_L, pL_R, pR_I, pR_L, pR_R]) (by omega) (by omega) (nn_1 (N := N) (by omega) (by omega)) (by simp [plet, pcall, pck, pI_I, pI_L, pI_R, pL_I, pL_L, pL_R, pR_I, pR_L, pR_R]) (by simp [plet, pcall, pck, pI_I, pI_L, pI_R, pL_I, pL_L, pL_R, pR_I, pR_L, pR_R]; exact a4.2.2.2.2.1) a4.2.2.2.2.2.1, fun f => ?_, a7, hfop.tr a8 (Nat.le_refl _) (Nat.le_refl _) (by omega), (a8.2.2.1 41 d (by omega) (by omega)).trans o2, (a8.2.2.1 42 d (by omega) (by omega)).trans o3, hd2, ?_, by omega, hle.1, by omega, a12, by omega, a14, ⟨by have := a15.1; omega, by have := a15.2; omega⟩, by omega⟩
        · rw [poptp hbk.1 hbk.2, phas (cl_23 a4.1.1) (ck_23 a4.1.1), pck, htk, pcall, if_neg (by decide)]
        · show zzcall (F_Md_open lwSm Mm 28 kd (nI br) ov) (fun _ M => rd (f + k) M) = _
          rw [hop, pcall]
          exact a6 f
        · have e : 3 - (d + 1) = 2 - d := by omega
          rw [e] at a9
          refine qB.go (S := S1) (Mc := Mc1) (Mm := Mm1) (Nat.le_refl q2) ⟨Nat.le_refl _, fun a g1 g2 => ⟨rfl, fun k => ?_, fun k => rfl⟩⟩ ⟨fun _ _ _ _ _ _ => rfl, fun _ _ _ _ => rfl⟩ a9
          have h63 := hc.1.1.2.2.2
          rw [pI_I, if_neg (by omega)]
      · right
        refine ⟨p, S1, Mc1, Mm1, k, t2, y, ecl _ _ _ a2 (pcallA a1 a2 (by rw [poptn]) (gS.rf _)), a2, (fcN_23 (n0 := S.2.1) (by omega)).Z.tr a3 (Nat.le_refl _), a4, a5, fun f => ?_, a7, hfop.Z.tr a8, a9, a10, by omega, a12, ⟨a13.1, by have := a13.2; omega⟩, by omega⟩
        show zzcall (F_Md_open lwSm Mm 28 kd (nI br) ov) (fun _ M => rd (f + k + 1) M) = _
        rw [hop, pcall]
        exact a6 f
    · refine Or.inr (fail ?_ (Or.inl hcb))
      rw [FDe_s]
      unfold F_Rd_enclosed
      rw [if_neg hnd, c_take hc.1 hc.2.1 hiN hb0.1 hb0.2.1, if_neg hcb, pcall, if_pos rfl]
  · refine Or.inr (fail ?_ (Or.inr (by omega)))
    rw [FDe_s]
    unfold F_Rd_enclosed
    rw [if_pos (show (2 : Int32) ≤ nI d from nI_le (a := 2) (by omega) (by omega))]
/-- the part that holds a block -/
theorem p_blk {S S1 : zzS} {M M1 : zzM} {n s k b : Nat} {c dd : Int32} (hck : (c = 66 ∧ k = 6) ∨ (c = 67 ∧ k = 7)) (hs : s < S1.2.1) (hk : zzk S1 s = 13) (hb : b < S1.2.1) (hbk : zzk S1 b = 12) (g : gS S S1) (h : FD_Rd_enclosed n S M 23 123 125 dd = some (some b, S1, M1)) : FD_Rd_part (n + 1) S M 23 (some s) c dd = some (1, S1, zzsR M1 s k (some b)) := by
  rcases hck with ⟨rfl, rfl⟩ | ⟨rfl, rfl⟩
  · rw [FDp_s]
    show zzcallA S (FD_Rd_enclosed n S M 23 123 125 dd) (fun r15 S M => zzopt S 13 (some s) (none) (fun b16 => zzlet (zzsR M b16 6 r15) fun M => zzlet (zzR M b16 6) fun r18 => zzopt S 12 r18 (some ((0 : Int32), S, M)) (fun b19 => some ((1 : Int32), S, M)))) = _
    refine pcallA h g ?_ (gS.rf _)
    have e2 : zzR (zzsR M1 s 6 (some b)) s 6 = some b := by simp [plet, pcall, pck, pI_I, pI_L, pI_R, pL_I, pL_L, pL_R, pR_I, pR_L, pR_R]
    rw [poptp hs hk, plet, plet, e2, poptp hb hbk]
  · rw [FDp_s]
    show zzcallA S (FD_Rd_enclosed n S M 23 123 125 dd) (fun r15 S M => zzopt S 13 (some s) (none) (fun b16 => zzlet (zzsR M b16 7 r15) fun M => zzlet (zzR M b16 7) fun r18 => zzopt S 12 r18 (some ((0 : Int32), S, M)) (fun b19 => some ((1 : Int32), S, M)))) = _
    refine pcallA h g ?_ (gS.rf _)
    have e2 : zzR (zzsR M1 s 7 (some b)) s 7 = some b := by simp [plet, pcall, pck, pI_I, pI_L, pI_R, pL_I, pL_L, pL_R, pR_I, pR_L, pR_R]
    rw [poptp hs hk, plet, plet, e2, poptp hb hbk]
theorem p_blk_n {S S1 : zzS} {M M1 : zzM} {n s k : Nat} {c dd : Int32} (hck : (c = 66 ∧ k = 6) ∨ (c = 67 ∧ k = 7)) (hs : s < S1.2.1) (hk : zzk S1 s = 13) (g : gS S S1) (h : FD_Rd_enclosed n S M 23 123 125 dd = some (none, S1, M1)) : FD_Rd_part (n + 1) S M 23 (some s) c dd = some (0, S1, zzsR M1 s k none) := by
  rcases hck with ⟨rfl, rfl⟩ | ⟨rfl, rfl⟩
  · rw [FDp_s]
    show zzcallA S (FD_Rd_enclosed n S M 23 123 125 dd) (fun r15 S M => zzopt S 13 (some s) (none) (fun b16 => zzlet (zzsR M b16 6 r15) fun M => zzlet (zzR M b16 6) fun r18 => zzopt S 12 r18 (some ((0 : Int32), S, M)) (fun b19 => some ((1 : Int32), S, M)))) = _
    refine pcallA h g ?_ (gS.rf _)
    have e2 : zzR (zzsR M1 s 6 none) s 6 = none := by simp [plet, pcall, pck, pI_I, pI_L, pI_R, pL_I, pL_L, pL_R, pR_I, pR_L, pR_R]
    rw [poptp hs hk, plet, plet, e2, poptn]
  · rw [FDp_s]
    show zzcallA S (FD_Rd_enclosed n S M 23 123 125 dd) (fun r15 S M => zzopt S 13 (some s) (none) (fun b16 => zzlet (zzsR M b16 7 r15) fun M => zzlet (zzR M b16 7) fun r18 => zzopt S 12 r18 (some ((0 : Int32), S, M)) (fun b19 => some ((1 : Int32), S, M)))) = _
    refine pcallA h g ?_ (gS.rf _)
    have e2 : zzR (zzsR M1 s 7 none) s 7 = none := by simp [plet, pcall, pck, pI_I, pI_L, pI_R, pL_I, pL_L, pL_R, pR_I, pR_L, pR_R]
    rw [poptp hs hk, plet, plet, e2, poptn]
/-- writing a statement's own slot changes nothing of what lies behind it -/
theorem agC_s {S : zzS} {M : zzM} {s k lo hi : Nat} {v : Option Nat} (h : s < lo) : agC lo hi S S M (zzsR M s k v) := ⟨Nat.le_refl _, fun a h1 _ => ⟨rfl, fun _ => rfl, fun j => by rw [pR_R, if_neg (by omega)]⟩⟩
theorem cQ.w {S : zzS} {M : zzM} {T : Nat → Nat} {N i tl fu s k : Nat} {v : Option Nat} (h : cQ S M T N i tl fu) (hs : 63 ≤ s) : cQ S (zzsR M s k v) T N i tl fu := by
  obtain ⟨⟨r1, r2, r3, r4, r5, r6⟩, c2, c3, c4, c5, c6, c7, c8⟩ := h
  have e : ∀ j, zzR (zzsR M s k v) 23 j = zzR M 23 j := fun j => by rw [pR_R, if_neg (by omega)]
  exact ⟨⟨r1, clR_far r2 hs, (e 0).trans r3, r4, r5, r6⟩, c2, c3, c4, c5, c6, (e 5).trans c7, c8⟩
