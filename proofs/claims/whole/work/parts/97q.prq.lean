/-! the text's own block read -/
theorem m_isEnd0 {M : zzM} {T : Nat → Nat} {N w i m q tl : Nat} (h : mQ M T N w i m q tl 0) : F_Md_isEndHere lwSm M 28 = some (0, M) := by
  simp only [F_Md_isEndHere, plet, h.2.2.2.2.2.2]
  exact if_pos (by decide)
def tO (T : Nat → Nat) (N w fu : Nat) (S0 : zzS) (Mc0 Mm0 : zzM) (x : Option (Option Nat × zzS × zzM)) (G : Nat → Option (Int32 × zzM)) : Prop := ∃ S1 Mc1 Mm1 m q tl k L, x = some (some S0.2.1, S1, Mc1) ∧ gS S0 S1 ∧ fcZ fu S0.2.1 Mc0 Mc1 ∧ cQ S1 Mc1 T N N tl fu ∧ (∀ f, G (f + k + 1) = F_Md_read_172 lwSm Mm1 28) ∧ mQ Mm1 T N w N m q tl 0 ∧ frZ w Mm0 Mm1 ∧ bkI S1 Mc1 Mm1 T N w q 0 S0.2.1 0 m L ∧ fnQ S1 Mc1 Mm1 T N w q m fu L ∧ m ≤ N ∧ q ≤ N ∧ grw S0 S1 0 tl 0 N 1 ∧ k ≤ N + 1
theorem fnQ.mo {S : zzS} {Mc Mc1 Mm Mm1 : zzM} {T : Nat → Nat} {N w q m fu b0 : Nat} {L : List Nat} (H : fnQ S Mc Mm T N w q m fu L) (hfu : fu < S.2.1) (hb1 : fu ≠ b0) (hb2 : b0 < S.2.1) (hblo : ∀ s, fu < s → zzk S s = 13 → b0 < s) (hI : ∀ a k, 63 ≤ a → a < S.2.1 → zzI Mc1 a k = zzI Mc a k) (hR : ∀ a k, a < S.2.1 → zzR Mc1 a k = zzR Mc a k) (hm : agM w q 0 m Mm Mm1) (h38 : ∀ k, zzI Mm1 38 k = zzI Mm 38 k) : fnQ S Mc1 Mm1 T N w q m fu L := by
  intro f hf
  rcases fnQ.go (S1 := S) (Mc1 := Mc1) (Mm1 := Mm1) (q2 := q) (m2 := m) H (gS.rf _) hfu (fun s h1 h2 => by have := hblo s h1 h2; omega) hb1 hb2 hI (fun a k _ h2 _ _ _ => hR a k h2) hm (Nat.le_refl _) (Nat.le_refl _) hblo f hf (hR fu f hfu) (h38 _) with h | ⟨h, s, i, j, b, k1, k2, k3, k4, k5, k6, k7, k8, k9, k10, k11, k12, k13⟩
  · exact Or.inl h
  · exact Or.inr ⟨h, s, i, j, b, k1, k2, k3, k4, k5, k6, k7, k8, k9, k10, k11, k12, fun l hl => k13 l (List.mem_append_left _ hl)⟩
theorem agM.rf (w q i j : Nat) (M : zzM) : agM w q i j M M := ⟨fun _ _ _ _ _ _ => rfl, fun _ _ _ _ => rfl⟩
theorem k_body {S0 : zzS} {Mc0 Mm0 : zzM} {T : Nat → Nat} {N w fu n : Nat} (hN : N ≤ 400) (hfu0 : fu + 1 = S0.2.1) : ∀ (y n2 : Nat) (S : zzS) (Mc Mm : zzM) (i m q tl k : Nat) (L : List Nat), N - i < y → y ≤ n2 → gS S0 S → fcZ fu S0.2.1 Mc0 Mc → frZ w Mm0 Mm → cQ S Mc T N i tl fu → mQ Mm T N w i m q tl 0 → bkI S Mc Mm T N w q 0 S0.2.1 0 m L → fnQ S Mc Mm T N w q m fu L → (∀ l ∈ L, l < S.2.1) → (∀ f, rd (f + k) Mm0 = rd f Mm) → k ≤ i → m ≤ i → q ≤ i → L.length ≤ tl → grw S0 S 0 tl 0 i 1 →
    (tO T N w fu S0 Mc0 Mm0 (cB11 (n + 11) n2 S Mc 23 (nI 0) (nI 0) S0.2.1 (nI L.length)) (fun f => rd f Mm0) ∨ rF S0 N w 0 0 fu 1 Mc0 Mm0 (cB11 (n + 11) n2 S Mc 23 (nI 0) (nI 0) S0.2.1 (nI L.length)) (fun f => rd f Mm0)) ∧ ∀ r S9 M9, cB11 (n + 11) n2 S Mc 23 (nI 0) (nI 0) S0.2.1 (nI L.length) = some (r, S9, M9) → gS S S9 := by
  intro y
  induction y with
  | zero => intro n2 S Mc Mm i m q tl k L h; omega
  | succ y ih =>
    intro n2 S Mc Mm i m q tl k L hy hn2 hg hfc hfm hc hm hI hF hLl hG hk hmi hqi hL hgr
    obtain ⟨n3, rfl⟩ : ∃ n3, n2 = n3 + 1 := ⟨n2 - 1, by omega⟩
    have hiN := hc.2.2.1
    have htl := hc.2.2.2.2.2.1
    have hok := hm.1.ok
    have hfu63 : 63 ≤ fu := hc.2.2.2.2.2.2.2.1
    have hfuS : fu < S.2.1 := hc.2.2.2.2.2.2.2.2.1
    have hblo : ∀ s, fu < s → zzk S s = 13 → S0.2.1 < s := fun s h1 h2 => by
      by_cases e : s = S0.2.1
      · rw [e, hI.2.2.1] at h2
        exact absurd h2 (by decide)
      · omega
    obtain ⟨j, Mc1, Mm1, s1, s2, s3, s4, s5, s6, s7, s8⟩ := rd_skip (f := 0) (N - i + 1) 2000 2000 i Mc Mm (by omega) (by omega) (by omega) hc hm
    have hjN := s5.2.2.1
    have hfc1 : fcZ fu S0.2.1 Mc0 Mc1 := hfc.tr (s3 S0.2.1).Z (Nat.le_refl _)
    have hfm1 := hfm.tr (s4 m q 0).Z
    have hcs : ∀ a k, 63 ≤ a → a < S.2.1 → zzI Mc1 a k = zzI Mc a k := fun a k g1 g2 => (s3 S.2.1).1 a k g2 (by omega) (by omega)
    have hcR : ∀ a k, a < S.2.1 → zzR Mc1 a k = zzR Mc a k := fun a k g2 => (s3 S.2.1).2.1 a k g2
    have hI1 : bkI S Mc1 Mm1 T N w q 0 S0.2.1 0 m L := hI.mo (fun a k g1 g2 => ⟨hcs a k (by have := hI.1; omega) g2, hcR a k g2⟩) (s4 m q 0).ag
    have hF1 : fnQ S Mc1 Mm1 T N w q m fu L := hF.mo (b0 := S0.2.1) hfuS (by omega) hI.2.1 hblo hcs hcR (s4 m q 0).ag (fun k => (s4 m q 0).2.2.2.1 38 k (by omega) (by omega) (by omega))
    have hend := m_isEnd0 s6
    have hskf : F_Rd_skipLineFeeds S Mc 23 = some ((), Mc1) := s1
    have hpk := c_peek s5.1 s5.2.1 hjN
    have hn100 : ¬ (100 : Int32) < nI L.length := nI_nlt (a := 100) (by omega) (by omega)
    have hch := chT_le hok j
    by_cases hjlt : j < N
    · have hch0 : chT T N j ≠ 0 := by
        have := hok j hjlt
        unfold okc at this
        unfold chT
        rw [if_pos hjlt]
        omega
      have hgo : ∀ f, rd (f + 1 + k) Mm0 = bdy f Mm1 := fun f => by
        rw [hG, rd_go hm hiN (Or.inl (by omega)) (by omega)]
        exact s2 f
      have hne : ¬ nI (chT T N j) = nI 0 := fun e => hch0 ((peq (by omega) (by omega)).mp e)
      have hcls : ∀ (r : Option Nat) (S9 : zzS) (M9 : zzM), gS S S9 → (zzcallA S (FD_Rd_statement (n + 11) S Mc1 23 (nI 0)) fun r3 S M => zzopt S 13 r3 (some (none, S, M)) (fun b4 => zzck (zzhas S S0.2.1 12) (zzcall (F_Bl_append S M S0.2.1 (some b4)) fun r5 M => zzlet (nI L.length + (1 : Int32)) fun x6 => zzck (zzhas S 23 17) (cB11 (n + 11) n3 S M 23 (nI 0) (nI 0) S0.2.1 x6)))) = some (r, S9, M9) → cB11 (n + 11) (n3 + 1) S Mc 23 (nI 0) (nI 0) S0.2.1 (nI L.length) = some (r, S9, M9) := fun r S9 M9 g9 h9 => by
        rw [b11_step]
        simp only [F_Rd_block_11_b, if_neg hn100, hskf, pcall, hpk, if_neg hne]
        exact h9
      have hbd : ∀ f, bdy f Mm1 = zzcall (F_Md_readStatement lwSm Mm1 28) (fun _ M => rd f M) := fun f => by
        unfold bdy
        rw [hend, pcall, if_pos rfl, plet, plet, s6.2.1, s6.1.2.2.2.1, if_neg (nI_ge hjlt (by omega))]
      -- going on behind a statement read
      have hgoon : ∀ S1 Mc2 Mm2 i2 m2 q2 t2 k2, FD_Rd_statement (n + 11) S Mc1 23 (nI 0) = some (some S.2.1, S1, Mc2) → gS S S1 → fcZ fu S.2.1 Mc1 Mc2 → cQ S1 Mc2 T N i2 t2 fu → zzR Mc2 S.2.1 8 = none → (∀ f, zzcall (F_Md_readStatement lwSm Mm1 28) (fun _ M => rd (f + k2) M) = rd f Mm2) → mQ Mm2 T N w i2 m2 q2 t2 0 → frZ w Mm1 Mm2 → agM w q 0 m Mm1 Mm2 → qS (qB S1 Mc2 Mm2 w T N q2 2) (2 = 2) S1 Mc2 Mm2 w T N q2 S1.2.1 S.2.1 m m2 → j < i2 → m2 ≤ m + (i2 - j) → q ≤ q2 → q2 ≤ q + (i2 - j) → tl < t2 → grw S S1 tl t2 j i2 0 → k2 + 1 ≤ i2 - j → fnQ S1 (apM Mc2 S0.2.1 S.2.1 L.getLast?) Mm2 T N w q2 m2 fu (L ++ [S.2.1]) → 
          (tO T N w fu S0 Mc0 Mm0 (cB11 (n + 11) (n3 + 1) S Mc 23 (nI 0) (nI 0) S0.2.1 (nI L.length)) (fun f => rd f Mm0) ∨ rF S0 N w 0 0 fu 1 Mc0 Mm0 (cB11 (n + 11) (n3 + 1) S Mc 23 (nI 0) (nI 0) S0.2.1 (nI L.length)) (fun f => rd f Mm0)) ∧ ∀ r S9 M9, cB11 (n + 11) (n3 + 1) S Mc 23 (nI 0) (nI 0) S0.2.1 (nI L.length) = some (r, S9, M9) → gS S S9 := by
        intro S1 Mc2 Mm2 i2 m2 q2 t2 k2 a1 a2 a3 a4 a5 a6 a7 a8 a9 a10 a11 a12 a13 a14 a15 a16 a17 a18
        have hs1 : S.2.1 < S1.2.1 := a10.1
        have hsk : zzk S1 S.2.1 = 13 := by
          obtain ⟨p, kp, -⟩ := a10.2.2.2
          exact kp.2.2.1
        obtain ⟨p1, p2, p3⟩ := hI1.app a2 (fun a k g1 g2 => ⟨a3.1 a k g2 (by have := hI1.1; omega) (by have := hI1.1; omega), a3.2.1 a k g2 (by omega)⟩) a9 a13 a5 a10 hsk
        have hb2 : S0.2.1 < S1.2.1 ∧ zzk S1 S0.2.1 = 12 := ⟨p2.2.1, p2.2.2.1⟩
        have hcq : cQ S1 (apM Mc2 S0.2.1 S.2.1 L.getLast?) T N i2 t2 fu := by
          obtain ⟨⟨r1, r2, r3, r4, r5, r6⟩, c2, c3, c4, c5, c6, c7, c8⟩ := a4
          have h63 := hI1.1
          exact ⟨⟨r1, p3.R h63 r2, (p3.2.1 23 0 (by omega)).trans r3, apM_I.trans r4, r5, fun x hx => ⟨apM_I.trans (r6 x hx).1, (r6 x hx).2⟩⟩, apM_I.trans c2, c3, apM_I.trans c4, apM_I.trans c5, c6, (p3.2.1 23 5 (by omega)).trans c7, c8⟩
        have hi2N := a4.2.2.1
        have hih := ih n3 S1 (apM Mc2 S0.2.1 S.2.1 L.getLast?) Mm2 i2 m2 q2 t2 (k2 + 1 + k) (L ++ [S.2.1]) (by omega) (by omega) (hg.tr a2) ((hfc1.tr a3 hg.1).tr p3.Z (Nat.le_refl _)) (hfm1.tr a8) hcq a7 p2 a18 (fun l hl => by
          rcases List.mem_append.mp hl with hl | hl
          · have := hLl l hl; omega
          · simp at hl; omega) (fun f => by
          rw [show f + (k2 + 1 + k) = f + k2 + 1 + k by omega, hgo, hbd]
          exact a6 f) (by omega) (by omega) (by omega) (by simp; omega) ⟨by have := a16.1; have := hgr.1; omega, by have := a16.2; have := hgr.2; omega⟩
        have hlen : nI (L ++ [S.2.1]).length = nI (L.length + 1) := by simp
        have hK : ∀ (r : Option Nat) (S9 : zzS) (M9 : zzM), gS S1 S9 → cB11 (n + 11) n3 S1 (apM Mc2 S0.2.1 S.2.1 L.getLast?) 23 (nI 0) (nI 0) S0.2.1 (nI (L ++ [S.2.1]).length) = some (r, S9, M9) → cB11 (n + 11) (n3 + 1) S Mc 23 (nI 0) (nI 0) S0.2.1 (nI L.length) = some (r, S9, M9) := fun r S9 M9 g9 h9 => by
          refine hcls r S9 M9 (a2.tr g9) (pcallA a1 a2 ?_ g9)
          rw [poptp hs1 hsk, phas hb2.1 hb2.2, pck, p1, pcall, plet, phas (cl_23 a4.1.1) (ck_23 a4.1.1), pck, ← nI_succ, ← hlen]
          exact h9
        obtain ⟨hih, hgg⟩ := hih
        rcases hih with ⟨S3, Mc3, Mm3, m3, q3, t3, k3, L3, b1, b2, b3⟩ | ⟨p, S3, Mc3, Mm3, k3, t3, y3, b1, b2, b3⟩
        · have hge := hgg _ _ _ b1
          have hx := hK _ _ _ hge b1
          refine ⟨Or.inl ⟨S3, Mc3, Mm3, m3, q3, t3, k3, L3, hx, b2, b3⟩, fun r S9 M9 h9 => ?_⟩
          rw [hx] at h9
          cases h9
          exact a2.tr hge
        · have hge := hgg _ _ _ b1
          have hx := hK _ _ _ hge b1
          refine ⟨Or.inr ⟨p, S3, Mc3, Mm3, k3, t3, y3, hx, b2, b3⟩, fun r S9 M9 h9 => ?_⟩
          rw [hx] at h9
          cases h9
          exact a2.tr hge
      have hfail : rF S N w j tl fu 0 Mc1 Mm1 (FD_Rd_statement (n + 11) S Mc1 23 (nI 0)) (fun f => zzcall (F_Md_readStatement lwSm Mm1 28) (fun _ M => rd f M)) → 
          (tO T N w fu S0 Mc0 Mm0 (cB11 (n + 11) (n3 + 1) S Mc 23 (nI 0) (nI 0) S0.2.1 (nI L.length)) (fun f => rd f Mm0) ∨ rF S0 N w 0 0 fu 1 Mc0 Mm0 (cB11 (n + 11) (n3 + 1) S Mc 23 (nI 0) (nI 0) S0.2.1 (nI L.length)) (fun f => rd f Mm0)) ∧ ∀ r S9 M9, cB11 (n + 11) (n3 + 1) S Mc 23 (nI 0) (nI 0) S0.2.1 (nI L.length) = some (r, S9, M9) → gS S S9 := by
        intro H
        have hcx : ∀ S9 Mc9, gS S S9 → FD_Rd_statement (n + 11) S Mc1 23 (nI 0) = some (none, S9, Mc9) → cB11 (n + 11) (n3 + 1) S Mc 23 (nI 0) (nI 0) S0.2.1 (nI L.length) = some (none, S9, Mc9) := fun S9 Mc9 g9 z9 => hcls none S9 Mc9 g9 (pcallA z9 g9 (by rw [poptn]) (gS.rf _))
        refine ⟨Or.inr (H.up0 (S := S0) (k0 := 1 + k) (tl := 0) hg hfc1 hfm1 hcx (fun f => ?_) (by omega) (by omega) (by have := hgr.1; omega) (by have := hgr.2; omega) (by omega)), fun r S9 M9 h9 => ?_⟩
        · show rd (f + (1 + k)) Mm0 = _
          rw [show f + (1 + k) = f + 1 + k by omega, hgo, hbd]
        · obtain ⟨p, S1, Mc2, Mm2, kk, t2, yy, z1, z2, -⟩ := H
          rw [hcx S1 Mc2 z2 z1] at h9
          cases h9
          exact z2
      have hlast : ∀ l, L.getLast? = some l → l < S.2.1 := fun l hl => hLl l (List.mem_of_getLast? hl)
      have hlb : ∀ l, L.getLast? = some l → S0.2.1 < l := fun l hl => by
        have := (qC.mem (fun h s i j H => qS.lt H) hI1.2.2.2.2.2 l hl).1
        omega
      by_cases h58 : chT T N j = 58 ∧ tl < 100
      · rcases r_fun (n := n + 8) (L := L) r_blk1 s5 s6 h58.2 (by omega) (by omega) h58.1 hF1 with ⟨S1, Mc2, Mm2, i2, m2, q2, t2, k2, f, a1, a2, a3, a4, a5, a6, a7, a8, a9, a10, a11, a12, a13, a14, a15, a16, a17, hf, hfo, h38, hfs, b, j2, c1, c2, c3, c4, c5⟩ | H
        · refine hgoon S1 Mc2 Mm2 i2 m2 q2 t2 k2 a1 a2 a3 a4 a5 a6 a7 a8 a9 a10 a11 a12 a13 a14 a15 a16 a17 (fun g hg26 => ?_)
          have hs1 : S.2.1 < S1.2.1 := a10.1
          have hsk : zzk S1 S.2.1 = 13 := by
            obtain ⟨p, kp, -⟩ := a10.2.2.2
            exact kp.2.2.1
          have hne2 : ∀ a k, S.2.1 ≤ a → zzR (apM Mc2 S0.2.1 S.2.1 L.getLast?) a k = zzR Mc2 a k := fun a k ha => apM_R (by have := hI1.2.1; omega) (fun hh => by have := hlast a hh.1; omega)
          have hfue : ∀ k, zzR (apM Mc2 S0.2.1 S.2.1 L.getLast?) fu k = zzR Mc2 fu k := fun k => apM_R (by omega) (fun hh => by have := hlb fu hh.1; omega)
          by_cases hgf : g = f
          · subst hgf
            refine Or.inr ⟨S1.2.1, S.2.1, m + 1, j2, b, (hfue g).trans hfs, by omega, hs1, Nat.le_refl _, hsk, hfuS, (hne2 _ _ (Nat.le_refl _)).trans c1, c2, by omega, ?_, c4, c5, fun l hl => ?_⟩
            · exact qB.go (Nat.le_refl _) ⟨Nat.le_refl _, fun a g1 _ => ⟨rfl, fun k => apM_I, fun k => hne2 a k (by omega)⟩⟩ (agM.rf _ _ _ _ _) c3
            · rcases List.mem_append.mp hl with hl | hl
              · have := hLl l hl; omega
              · simp at hl; omega
          · refine fnQ.go hF1 a2 hfuS (fun s h1 h2 => by have := hblo s h1 h2; omega) (by omega) hI1.2.1 (fun a k g1 g2 => apM_I.trans (a3.1 a k g2 (by omega) (by omega))) (fun a k g1 g2 g3 g4 g5 => (apM_R g4 g5).trans (a3.2.1 a k g2 g3)) a9 a13 (by have := (qS.lt a10).1; omega) hblo g hg26 ((hfue g).trans (hfo g hgf)) (h38 g hg26 hgf)
        · exact hfail H
      · by_cases h58b : chT T N j = 58
        · exact hfail (r_bad (n := n + 9) (d := 0) s5 s6 (Or.inl (by omega)))
        · rcases r_stmt (n := n + 8) (d := 0) (fun _ => r_blk1) s5 s6 (by omega) (by omega) (by omega) (Or.inl h58b) with ⟨S1, Mc2, Mm2, i2, m2, q2, t2, k2, a1, a2, a3, a4, a5, a6, a7, a8, a9, a10, a11, a12, a13, a14, a15, a16⟩ | H
          · refine hgoon S1 Mc2 Mm2 i2 m2 q2 t2 k2 a1 a2 a3.Z a4 a5 a6 a7 a8.Z a8.ag a9 a10 a11 a12 a13 a14 a15 a16 (fun g hg26 => ?_)
            have hfue : ∀ k, zzR (apM Mc2 S0.2.1 S.2.1 L.getLast?) fu k = zzR Mc2 fu k := fun k => apM_R (by omega) (fun hh => by have := hlb fu hh.1; omega)
            exact fnQ.go hF1 a2 hfuS (fun s h1 h2 => by have := hblo s h1 h2; omega) (by omega) hI1.2.1 (fun a k g1 g2 => apM_I.trans (a3.1 a k g2 (by omega) (by omega))) (fun a k g1 g2 g3 g4 g5 => (apM_R g4 g5).trans (a3.2.1 a k g2)) a8.ag a12 (by have := (qS.lt a9).1; omega) hblo g hg26 ((hfue g).trans (a3.2.1 fu g hfuS)) (a8.2.2.2.1 38 _ (by omega) (by omega) (by omega))
          · exact hfail H
    · have hj : j = N := by omega
      subst hj
      have h0 : chT T j j = 0 := if_neg (by omega)
      have hx : cB11 (n + 11) (n3 + 1) S Mc 23 (nI 0) (nI 0) S0.2.1 (nI L.length) = some (some S0.2.1, S, Mc1) := by
        rw [b11_step]
        simp only [F_Rd_block_11_b, if_neg hn100, hskf, pcall, hpk, h0, if_true]
      refine ⟨Or.inl ?_, fun r S9 M9 h9 => ?_⟩
      · by_cases hij : i = j
        · subst hij
          refine ⟨S, Mc1, Mm, m, q, tl, k, L, hx, hg, hfc1, s5, fun f => ?_, hm, hfm, hI.mo (fun a k g1 g2 => ⟨hcs a k (by have := hI.1; omega) g2, hcR a k g2⟩) (agM.rf _ _ _ _ _), hF.mo (b0 := S0.2.1) hfuS (by omega) hI.2.1 hblo hcs hcR (agM.rf _ _ _ _ _) (fun _ => rfl), hmi, hqi, hgr, by omega⟩
          show rd (f + k + 1) Mm0 = _
          rw [show f + k + 1 = f + 1 + k by omega, hG]
          exact rd_end hm
        · refine ⟨S, Mc1, Mm1, m, q, tl, k + 1, L, hx, hg, hfc1, s5, fun f => ?_, s6, hfm1, hI1, hF1, by omega, by omega, ⟨hgr.1, by have := hgr.2; omega⟩, by omega⟩
          show rd (f + (k + 1) + 1) Mm0 = _
          rw [show f + (k + 1) + 1 = f + 1 + 1 + k by omega, hG, rd_go hm hiN (Or.inl (by omega)) (by omega)]
          rw [s2]
          unfold bdy
          rw [hend, pcall, if_pos rfl, plet, plet, s6.2.1, s6.1.2.2.2.1, if_pos (nI_le (Nat.le_refl j) (by omega)), plet, s6.2.2.2.2.2.2, if_pos (by decide)]
          exact rd_end s6
      · rw [hx] at h9
        cases h9
        exact gS.rf _
