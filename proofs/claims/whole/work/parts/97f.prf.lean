/-! statements without blocks -/
theorem P_E {S : zzS} {Mc Mm : zzM} {T : Nat → Nat} {N w i m q tl d fu s n : Nat} {dd : Int32} (hs : s < S.2.1) (hk : zzk S s = 13) (h63 : 63 ≤ s) (hc : cQ S Mc T N i tl fu) (hm : mQ Mm T N w i m q tl d) (hq : q < i) :
    (∃ S1 Mc1 Mm1 i2 q2, FD_Rd_part (n + 1) S Mc 23 (some s) 69 dd = some (1, S1, Mc1) ∧ F_Md_readCodes lwSm Mm 28 1 = some (nI q, Mm1) ∧ gS S S1 ∧ pfr s 5 S.2.1 Mc Mc1 ∧ cQ S1 Mc1 T N i2 tl fu ∧ mQ Mm1 T N w i2 m q2 tl d ∧ frX w q Mm Mm1 ∧ exQ S1 Mc1 Mm1 w q2 S.2.1 S1.2.1 (zzR Mc1 s 5) (nI q) ∧ i < i2 ∧ q < q2 ∧ q2 ≤ q + (i2 - i) + 1 ∧ S1.2.1 = S.2.1 + 1 ∧ S1.2.2 ≤ S.2.2 + (i2 - i))
    ∨ (∃ p Mc1 Mm1, FD_Rd_part (n + 1) S Mc 23 (some s) 69 dd = some (0, S, Mc1) ∧ F_Md_readCodes lwSm Mm 28 1 = some (nI q, Mm1) ∧ pfr s 5 S.2.1 Mc Mc1 ∧ zzI Mc1 23 2 = nI p ∧ p ≤ N ∧ zzI Mm1 28 17 = nI p ∧ frX w q Mm Mm1 ∧ ∃ j, j < 1000 ∧ zzI Mm1 28 16 = nI j) := by
  have hrc := hc.1
  have hS := hrc.1
  have hS63 := hS.2.2.2
  have hN := hrc.2.2.2.2.1
  rcases rd_E hrc hc.2.1 hc.2.2.1 hm hq with ⟨i2, E, Mc1, Mm1, a1, a2, a3, a4, a5, a6, a7, a8, a9, a10, a11, a12, a13, a14⟩ | ⟨p, Mc1, Mm1, a1, a2, a3, a4, a5, a6, a7, a8⟩
  · left
    have hi2 := a5.2.2.1
    have hEl : E.length < 400 := by have := a5.2.2.2.2; omega
    obtain ⟨b1, b2, b3⟩ := mkA_f (k := 5) hS hs a5.2.2.2.1 hEl a11
    have g := gS_new S 1 E.length E.length
    have hp : pfr s 5 S.2.1 Mc (mkA S Mc1 s 5 E.length) := (a3.N S.2.1).p.tr b1 (Nat.le_refl _)
    refine ⟨_, _, Mm1, i2, q + E.length + 1, p_E hS a5.1.2.1 hs hk a5.2.2.2.1 hEl a1, a2, g, hp, ?_, ?_, a4, ?_, a12, by omega, by omega, rfl, by show S.2.2 + E.length ≤ _; omega⟩
    · have hne : ∀ j, zzI (mkA S Mc1 s 5 E.length) 23 j = zzI Mc1 23 j := fun j => by
        show zzI (zzcpI (zzclr Mc1 S.2.1) 26 0 S.2.1 0 E.length) 23 j = _
        simp only [zzI, zzcpI, zzclr]
        rw [if_neg (show ¬ 23 = S.2.1 by omega), if_neg (show ¬ 23 = S.2.1 by omega)]
      obtain ⟨c1, c2, c3, c4, c5, c6, c7, c8, c9, c10, c11⟩ := hc
      refine ⟨?_, (hne 2).trans a5.2.1, hi2, ?_, (hne 4).trans ((a3.1 23 4 (by omega) (by omega)).trans c5), c6, by rw [hp.2.1 23 5 (by omega) (by omega)]; exact c7, c8, (g.k c9 c10).1, (g.k c9 c10).2, by unfold zzn; rw [g.2.2 fu c9]; exact c11⟩
      · obtain ⟨r1, r2, r3, r4, r5, r6⟩ := c1
        refine ⟨g.cl r1, fun y hy => ?_, by rw [hp.2.1 23 0 (by omega) (by omega)]; exact r3, by rw [hp.1 23 1 (by omega) (by omega) (by omega)]; exact r4, r5, fun j hj => ⟨by rw [hp.1 1 j (by omega) (by omega) (by omega)]; exact (r6 j hj).1, (r6 j hj).2⟩⟩
        have hs2 : ∀ y ∈ lwrc, y.1 < 63 := by decide
        have := hs2 y hy
        rw [hp.2.1 y.1 y.2.1 (by omega) (by omega)]
        exact r2 y hy
      · rw [hne 3, a3.1 23 3 (by omega) (by omega), c4, ln_nn (fun i hi => (c1.2.2.2.2.2 i hi).2) (by omega) hi2 a14]
    · obtain ⟨m1, m2, m3, m4, m5, m6, m7⟩ := hm
      exact ⟨m1.go a4, a6, a7, (a4.1 28 18 (by omega) (by omega) (by omega)).trans m4, a8, (a4.1 28 20 (by omega) (by omega) (by omega)).trans m6, (a4.1 28 21 (by omega) (by omega) (by omega)).trans m7⟩
    · exact ⟨S.2.1, q, E, b3, rfl, Nat.le_refl _, by show S.2.1 < S.2.1 + 1; omega, by omega, by omega, by omega, b2, a9, a10⟩
  · right
    refine ⟨p, _, Mm1, p_En hs hk a1, a2, (a3.N S.2.1).p.tr pfr_w (Nat.le_refl _), a5, a6, a7, a4, a8⟩

theorem P_A {S : zzS} {Mc Mm : zzM} {T : Nat → Nat} {N w i m q tl d fu s n : Nat} {dd : Int32} (hs : s < S.2.1) (hk : zzk S s = 13) (h63 : 63 ≤ s) (hc : cQ S Mc T N i tl fu) (hm : mQ Mm T N w i m q tl d) (hq : q < i) :
    (∃ S1 Mc1 Mm1 i2 q2, FD_Rd_part (n + 1) S Mc 23 (some s) 65 dd = some (1, S1, Mc1) ∧ F_Md_readCodes lwSm Mm 28 0 = some (nI q, Mm1) ∧ gS S S1 ∧ pfr s 4 S.2.1 Mc Mc1 ∧ cQ S1 Mc1 T N i2 tl fu ∧ mQ Mm1 T N w i2 m q2 tl d ∧ frX w q Mm Mm1 ∧ exQ S1 Mc1 Mm1 w q2 S.2.1 S1.2.1 (zzR Mc1 s 4) (nI q) ∧ i < i2 ∧ q < q2 ∧ q2 ≤ q + (i2 - i) + 1 ∧ S1.2.1 = S.2.1 + 1 ∧ S1.2.2 ≤ S.2.2 + (i2 - i))
    ∨ (∃ p Mc1 Mm1, FD_Rd_part (n + 1) S Mc 23 (some s) 65 dd = some (0, S, Mc1) ∧ F_Md_readCodes lwSm Mm 28 0 = some (nI q, Mm1) ∧ pfr s 4 S.2.1 Mc Mc1 ∧ zzI Mc1 23 2 = nI p ∧ p ≤ N ∧ zzI Mm1 28 17 = nI p ∧ frX w q Mm Mm1 ∧ ∃ j, j < 1000 ∧ zzI Mm1 28 16 = nI j) := by
  have hrc := hc.1
  have hS := hrc.1
  have hS63 := hS.2.2.2
  have hN := hrc.2.2.2.2.1
  rcases rd_A hrc hc.2.1 hc.2.2.1 hm hq with ⟨i2, E, Mc1, Mm1, a1, a2, a3, a4, a5, a6, a7, a8, a9, a10, a11, a12, a13, a14⟩ | ⟨p, Mc1, Mm1, a1, a2, a3, a4, a5, a6, a7, a8⟩
  · left
    have hi2 := a5.2.2.1
    have hEl : E.length < 400 := by have := a5.2.2.2.2; omega
    obtain ⟨b1, b2, b3⟩ := mkA_f (k := 4) hS hs a5.2.2.2.1 hEl a11
    have g := gS_new S 1 E.length E.length
    have hp : pfr s 4 S.2.1 Mc (mkA S Mc1 s 4 E.length) := (a3.N S.2.1).p.tr b1 (Nat.le_refl _)
    refine ⟨_, _, Mm1, i2, q + E.length + 1, p_A hS a5.1.2.1 hs hk a5.2.2.2.1 hEl a1, a2, g, hp, ?_, ?_, a4, ?_, a12, by omega, by omega, rfl, by show S.2.2 + E.length ≤ _; omega⟩
    · have hne : ∀ j, zzI (mkA S Mc1 s 4 E.length) 23 j = zzI Mc1 23 j := fun j => by
        show zzI (zzcpI (zzclr Mc1 S.2.1) 26 0 S.2.1 0 E.length) 23 j = _
        simp only [zzI, zzcpI, zzclr]
        rw [if_neg (show ¬ 23 = S.2.1 by omega), if_neg (show ¬ 23 = S.2.1 by omega)]
      obtain ⟨c1, c2, c3, c4, c5, c6, c7, c8, c9, c10, c11⟩ := hc
      refine ⟨?_, (hne 2).trans a5.2.1, hi2, ?_, (hne 4).trans ((a3.1 23 4 (by omega) (by omega)).trans c5), c6, by rw [hp.2.1 23 5 (by omega) (by omega)]; exact c7, c8, (g.k c9 c10).1, (g.k c9 c10).2, by unfold zzn; rw [g.2.2 fu c9]; exact c11⟩
      · obtain ⟨r1, r2, r3, r4, r5, r6⟩ := c1
        refine ⟨g.cl r1, fun y hy => ?_, by rw [hp.2.1 23 0 (by omega) (by omega)]; exact r3, by rw [hp.1 23 1 (by omega) (by omega) (by omega)]; exact r4, r5, fun j hj => ⟨by rw [hp.1 1 j (by omega) (by omega) (by omega)]; exact (r6 j hj).1, (r6 j hj).2⟩⟩
        have hs2 : ∀ y ∈ lwrc, y.1 < 63 := by decide
        have := hs2 y hy
        rw [hp.2.1 y.1 y.2.1 (by omega) (by omega)]
        exact r2 y hy
      · rw [hne 3, a3.1 23 3 (by omega) (by omega), c4, ln_nn (fun i hi => (c1.2.2.2.2.2 i hi).2) (by omega) hi2 a14]
    · obtain ⟨m1, m2, m3, m4, m5, m6, m7⟩ := hm
      exact ⟨m1.go a4, a6, a7, (a4.1 28 18 (by omega) (by omega) (by omega)).trans m4, a8, (a4.1 28 20 (by omega) (by omega) (by omega)).trans m6, (a4.1 28 21 (by omega) (by omega) (by omega)).trans m7⟩
    · exact ⟨S.2.1, q, E, b3, rfl, Nat.le_refl _, by show S.2.1 < S.2.1 + 1; omega, by omega, by omega, by omega, b2, a9, a10⟩
  · right
    refine ⟨p, _, Mm1, p_An hs hk a1, a2, (a3.N S.2.1).p.tr pfr_w (Nat.le_refl _), a5, a6, a7, a4, a8⟩

/-- the reference's statement, begun -/
theorem m_rs {Mm : zzM} {T : Nat → Nat} {N w i m q tl d : Nat} (hm : mQ Mm T N w i m q tl d) (hi : i < 1000) (ht : tl < 100) : F_Md_readStatement lwSm Mm 28 = (zzcall (F_Md_isVariable lwSm (zzsI Mm 28 20 (nI (tl + 1))) (chM T N i)) fun r6 M => if r6 = 0 then (if chM T N i = (64 : Int32) then (zzcall (F_Md_readSet lwSm M 28 (nI i)) fun r8 M => some ((), M)) else (if chM T N i = (39 : Int32) then (zzcall (F_Md_readSet lwSm M 28 (nI i)) fun r32 M => some ((), M)) else (zzcall (F_Md_simpleOf lwSm M (chM T N i)) fun r9 M => if r9 = 0 then (if chM T N i = (63 : Int32) then (zzcall (F_Md_readBlockWith lwSm M 28 (5 : Int32) (1 : Int32) (nI i)) fun r29 M => some ((), M)) else (if chM T N i = (42 : Int32) then (zzcall (F_Md_readBlockWith lwSm M 28 (6 : Int32) (3 : Int32) (nI i)) fun r28 M => some ((), M)) else (if chM T N i = (91 : Int32) then (zzcall (F_Md_order lwSm M 28 (7 : Int32) (nI i)) fun r26 M => zzcall (F_Md_open lwSm M 28 (4 : Int32) (91 : Int32) r26) fun r27 M => some ((), M)) else (if chM T N i = (126 : Int32) then (zzcall (F_Md_order lwSm M 28 (9 : Int32) (nI i)) fun r22 M => zzlet (zzI M 28 16) fun x23 => zzlet (x23 + (1 : Int32)) fun x24 => zzlet (zzsI M 28 16 x24) fun M => zzcall (F_Md_open lwSm M 28 (5 : Int32) (123 : Int32) r22) fun r25 M => some ((), M)) else (if chM T N i = (58 : Int32) then (zzcall (F_Md_readFunction lwSm M 28 (nI i)) fun r21 M => some ((), M)) else (zzcall (F_Md_isFunction lwSm M (chM T N i)) fun r10 M => if r10 = 0 then (zzlet (zzI M 28 16) fun x11 => zzlet (zzsI M 28 17 x11) fun M => some ((), M)) else (zzcall (F_Md_order lwSm M 28 (18 : Int32) (nI i)) fun r12 M => zzref lwSm 1 (zzR M 28 8) fun b13 => zzlet (zzI M 28 15) fun x14 => zzlet ((600 : Int32) * x14) fun x15 => zzlet (x15 + r12) fun x16 => zzlet (chM T N i - (65 : Int32)) fun x17 => zzix lwSm b13 x16 (zzlet (zzsI M b13 (x16).toNatClampNeg x17) fun M => zzlet (zzI M 28 16) fun x18 => zzlet (x18 + (1 : Int32)) fun x19 => zzlet (zzsI M 28 16 x19) fun M => zzcall (F_Md_expect lwSm M 28 (59 : Int32)) fun r20 M => some ((), M))))))))) else (zzcall (F_Md_simpleOf lwSm M (chM T N i)) fun r30 M => zzcall (F_Md_readSimple lwSm M 28 r30 (nI i)) fun r31 M => some ((), M))))) else (zzcall (F_Md_readSet lwSm M 28 (nI i)) fun r7 M => some ((), M))) := by
  have hne : ¬ nI tl = 100 := fun e => by
    have := (peq (a := tl) (b := 100) (by omega) (by omega)).mp e
    omega
  unfold F_Md_readStatement
  rw [hm.2.1, plet, m_peek hm.1 hm.2.1 hi, pcall, plet, hm.2.2.2.2.2.1, if_neg hne, plet, plet, plet, ← nI_succ]
theorem m_rs_f {Mm : zzM} {T : Nat → Nat} {N w i m q d : Nat} (hm : mQ Mm T N w i m q 100 d) (hi : i < 1000) : F_Md_readStatement lwSm Mm 28 = some ((), zzsI Mm 28 17 (nI i)) := by
  unfold F_Md_readStatement
  rw [hm.2.1, plet, m_peek hm.1 hm.2.1 hi, pcall, plet, hm.2.2.2.2.2.1, if_pos (show nI 100 = (100 : Int32) from rfl), plet, hm.2.1, plet]
/-- a failure at once, or behind the work G -/
theorem rF_w {S S1 : zzS} {N w i tl fu c t2 y p : Nat} {Mc Mm Mc1 Mm1 : zzM} {x : Option (Option Nat × zzS × zzM)} {G : Nat → Option (Int32 × zzM)} (hx : x = some (none, S1, Mc1)) (g : gS S S1) (hf : fcZ fu S.2.1 Mc Mc1) (hp : zzI Mc1 23 2 = nI p) (hpN : p ≤ N) (hG : ∀ f, G f = rd f Mm1) (hw : zzI Mm1 28 17 = nI p) (hpl : p < 100000) (hz : frZ w Mm Mm1) (h1 : tl ≤ t2) (h2 : t2 ≤ 100) (h3 : i ≤ y) (h4 : y ≤ N) (h5 : grw S S1 tl t2 i y c) : rF S N w i tl fu c Mc Mm x G := ⟨p, S1, Mc1, Mm1, 0, t2, y, hx, g, hf, hp, hpN, fun f => by rw [hG, rd_w (by rw [hw]; exact nI_m1 hpl)], hw, hz, h1, h2, h3, h4, h5, by omega⟩
theorem m_simpleOf {M : zzM} {T : Nat → Nat} {N i x : Nat} (hok : ∀ i, i < N → okc (T i)) (h : chT T N i = x) : F_Md_simpleOf lwSm M (chM T N i) = some (if x = 33 then 4 else if x = 38 then 14 else if x = 43 then 13 else if x = 60 then 16 else if x = 94 then 12 else if x = 124 then 15 else 0, M) := by
  subst h
  have e : ∀ v, v < 1000 → v ≠ 0 → (chM T N i = nI v ↔ chT T N i = v) := fun v h1 h2 => chM_eq hok h1 h2
  unfold F_Md_simpleOf
  by_cases h33 : chT T N i = 33
  · rw [if_pos (show chM T N i = (33 : Int32) from (e 33 (by omega) (by omega)).mpr h33), if_pos h33]
  · rw [if_neg (show ¬ chM T N i = (33 : Int32) from fun h => h33 ((e 33 (by omega) (by omega)).mp h)), if_neg h33]
    by_cases h38 : chT T N i = 38
    · rw [if_pos (show chM T N i = (38 : Int32) from (e 38 (by omega) (by omega)).mpr h38), if_pos h38]
    · rw [if_neg (show ¬ chM T N i = (38 : Int32) from fun h => h38 ((e 38 (by omega) (by omega)).mp h)), if_neg h38]
      by_cases h43 : chT T N i = 43
      · rw [if_pos (show chM T N i = (43 : Int32) from (e 43 (by omega) (by omega)).mpr h43), if_pos h43]
      · rw [if_neg (show ¬ chM T N i = (43 : Int32) from fun h => h43 ((e 43 (by omega) (by omega)).mp h)), if_neg h43]
        by_cases h60 : chT T N i = 60
        · rw [if_pos (show chM T N i = (60 : Int32) from (e 60 (by omega) (by omega)).mpr h60), if_pos h60]
        · rw [if_neg (show ¬ chM T N i = (60 : Int32) from fun h => h60 ((e 60 (by omega) (by omega)).mp h)), if_neg h60]
          by_cases h94 : chT T N i = 94
          · rw [if_pos (show chM T N i = (94 : Int32) from (e 94 (by omega) (by omega)).mpr h94), if_pos h94]
          · rw [if_neg (show ¬ chM T N i = (94 : Int32) from fun h => h94 ((e 94 (by omega) (by omega)).mp h)), if_neg h94]
            by_cases h124 : chT T N i = 124
            · rw [if_pos (show chM T N i = (124 : Int32) from (e 124 (by omega) (by omega)).mpr h124), if_pos h124]
            · rw [if_neg (show ¬ chM T N i = (124 : Int32) from fun h => h124 ((e 124 (by omega) (by omega)).mp h)), if_neg h124]
/-- a simple statement's letter and order -/
def smN (x : Nat) (o : Int32) : Prop := (x = 33 ∧ o = 4) ∨ (x = 94 ∧ o = 12) ∨ (x = 43 ∧ o = 13) ∨ (x = 38 ∧ o = 14) ∨ (x = 124 ∧ o = 15) ∨ (x = 60 ∧ o = 16)
theorem r_simple {S : zzS} {Mc Mm : zzM} {T : Nat → Nat} {N w i m q tl d fu n : Nat} {kd : Int32} (hc : cQ S Mc T N i tl fu) (hm : mQ Mm T N w i m q tl d) (ht : tl < 100) (hmi : m ≤ i) (hqi : q ≤ i) (hx : smN (chT T N i) kd) : sO S T N w i m q tl d fu Mc Mm (FD_Rd_statement (n + 2) S Mc 23 (nI d)) (fun f => zzcall (F_Md_readStatement lwSm Mm 28) (fun _ M => rd f M)) ∨ rF S N w i tl fu 0 Mc Mm (FD_Rd_statement (n + 2) S Mc 23 (nI d)) (fun f => zzcall (F_Md_readStatement lwSm Mm 28) (fun _ M => rd f M)) := by
  have hN := hc.1.2.2.2.2.1
  have hiN := hc.2.2.1
  have hok := hm.1.ok
  have hw := hm.1.2.2.1
  have hS := hc.1.1
  have hS63 := hS.2.2.2
  have hsh : shN (chT T N i) = 4 := by rcases hx with ⟨h, _⟩ | ⟨h, _⟩ | ⟨h, _⟩ | ⟨h, _⟩ | ⟨h, _⟩ | ⟨h, _⟩ <;> rw [h] <;> decide
  have hkd : kdN (chT T N i) = nI (chT T N i) := by rcases hx with ⟨h, _⟩ | ⟨h, _⟩ | ⟨h, _⟩ | ⟨h, _⟩ | ⟨h, _⟩ | ⟨h, _⟩ <;> rw [h] <;> decide
  have hx0 : chT T N i ≠ 0 ∧ chT T N i ≠ 10 ∧ ¬ isV (chT T N i) ∧ chT T N i ≠ 64 ∧ chT T N i ≠ 39 := by unfold isV; rcases hx with ⟨h, _⟩ | ⟨h, _⟩ | ⟨h, _⟩ | ⟨h, _⟩ | ⟨h, _⟩ | ⟨h, _⟩ <;> omega
  obtain ⟨x0, x10, xv, x64, x39⟩ := hx0
  have hlt := (chT_lt x0).1
  have hso : F_Md_simpleOf lwSm (zzsI Mm 28 20 (nI (tl + 1))) (chM T N i) = some (kd, zzsI Mm 28 20 (nI (tl + 1))) := by
    rw [m_simpleOf hok rfl]
    rcases hx with ⟨h, h'⟩ | ⟨h, h'⟩ | ⟨h, h'⟩ | ⟨h, h'⟩ | ⟨h, h'⟩ | ⟨h, h'⟩ <;> rw [h, h'] <;> rfl
  have hk0 : ¬ kd = 0 := by rcases hx with ⟨_, h⟩ | ⟨_, h⟩ | ⟨_, h⟩ | ⟨_, h⟩ | ⟨_, h⟩ | ⟨_, h⟩ <;> rw [h] <;> decide
  have hrs : F_Md_readStatement lwSm Mm 28 = zzcall (F_Md_readSimple lwSm (zzsI Mm 28 20 (nI (tl + 1))) 28 kd (nI i)) fun r31 M => some ((), M) := by
    rw [m_rs hm (by omega) ht, m_isVar_n hok _ _ xv, pcall, if_pos rfl, if_neg (show ¬ chM T N i = (64 : Int32) from chM_ne hok (v := 64) (by omega) (by omega) x64), if_neg (show ¬ chM T N i = (39 : Int32) from chM_ne hok (v := 39) (by omega) (by omega) x39), hso, pcall, if_neg hk0, hso, pcall]
  obtain ⟨b1, b2, b3, b4, b5, b6⟩ := cbg_f (kd := kdN (chT T N i)) (op := opN (chT T N i)) hc ht x0 x10
  have hm2 : mQ (moM (zzsI (zzsI Mm 28 20 (nI (tl + 1))) 28 16 (nI (i + 1))) w m kd (nI i)) T N w (i + 1) (m + 1) q (tl + 1) d := ((hm.tl (tl + 1)).at (i + 1)).order (by omega)
  have hf2 : frR w m q d Mm (moM (zzsI (zzsI Mm 28 20 (nI (tl + 1))) 28 16 (nI (i + 1))) w m kd (nI i)) := ((frR_s (by omega)).tr (frR_s (by omega)) (Nat.le_refl _) (Nat.le_refl _) (Nat.le_refl _)).tr (moM_f (by omega)) (Nat.le_refl _) (Nat.le_refl _) (Nat.le_refl _)
  obtain ⟨v1, v2, v3, v4, v5, v6⟩ := moM_v (M := zzsI (zzsI Mm 28 20 (nI (tl + 1))) 28 16 (nI (i + 1))) (w := w) (m := m) (kd := kd) (wh := nI i)
  have hsi : ∀ y Mm3, F_Md_readCodes lwSm (moM (zzsI (zzsI Mm 28 20 (nI (tl + 1))) 28 16 (nI (i + 1))) w m kd (nI i)) 28 1 = some (y, Mm3) → zzcall (F_Md_readSimple lwSm (zzsI Mm 28 20 (nI (tl + 1))) 28 kd (nI i)) (fun r31 M => some ((), M)) = zzcall (F_Md_expect lwSm (zzsI Mm3 36 (600 * w + m) y) 28 (nI 59)) (fun _ M => some ((), M)) := fun y Mm3 hy => by
    have h16 : zzI (zzsI Mm 28 20 (nI (tl + 1))) 28 16 = nI i := hm.2.1
    simp only [F_Md_readSimple, plet, h16, ← nI_succ, m_order ((hm.tl (tl + 1)).at (i + 1)).1 ((hm.tl (tl + 1)).at (i + 1)).2.2.2.1 (show m < 600 by omega), pcall, mR_10 hm2.1.1, mr_36, hm2.1.2.1, e600, hy, w_ix mn_36 hw (show m < 600 by omega), w_k hw (show m < 600 by omega)]
    show zzcall (zzcall (F_Md_expect lwSm (zzsI Mm3 36 (600 * w + m) y) 28 (nI 59)) fun r9 M => some (nI m, M)) _ = _
    cases F_Md_expect lwSm (zzsI Mm3 36 (600 * w + m) y) 28 (nI 59) <;> rfl
  have hzn := gS_new S 13 0 9
  have hzk : zzk (zznew S 13 0 9) S.2.1 = 13 := by unfold zzk zznew; simp
  have hzl : S.2.1 < (zznew S 13 0 9).2.1 := by show S.2.1 < S.2.1 + 1; omega
  have hl4 : zzsl 4 = 2 := by decide
  rcases P_E (n := n) (dd := nI d) hzl hzk (by omega) b1 hm2 (by omega) with ⟨S1, Mc1, Mm1, i2, q2, a1, a2, a3, a4, a5, a6, a7, a8, a9, a10, a11, a12, a13⟩ | ⟨p, Mc1, Mm1, a1, a2, a3, a4, a5, a6, a7, -⟩
  · have hi2N := a5.2.2.1
    have hG : ∀ f, zzcall (F_Md_readStatement lwSm Mm 28) (fun _ M => rd f M) = zzcall (F_Md_expect lwSm (zzsI Mm1 36 (600 * w + m) (nI q)) 28 (nI 59)) (fun _ M => rd f M) := fun f => by
      rw [hrs, hsi _ _ a2, zc_as]
    have hm3 := a6.ord (a := 36) (k := m) (v := nI q) (by omega) (by omega)
    have hf3 : frR w m q d Mm (zzsI Mm1 36 (600 * w + m) (nI q)) := (hf2.tr (a7.R2 m d) (Nat.le_refl _) (Nat.le_refl _) (Nat.le_refl _)).tr (frR_o (by omega) (Nat.le_refl m) (by omega)) (Nat.le_refl _) (Nat.le_refl _) (Nat.le_refl _)
    have hex := m_expect hm3.1 hm3.2.1 (show i2 < 1000 by omega) hm3.2.2.1 (show 59 < 1000 by omega) (by omega)
    have hpt := p_t (n := n) (s := S.2.1) (dd := nI d) (v := 59) a5.1 a5.2.1 hi2N (by omega)
    have hgr : grw S S1 tl (tl + 1) i i2 0 := ⟨by rw [a12]; show S.2.1 + 1 + 1 ≤ _; omega, by have : S1.2.2 ≤ S.2.2 + 9 + (i2 - (i + 1)) := a13; omega⟩
    have hfc : fcN S.2.1 Mc Mc1 := b2.tr (a4.N (by omega)) (Nat.le_refl _)
    by_cases h59 : chT T N i2 = 59
    · left
      rw [if_pos h59] at hex hpt
      have hlt2 := (chT_lt (T := T) (N := N) (i := i2) (by omega)).1
      have e1 : FD_Rd_statement (n + 2) S Mc 23 (nI d) = some (some S.2.1, S1, zzsI Mc1 23 2 (nI (i2 + 1))) := by
        refine c_stmt0 hc ht (by rw [hsh]; omega) ?_ a3
        rw [hsh]
        refine s58_y (q := 1999) (c := 69) a5.1.1 (by omega) (by rw [hl4]; omega) (by omega) (by rw [hl4]; omega) (by decide) a1 a3 ?_ (gS.rf _)
        refine s58_y (q := 1998) (c := nI 59) a5.1.1 (by omega) (by rw [hl4]; omega) (by omega) (by rw [hl4]; omega) (by decide) hpt (gS.rf _) ?_ (gS.rf _)
        exact s58_end (q := 1997) (by omega) (by rw [hl4]) (by omega)
      have hfcN : fcN S.2.1 Mc (zzsI Mc1 23 2 (nI (i2 + 1))) := hfc.tr (fcN_23 (by omega)) (Nat.le_refl _)
      have hcq : cQ S1 (zzsI Mc1 23 2 (nI (i2 + 1))) T N (i2 + 1) (tl + 1) fu := a5.N (gS.rf _) (fcN_23 (by omega)) (by simp [plet, pcall, pck, pI_I, pI_L, pI_R, pL_I, pL_L, pL_R, pR_I, pR_L, pR_R]) (by omega) (by omega) (nn_1 (N := N) (by omega) (by omega)) (by simp [plet, pcall, pck, pI_I, pI_L, pI_R, pL_I, pL_L, pL_R, pR_I, pR_L, pR_R]) (by simp [plet, pcall, pck, pI_I, pI_L, pI_R, pL_I, pL_L, pL_R, pR_I, pR_L, pR_R]; exact a5.2.2.2.2.1) (by omega)
      have hse : seM (zzsI Mm1 36 (600 * w + m) (nI q)) w m = nI q := by simp [plet, pcall, pck, pI_I, pI_L, pI_R, pL_I, pL_L, pL_R, pR_I, pR_L, pR_R]
      have hI : ∀ k, zzI (zzsI Mc1 23 2 (nI (i2 + 1))) S.2.1 k = zzI (cbg S Mc (kdN (chT T N i)) (opN (chT T N i)) i tl (lnT (fun i => nI (T i)) i)) S.2.1 k := fun k => by
        rw [pI_I, if_neg (by omega)]
        exact a4.1 S.2.1 k hzl (by omega) (by omega)
      refine ⟨S1, _, zzsI (zzsI Mm1 36 (600 * w + m) (nI q)) 28 16 (nI (i2 + 1)), i2 + 1, m + 1, q2, tl + 1, 0, e1, hzn.tr a3, hfcN, hcq, ?_, fun f => ?_, hm3.at (i2 + 1), hf3.tr (frR_s (by omega)) (Nat.le_refl _) (Nat.le_refl _) (Nat.le_refl _), ⟨by omega, by omega, by omega, i, ?_, ?_, Or.inl ⟨nI (chT T N i), kd, ?_, ?_, ?_, ?_, rfl⟩⟩, by omega, by omega, by omega, by omega, by omega, ⟨hgr.1, by have := hgr.2; omega⟩, by omega⟩
      · show zzR Mc1 S.2.1 8 = none
        rw [a4.2.1 S.2.1 8 hzl (by omega)]
        exact b6 8
      · show zzcall (F_Md_readStatement lwSm Mm 28) (fun _ M => rd f M) = _
        rw [hG, hex, pcall]
      · obtain ⟨s1, s2, s3, s4, s5, s6⟩ := b5
        exact ⟨s1, (a3.k s2 s3).1, (a3.k s2 s3).2, s4, (hI 1).trans s5, (hI 2).trans s6⟩
      · show zzI (zzsI (zzsI Mm1 36 (600 * w + m) (nI q)) 28 16 (nI (i2 + 1))) 33 (600 * w + m) = nI i
        simp only [plet, pcall, pck, pI_I, pI_L, pI_R, pL_I, pL_L, pL_R, pR_I, pR_L, pR_R]
        rw [if_neg (by decide), if_neg (by decide), (a7.R2 (m + 1) d).1 33 _ (by omega) (by omega) (by omega)]
        exact v2
      · unfold smp; rcases hx with ⟨h, h'⟩ | ⟨h, h'⟩ | ⟨h, h'⟩ | ⟨h, h'⟩ | ⟨h, h'⟩ | ⟨h, h'⟩ <;> rw [h, h'] <;> decide
      · rw [hI 0, b3, hkd]
      · show zzI (zzsI (zzsI Mm1 36 (600 * w + m) (nI q)) 28 16 (nI (i2 + 1))) 32 (600 * w + m) = kd
        simp only [plet, pcall, pck, pI_I, pI_L, pI_R, pL_I, pL_L, pL_R, pR_I, pR_L, pR_R]
        rw [if_neg (by decide), if_neg (by decide), (a7.R2 (m + 1) d).1 32 _ (by omega) (by omega) (by omega)]
        exact v1
      · have e5 : zzR (zzsI Mc1 23 2 (nI (i2 + 1))) S.2.1 5 = zzR Mc1 S.2.1 5 := rfl
        have e6 : seM (zzsI (zzsI Mm1 36 (600 * w + m) (nI q)) 28 16 (nI (i2 + 1))) w m = nI q := hse
        rw [e5, e6]
        refine exQ.go (S := S1) (Mc := Mc1) (Mm := Mm1) (i := 0) (j := 0) a8 ⟨Nat.le_refl _, fun a h1 h2 => ⟨rfl, fun k => ?_, fun k => rfl⟩⟩ ⟨fun a k _ _ _ h => by omega, fun a k h1 _ => ?_⟩ (Nat.le_refl _)
        · have h1' : S.2.1 + 1 ≤ a := h1
          rw [pI_I, if_neg (by omega)]
        · simp only [plet, pcall, pck, pI_I, pI_L, pI_R, pL_I, pL_L, pL_R, pR_I, pR_L, pR_R]
          rw [if_neg (by omega), if_neg (by omega)]
    · right
      rw [if_neg h59] at hex hpt
      have e1 : FD_Rd_statement (n + 2) S Mc 23 (nI d) = some (none, S1, Mc1) := by
        refine c_stmt0 hc ht (by rw [hsh]; omega) ?_ a3
        rw [hsh]
        refine s58_y (q := 1999) (c := 69) a5.1.1 (by omega) (by rw [hl4]; omega) (by omega) (by rw [hl4]; omega) (by decide) a1 a3 ?_ (gS.rf _)
        exact s58_n (q := 1998) (c := nI 59) (by omega) (by rw [hl4]; omega) (by omega) (by rw [hl4]; omega) (by decide) hpt (gS.rf _)
      refine rF_w (t2 := tl + 1) (y := i2) (p := i2) e1 (hzn.tr a3) hfc.Z a5.2.1 hi2N (Mm1 := zzsI (zzsI Mm1 36 (600 * w + m) (nI q)) 28 17 (nI i2)) (fun f => ?_) (by simp [plet, pcall, pck, pI_I, pI_L, pI_R, pL_I, pL_L, pL_R, pR_I, pR_L, pR_R]) (by omega) (hf3.Z.tr (frR_s (m := m) (q := q) (d := d) (by omega)).Z) (by omega) (by omega) (by omega) hi2N hgr
      show zzcall (F_Md_readStatement lwSm Mm 28) (fun _ M => rd f M) = _
      rw [hG, hex, pcall]
  · right
    have hG : ∀ f, zzcall (F_Md_readStatement lwSm Mm 28) (fun _ M => rd f M) = rd f (zzsI Mm1 36 (600 * w + m) (nI q)) := fun f => by
      rw [hrs, hsi _ _ a2, m_expect_w (by rw [pI_I, if_neg (by decide), a6]; exact nI_m1 (by omega)), pcall, pcall]
    have e1 : FD_Rd_statement (n + 2) S Mc 23 (nI d) = some (none, zznew S 13 0 9, Mc1) := by
      refine c_stmt0 hc ht (by rw [hsh]; omega) ?_ (gS.rf _)
      rw [hsh]
      exact s58_n (q := 1999) (c := 69) (by omega) (by rw [hl4]; omega) (by omega) (by rw [hl4]; omega) (by decide) a1 (gS.rf _)
    exact rF_w (t2 := tl + 1) (y := i + 1) (p := p) e1 hzn (b2.tr (a3.N (by omega)) (Nat.le_refl _)).Z a4 a5 hG (by rw [pI_I, if_neg (by decide)]; exact a6) (by omega) (((hf2.Z.tr (a7.R2 m d).Z)).tr (frR_o (m := m) (q := q) (d := d) (by omega) (Nat.le_refl m) (by omega)).Z) (by omega) (by omega) (by omega) (by omega) ⟨by show S.2.1 + 1 ≤ _; omega, by show S.2.2 + 9 ≤ _; omega⟩
