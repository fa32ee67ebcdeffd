def F_Rd_part (k_Rd_block : zzS → zzM → Nat → Int32 → Int32 → Option (Option Nat × zzS × zzM)) (k_Rd_statement : zzS → zzM → Nat → Int32 → Option (Option Nat × zzS × zzM)) (k_Rd_part : zzS → zzM → Nat → Option Nat → Int32 → Int32 → Option (Int32 × zzS × zzM)) (k_Rd_enclosed : zzS → zzM → Nat → Int32 → Int32 → Int32 → Option (Option Nat × zzS × zzM)) (S : zzS) (M : zzM) (v0 : Nat) (v1 : Option Nat) (v2 : Int32) (v3 : Int32) : Option (Int32 × zzS × zzM) := if v2 = (65 : Int32) then (zzlet (zzsI M v0 7 (0 : Int32)) fun M => zzcall (FD_Rd_atom S 60 M v0 (0 : Int32)) fun r2 M => if r2 = 0 then (zzopt S 13 v1 (none) (fun b3 => zzlet (zzsR M b3 4 none) fun M => zzlet (zzR M b3 4) fun r5 => zzopt S 1 r5 (some ((0 : Int32), S, M)) (fun b6 => some ((1 : Int32), S, M)))) else (zzref S 1 (zzR M v0 6) fun b7 => zzlet (zzI M v0 7) fun x8 => zzcallA S (F_Ar_copyOf S M (some b7) x8) fun r9 S M => zzopt S 13 v1 (none) (fun b10 => zzlet (zzsR M b10 4 r9) fun M => zzlet (zzR M b10 4) fun r12 => zzopt S 1 r12 (some ((0 : Int32), S, M)) (fun b13 => some ((1 : Int32), S, M))))) else (if v2 = (66 : Int32) then (zzcallA S (k_Rd_enclosed S M v0 (123 : Int32) (125 : Int32) v3) fun r15 S M => zzopt S 13 v1 (none) (fun b16 => zzlet (zzsR M b16 6 r15) fun M => zzlet (zzR M b16 6) fun r18 => zzopt S 12 r18 (some ((0 : Int32), S, M)) (fun b19 => some ((1 : Int32), S, M)))) else (if v2 = (67 : Int32) then (zzcallA S (k_Rd_enclosed S M v0 (123 : Int32) (125 : Int32) v3) fun r21 S M => zzopt S 13 v1 (none) (fun b22 => zzlet (zzsR M b22 7 r21) fun M => zzlet (zzR M b22 7) fun r24 => zzopt S 12 r24 (some ((0 : Int32), S, M)) (fun b25 => some ((1 : Int32), S, M)))) else (if v2 = (68 : Int32) then (zzcall (F_Rd_fieldDigit S M v0) fun r27 M => zzopt S 13 v1 (none) (fun b28 => zzlet (zzsI M b28 3 r27) fun M => zzlet (zzI M b28 3) fun x29 => if x29 = (-1 : Int32) then (some ((0 : Int32), S, M)) else (some ((1 : Int32), S, M)))) else (if v2 = (69 : Int32) then (zzlet (zzsI M v0 7 (0 : Int32)) fun M => zzcall (FD_Rd_ranked S 60 M v0 (0 : Int32) (0 : Int32)) fun r31 M => if r31 = 0 then (zzopt S 13 v1 (none) (fun b32 => zzlet (zzsR M b32 5 none) fun M => zzlet (zzR M b32 5) fun r34 => zzopt S 1 r34 (some ((0 : Int32), S, M)) (fun b35 => some ((1 : Int32), S, M)))) else (zzref S 1 (zzR M v0 6) fun b36 => zzlet (zzI M v0 7) fun x37 => zzcallA S (F_Ar_copyOf S M (some b36) x37) fun r38 S M => zzopt S 13 v1 (none) (fun b39 => zzlet (zzsR M b39 5 r38) fun M => zzlet (zzR M b39 5) fun r41 => zzopt S 1 r41 (some ((0 : Int32), S, M)) (fun b42 => some ((1 : Int32), S, M))))) else (if v2 = (70 : Int32) then (zzcall (F_Rd_newFunction S M v0 v1 v3) fun r44 M => zzck (zzokZ r44) (some (r44, S, M))) else (if v2 = (71 : Int32) then (zzcall (F_Rd_take S M v0 v2) fun r46 M => zzck (zzokZ r46) (some (r46, S, M))) else (if v2 = (72 : Int32) then (zzcall (F_Rd_take S M v0 v2) fun r48 M => zzck (zzokZ r48) (some (r48, S, M))) else (if v2 = (73 : Int32) then (zzcall (F_Rd_take S M v0 v2) fun r50 M => zzck (zzokZ r50) (some (r50, S, M))) else (if v2 = (74 : Int32) then (zzcall (F_Rd_take S M v0 v2) fun r52 M => zzck (zzokZ r52) (some (r52, S, M))) else (if v2 = (75 : Int32) then (zzcall (F_Rd_take S M v0 v2) fun r54 M => zzck (zzokZ r54) (some (r54, S, M))) else (if v2 = (76 : Int32) then (zzcall (F_Rd_take S M v0 v2) fun r56 M => zzck (zzokZ r56) (some (r56, S, M))) else (if v2 = (77 : Int32) then (zzcall (F_Rd_take S M v0 v2) fun r58 M => zzck (zzokZ r58) (some (r58, S, M))) else (if v2 = (78 : Int32) then (zzcall (F_Rd_take S M v0 v2) fun r60 M => zzck (zzokZ r60) (some (r60, S, M))) else (if v2 = (79 : Int32) then (zzcall (F_Rd_peek S M v0) fun r62 M => if r62 = (123 : Int32) then (zzcallA S (k_Rd_enclosed S M v0 (123 : Int32) (125 : Int32) v3) fun r69 S M => zzopt S 13 v1 (none) (fun b70 => zzlet (zzsR M b70 7 r69) fun M => zzlet (zzR M b70 7) fun r72 => zzopt S 12 r72 (some ((0 : Int32), S, M)) (fun b73 => some ((1 : Int32), S, M)))) else (zzmk S M 12 0 2 fun b63 S M => zzcall (F_Bl_init S M b63) fun r64 M => zzopt S 13 v1 (none) (fun b65 => zzlet (zzsR M b65 7 (some b63)) fun M => zzlet (zzR M b65 7) fun r67 => zzopt S 12 r67 (some ((0 : Int32), S, M)) (fun b68 => some ((1 : Int32), S, M))))) else (if v2 = (80 : Int32) then (zzcall (F_Rd_take S M v0 v2) fun r75 M => zzck (zzokZ r75) (some (r75, S, M))) else (if v2 = (81 : Int32) then (zzcall (F_Rd_take S M v0 v2) fun r77 M => zzck (zzokZ r77) (some (r77, S, M))) else (if v2 = (82 : Int32) then (zzcall (F_Rd_take S M v0 v2) fun r79 M => zzck (zzokZ r79) (some (r79, S, M))) else (if v2 = (83 : Int32) then (zzopt S 13 v1 (none) (fun b81 => zzlet (zzI M b81 1) fun x82 => zzlet (zzsI M v0 2 x82) fun M => zzcallA S (k_Rd_enclosed S M v0 (91 : Int32) (93 : Int32) v3) fun r83 S M => zzck (zzhas S b81 13) (zzlet (zzsR M b81 6 r83) fun M => zzlet (zzR M b81 6) fun r85 => zzopt S 12 r85 (some ((0 : Int32), S, M)) (fun b86 => some ((1 : Int32), S, M))))) else (zzcall (F_Rd_take S M v0 v2) fun r87 M => zzck (zzokZ r87) (some (r87, S, M)))))))))))))))))))))
set_option maxHeartbeats 4000000 in
set_option maxRecDepth 100000 in
theorem c_Rd_part {l : Launch} {D : zzD} {bs : Nat} {A : Nat → Prop} {X : State → Prop} {S : zzS} {M : zzM} {out : Int32 × zzS × zzM} {adK adV : Nat → Nat} {v0 : Nat} {v1 : Option Nat} {v2 : Int32} {v3 : Int32} {k_Rd_block : zzS → zzM → Nat → Int32 → Int32 → Option (Option Nat × zzS × zzM)} {k_Rd_statement : zzS → zzM → Nat → Int32 → Option (Option Nat × zzS × zzM)} {k_Rd_part : zzS → zzM → Nat → Option Nat → Int32 → Int32 → Option (Int32 × zzS × zzM)} {k_Rd_enclosed : zzS → zzM → Nat → Int32 → Int32 → Int32 → Option (Option Nat × zzS × zzM)} {fr lo : Nat} (hA : ∀ q : Nat, bs + S.2.1 ≤ q → A q) (hAb : ∀ q : Nat, A q → bs ≤ q) (hXs : zzStab bs X) (hnx : ∀ U : State, X U → zzXF bs adK adV U) (hfr : 80 ≤ fr) (hlo : 4600 ≤ lo) (hc_Rd_block : ∀ {S : zzS} {M : zzM} {out : Option Nat × zzS × zzM} {v0 : Nat} {v1 : Int32} {v2 : Int32}, (∀ q : Nat, bs + S.2.1 ≤ q → A q) → k_Rd_block S M v0 v1 v2 = some out → zzle S out.2.1 → v0 < S.2.1 → zzk S v0 = 17 → Met l y_Rd_block (Cond.code y_Rd_block prog_5_method_6_code 6 (some (.object "BoardScript$Block")) :: zzW) { frames := fr, cells := out.2.1.2.1 - S.2.1, slots := out.2.1.2.2 - S.2.2, locals := lo } (zzPcX D bs A X S M [.ref (bs + v0), .int v1, .int v2]) (zzQc D bs A out.2.1 out.2.2 (bs + out.2.1.2.1) (some (zzrf bs out.1))) (out.2.1.2.1 - S.2.1) (out.2.1.2.2 - S.2.2) A) (hc_Rd_statement : ∀ {S : zzS} {M : zzM} {out : Option Nat × zzS × zzM} {v0 : Nat} {v1 : Int32}, (∀ q : Nat, bs + S.2.1 ≤ q → A q) → k_Rd_statement S M v0 v1 = some out → zzle S out.2.1 → v0 < S.2.1 → zzk S v0 = 17 → Met l y_Rd_statement (Cond.code y_Rd_statement prog_5_method_7_code 6 (some (.object "BoardScript$Statement")) :: zzW) { frames := fr, cells := out.2.1.2.1 - S.2.1, slots := out.2.1.2.2 - S.2.2, locals := lo } (zzPcX D bs A X S M [.ref (bs + v0), .int v1]) (zzQc D bs A out.2.1 out.2.2 (bs + out.2.1.2.1) (some (zzrf bs out.1))) (out.2.1.2.1 - S.2.1) (out.2.1.2.2 - S.2.2) A) (hc_Rd_part : ∀ {S : zzS} {M : zzM} {out : Int32 × zzS × zzM} {v0 : Nat} {v1 : Option Nat} {v2 : Int32} {v3 : Int32}, (∀ q : Nat, bs + S.2.1 ≤ q → A q) → k_Rd_part S M v0 v1 v2 v3 = some out → zzle S out.2.1 → v0 < S.2.1 → zzk S v0 = 17 → Met l y_Rd_part (Cond.code y_Rd_part prog_5_method_10_code 4 (some .boolean) :: zzW) { frames := fr, cells := out.2.1.2.1 - S.2.1, slots := out.2.1.2.2 - S.2.2, locals := lo } (zzPcX D bs A X S M [.ref (bs + v0), zzrf bs v1, .int v2, .int v3]) (zzQc D bs A out.2.1 out.2.2 (bs + out.2.1.2.1) (some (.int out.1))) (out.2.1.2.1 - S.2.1) (out.2.1.2.2 - S.2.2) A) (hc_Rd_enclosed : ∀ {S : zzS} {M : zzM} {out : Option Nat × zzS × zzM} {v0 : Nat} {v1 : Int32} {v2 : Int32} {v3 : Int32}, (∀ q : Nat, bs + S.2.1 ≤ q → A q) → k_Rd_enclosed S M v0 v1 v2 v3 = some out → zzle S out.2.1 → v0 < S.2.1 → zzk S v0 = 17 → Met l y_Rd_enclosed (Cond.code y_Rd_enclosed prog_5_method_11_code 5 (some (.object "BoardScript$Block")) :: zzW) { frames := fr, cells := out.2.1.2.1 - S.2.1, slots := out.2.1.2.2 - S.2.2, locals := lo } (zzPcX D bs A X S M [.ref (bs + v0), .int v1, .int v2, .int v3]) (zzQc D bs A out.2.1 out.2.2 (bs + out.2.1.2.1) (some (zzrf bs out.1))) (out.2.1.2.1 - S.2.1) (out.2.1.2.2 - S.2.2) A) (hF : F_Rd_part k_Rd_block k_Rd_statement k_Rd_part k_Rd_enclosed S M v0 v1 v2 v3 = some out) (ho : zzle S out.2.1) (hn_v0 : v0 < S.2.1) (hk_v0 : zzk S v0 = 17) : Met l y_Rd_part (Cond.code y_Rd_part prog_5_method_10_code 4 (some .boolean) :: zzW) { frames := fr + 1, cells := out.2.1.2.1 - S.2.1, slots := out.2.1.2.2 - S.2.2, locals := lo + 60 } (zzPcX D bs A X S M [.ref (bs + v0), zzrf bs v1, .int v2, .int v3]) (zzQc D bs A out.2.1 out.2.2 (bs + out.2.1.2.1) (some (.int out.1))) (out.2.1.2.1 - S.2.1) (out.2.1.2.2 - S.2.2) A := by
  refine zz_metA [.ref (bs + v0), zzrf bs v1, .int v2, .int v3] (by decide) (by cases v1 <;> exact Nat.le_of_ble_eq_true rfl) hA hAb hXs (fun p e s m args below meth c C hr hlocks hin E => ?_)
  have hm : zzle S S := ⟨Nat.le_refl _, Nat.le_refl _⟩
  refine zz_eq (lv' := [(0, .ref (bs + v0)), (1, zzrf bs v1), (2, .int v2), (3, .int v3)]) (st' := []) (by cases v1 <;> rfl) rfl ?_
  unfold F_Rd_part at hF
  refine zi_iload_n C d_Rd_part_0 rfl 2 rfl ?_
  by_cases hs1 : v2 = (65 : Int32)
  · rw [if_pos hs1] at hF
    refine zi_tableIn C d_Rd_part_1 91 92 (by rw [hs1]; decide) (by rw [hs1]; decide) (by rw [hs1]; decide +kernel) (by decide) ?_
    refine zi_aload_n C d_Rd_part_92 rfl 0 rfl ?_
    refine zi_iconst (v := 0) C d_Rd_part_93 (by decide) ?_
    refine zi_putI C zc_7 (k := 7) (by decide) zw_377 rfl (Or.inl rfl) hn_v0 hk_v0 d_Rd_part_94 rfl hF (fun M hF => ?_)
    refine zi_aload_nO C d_Rd_part_97 rfl 1 rfl ?_
    refine zi_aload_n C d_Rd_part_98 rfl 0 rfl ?_
    refine zi_iconst (v := 0) C d_Rd_part_99 (by decide) ?_
    obtain ⟨r2, M, hqr2, hF⟩ := zzcall_e hF
    refine zi_callV_i (M2 := M) (r := r2) (n := 1) (As := [.int (0 : Int32)]) (st := [zzrf bs v1]) C ((cG_R 60).2 hqr2 hn_v0 hk_v0) zw_413 zw_367 (by decide +kernel) ⟨by have h9 := zzfr60; show _ ≤ fr + 1; omega, by have h9 := zzlo60; show _ ≤ lo + 60; omega⟩ rfl (by cases v1 <;> exact Nat.le_of_ble_eq_true rfl) (zz_hf hm ho) zw_414 zw_415 zw_416 zc_7.1 hn_v0 hk_v0 rfl d_Rd_part_100 ?_
    refine zi_if_eq (tgt := 120) C d_Rd_part_103 (by decide) hF (fun hF => ?_) (fun hF => ?_)
    · refine zi_null C d_Rd_part_120 ?_
      rcases zzopt_e hF with ⟨hv0, hF⟩ | ⟨b3, hv0, hn_b3, hk_b3, hF⟩
      · refine zz_eq (lv' := [(0, .ref (bs + v0)), (1, .null), (2, .int v2), (3, .int v3)]) (st' := [.null, .null]) (by first | rfl | (rw [hv0]; rfl) | (rw [hv0]; done)) (by first | rfl | (rw [hv0]; rfl) | (rw [hv0]; done)) ?_
        cases hF
      · refine zz_eq (lv' := [(0, .ref (bs + v0)), (1, .ref (bs + b3)), (2, .int v2), (3, .int v3)]) (st' := [.null, .ref (bs + b3)]) (by first | rfl | (rw [hv0]; rfl) | (rw [hv0]; done)) (by first | rfl | (rw [hv0]; rfl) | (rw [hv0]; done)) ?_
        refine zi_putN C zc_3 (k := 4) (by decide) zw_618 rfl (Or.inl rfl) hn_b3 hk_b3 d_Rd_part_121 (Or.inr ⟨_, rfl⟩) hF (fun M hF => ?_)
        refine zi_aload_n C d_Rd_part_124 rfl 1 rfl ?_
        refine zi_getQ C zc_3 (k := 4) (by decide) zw_618 rfl hn_b3 hk_b3 d_Rd_part_125 (fun _ _ _ => rfl) hF (fun r5 hF => ?_)
        rcases zzopt_e hF with ⟨hv0, hF⟩ | ⟨b6, hv0, hn_b6, hk_b6, hF⟩
        · refine zz_eq (lv' := [(0, .ref (bs + v0)), (1, .ref (bs + b3)), (2, .int v2), (3, .int v3)]) (st' := [.null]) (by first | rfl | (rw [hv0]; rfl) | (rw [hv0]; done)) (by first | rfl | (rw [hv0]; rfl) | (rw [hv0]; done)) ?_
          refine zi_ifnullN (tgt := 135) C d_Rd_part_128 (by decide) ?_
          refine zi_iconst (v := 0) C d_Rd_part_135 (by decide) ?_
          cases hF
          exact zi_zret C hlocks hr (by decide +kernel) d_Rd_part_136 rfl rfl rfl rfl
        · refine zz_eq (lv' := [(0, .ref (bs + v0)), (1, .ref (bs + b3)), (2, .int v2), (3, .int v3)]) (st' := [.ref (bs + b6)]) (by first | rfl | (rw [hv0]; rfl) | (rw [hv0]; done)) (by first | rfl | (rw [hv0]; rfl) | (rw [hv0]; done)) ?_
          refine zi_ifnull C d_Rd_part_128 ?_
          refine zi_iconst (v := 1) C d_Rd_part_131 (by decide) ?_
          refine zi_goto (tgt := 136) C d_Rd_part_132 (by decide) ?_
          cases hF
          exact zi_zret C hlocks hr (by decide +kernel) d_Rd_part_136 rfl rfl rfl rfl
    · refine zi_aload_n C d_Rd_part_106 rfl 0 rfl ?_
      refine zi_getR C zc_7 (k := 6) (by decide) zw_378 rfl hn_v0 hk_v0 d_Rd_part_107 (fun _ _ _ => rfl) hF (fun b7 hn_b7 hk_b7 hF => ?_)
      refine zi_aload_n C d_Rd_part_110 rfl 0 rfl ?_
      refine zi_getI C zc_7 (k := 7) (by decide) zw_377 rfl hn_v0 hk_v0 d_Rd_part_111 (fun _ _ _ => rfl) hF (fun x8 hF => ?_)
      obtain ⟨r9, S1, M1, hqr9, h1, h2, h3, h4, hF⟩ := zzcallA_e hF
      refine zi_callAS (n := 2) (S1 := S1) (M1 := M1) (res := some (zzrf bs r9)) (As := [.ref (bs + b7), .int x8]) (st := [zzrf bs v1]) C E hm (c_Ar_copyOf (out := (r9, S1, M1)) (zzE.hA E hm) hAb hXs (fun U h => (hnx U h).1) hqr9 ⟨h1, h2⟩ ) h1 h2 h3 h4 zw_619 zw_318 (by decide +kernel) ⟨by show _ ≤ fr + 1; omega, by show _ ≤ lo + 60; omega⟩ rfl (by cases v1 <;> exact Nat.le_of_ble_eq_true rfl) zw_620 zw_621 rfl d_Rd_part_114 (fun hm ho => ?_)
      clear h1 h2 h3 h4
      generalize S1 = S at hF hm ho ⊢
      generalize M1 = M at hF ⊢
      refine zz_eq (lv' := [(0, .ref (bs + v0)), (1, zzrf bs v1), (2, .int v2), (3, .int v3)]) (st' := [zzrf bs r9, zzrf bs v1]) rfl rfl ?_
      refine zi_goto (tgt := 121) C d_Rd_part_117 (by decide) ?_
      rcases zzopt_e hF with ⟨hv0, hF⟩ | ⟨b10, hv0, hn_b10, hk_b10, hF⟩
      · refine zz_eq (lv' := [(0, .ref (bs + v0)), (1, .null), (2, .int v2), (3, .int v3)]) (st' := [zzrf bs r9, .null]) (by first | rfl | (rw [hv0]; rfl) | (rw [hv0]; done)) (by first | rfl | (rw [hv0]; rfl) | (rw [hv0]; done)) ?_
        cases hF
      · refine zz_eq (lv' := [(0, .ref (bs + v0)), (1, .ref (bs + b10)), (2, .int v2), (3, .int v3)]) (st' := [zzrf bs r9, .ref (bs + b10)]) (by first | rfl | (rw [hv0]; rfl) | (rw [hv0]; done)) (by first | rfl | (rw [hv0]; rfl) | (rw [hv0]; done)) ?_
        refine zi_putO C zc_3 (k := 4) (by decide) zw_618 rfl (Or.inl rfl) hn_b10 hk_b10 d_Rd_part_121 (Or.inr ⟨_, rfl⟩) hF (fun M hF => ?_)
        refine zi_aload_n C d_Rd_part_124 rfl 1 rfl ?_
        refine zi_getQ C zc_3 (k := 4) (by decide) zw_618 rfl hn_b10 hk_b10 d_Rd_part_125 (fun _ _ _ => rfl) hF (fun r12 hF => ?_)
        rcases zzopt_e hF with ⟨hv0, hF⟩ | ⟨b13, hv0, hn_b13, hk_b13, hF⟩
        · refine zz_eq (lv' := [(0, .ref (bs + v0)), (1, .ref (bs + b10)), (2, .int v2), (3, .int v3)]) (st' := [.null]) (by first | rfl | (rw [hv0]; rfl) | (rw [hv0]; done)) (by first | rfl | (rw [hv0]; rfl) | (rw [hv0]; done)) ?_
          refine zi_ifnullN (tgt := 135) C d_Rd_part_128 (by decide) ?_
          refine zi_iconst (v := 0) C d_Rd_part_135 (by decide) ?_
          cases hF
          exact zi_zret C hlocks hr (by decide +kernel) d_Rd_part_136 rfl rfl rfl rfl
        · refine zz_eq (lv' := [(0, .ref (bs + v0)), (1, .ref (bs + b10)), (2, .int v2), (3, .int v3)]) (st' := [.ref (bs + b13)]) (by first | rfl | (rw [hv0]; rfl) | (rw [hv0]; done)) (by first | rfl | (rw [hv0]; rfl) | (rw [hv0]; done)) ?_
          refine zi_ifnull C d_Rd_part_128 ?_
          refine zi_iconst (v := 1) C d_Rd_part_131 (by decide) ?_
          refine zi_goto (tgt := 136) C d_Rd_part_132 (by decide) ?_
          cases hF
          exact zi_zret C hlocks hr (by decide +kernel) d_Rd_part_136 rfl rfl rfl rfl
  · rw [if_neg hs1] at hF
    by_cases hs14 : v2 = (66 : Int32)
    · rw [if_pos hs14] at hF
      refine zi_tableIn C d_Rd_part_1 211 212 (by rw [hs14]; decide) (by rw [hs14]; decide) (by rw [hs14]; decide +kernel) (by decide) ?_
      refine zi_aload_nO C d_Rd_part_212 rfl 1 rfl ?_
      refine zi_aload_n C d_Rd_part_213 rfl 0 rfl ?_
      refine zi_bipush (v := 123) C d_Rd_part_214 (by decide) ?_
      refine zi_bipush (v := 125) C d_Rd_part_216 (by decide) ?_
      refine zi_iload_n C d_Rd_part_218 rfl 3 rfl ?_
      obtain ⟨r15, S1, M1, hqr15, h1, h2, h3, h4, hF⟩ := zzcallA_e hF
      refine zi_callAV (n := 3) (S1 := S1) (M1 := M1) (res := some (zzrf bs r15)) (As := [.int (123 : Int32), .int (125 : Int32), .int v3]) (st := [zzrf bs v1]) C E hm (hc_Rd_enclosed (out := (r15, S1, M1)) (zzE.hA E hm)  hqr15 ⟨h1, h2⟩ hn_v0 hk_v0) h1 h2 h3 h4 zw_622 zw_367 (by decide +kernel) ⟨Nat.le_refl _, by show _ ≤ lo + 60; omega⟩ rfl (by cases v1 <;> exact Nat.le_of_ble_eq_true rfl) zw_623 zw_624 zw_625 zc_7.1 hn_v0 hk_v0 rfl d_Rd_part_219 (fun hm ho => ?_)
      clear h1 h2 h3 h4
      generalize S1 = S at hF hm ho ⊢
      generalize M1 = M at hF ⊢
      refine zz_eq (lv' := [(0, .ref (bs + v0)), (1, zzrf bs v1), (2, .int v2), (3, .int v3)]) (st' := [zzrf bs r15, zzrf bs v1]) rfl rfl ?_
      rcases zzopt_e hF with ⟨hv0, hF⟩ | ⟨b16, hv0, hn_b16, hk_b16, hF⟩
      · refine zz_eq (lv' := [(0, .ref (bs + v0)), (1, .null), (2, .int v2), (3, .int v3)]) (st' := [zzrf bs r15, .null]) (by first | rfl | (rw [hv0]; rfl) | (rw [hv0]; done)) (by first | rfl | (rw [hv0]; rfl) | (rw [hv0]; done)) ?_
        cases hF
      · refine zz_eq (lv' := [(0, .ref (bs + v0)), (1, .ref (bs + b16)), (2, .int v2), (3, .int v3)]) (st' := [zzrf bs r15, .ref (bs + b16)]) (by first | rfl | (rw [hv0]; rfl) | (rw [hv0]; done)) (by first | rfl | (rw [hv0]; rfl) | (rw [hv0]; done)) ?_
        refine zi_putO C zc_3 (k := 6) (by decide) zw_626 rfl (Or.inl rfl) hn_b16 hk_b16 d_Rd_part_222 (Or.inl ⟨_, rfl⟩) hF (fun M hF => ?_)
        refine zi_aload_n C d_Rd_part_225 rfl 1 rfl ?_
        refine zi_getQ C zc_3 (k := 6) (by decide) zw_626 rfl hn_b16 hk_b16 d_Rd_part_226 (fun _ _ _ => rfl) hF (fun r18 hF => ?_)
        rcases zzopt_e hF with ⟨hv0, hF⟩ | ⟨b19, hv0, hn_b19, hk_b19, hF⟩
        · refine zz_eq (lv' := [(0, .ref (bs + v0)), (1, .ref (bs + b16)), (2, .int v2), (3, .int v3)]) (st' := [.null]) (by first | rfl | (rw [hv0]; rfl) | (rw [hv0]; done)) (by first | rfl | (rw [hv0]; rfl) | (rw [hv0]; done)) ?_
          refine zi_ifnullN (tgt := 236) C d_Rd_part_229 (by decide) ?_
          refine zi_iconst (v := 0) C d_Rd_part_236 (by decide) ?_
          cases hF
          exact zi_zret C hlocks hr (by decide +kernel) d_Rd_part_237 rfl rfl rfl rfl
        · refine zz_eq (lv' := [(0, .ref (bs + v0)), (1, .ref (bs + b16)), (2, .int v2), (3, .int v3)]) (st' := [.ref (bs + b19)]) (by first | rfl | (rw [hv0]; rfl) | (rw [hv0]; done)) (by first | rfl | (rw [hv0]; rfl) | (rw [hv0]; done)) ?_
          refine zi_ifnull C d_Rd_part_229 ?_
          refine zi_iconst (v := 1) C d_Rd_part_232 (by decide) ?_
          refine zi_goto (tgt := 237) C d_Rd_part_233 (by decide) ?_
          cases hF
          exact zi_zret C hlocks hr (by decide +kernel) d_Rd_part_237 rfl rfl rfl rfl
    · rw [if_neg hs14] at hF
      by_cases hs20 : v2 = (67 : Int32)
      · rw [if_pos hs20] at hF
        refine zi_tableIn C d_Rd_part_1 237 238 (by rw [hs20]; decide) (by rw [hs20]; decide) (by rw [hs20]; decide +kernel) (by decide) ?_
        refine zi_aload_nO C d_Rd_part_238 rfl 1 rfl ?_
        refine zi_aload_n C d_Rd_part_239 rfl 0 rfl ?_
        refine zi_bipush (v := 123) C d_Rd_part_240 (by decide) ?_
        refine zi_bipush (v := 125) C d_Rd_part_242 (by decide) ?_
        refine zi_iload_n C d_Rd_part_244 rfl 3 rfl ?_
        obtain ⟨r21, S1, M1, hqr21, h1, h2, h3, h4, hF⟩ := zzcallA_e hF
        refine zi_callAV (n := 3) (S1 := S1) (M1 := M1) (res := some (zzrf bs r21)) (As := [.int (123 : Int32), .int (125 : Int32), .int v3]) (st := [zzrf bs v1]) C E hm (hc_Rd_enclosed (out := (r21, S1, M1)) (zzE.hA E hm)  hqr21 ⟨h1, h2⟩ hn_v0 hk_v0) h1 h2 h3 h4 zw_622 zw_367 (by decide +kernel) ⟨Nat.le_refl _, by show _ ≤ lo + 60; omega⟩ rfl (by cases v1 <;> exact Nat.le_of_ble_eq_true rfl) zw_623 zw_624 zw_625 zc_7.1 hn_v0 hk_v0 rfl d_Rd_part_245 (fun hm ho => ?_)
        clear h1 h2 h3 h4
        generalize S1 = S at hF hm ho ⊢
        generalize M1 = M at hF ⊢
        refine zz_eq (lv' := [(0, .ref (bs + v0)), (1, zzrf bs v1), (2, .int v2), (3, .int v3)]) (st' := [zzrf bs r21, zzrf bs v1]) rfl rfl ?_
        rcases zzopt_e hF with ⟨hv0, hF⟩ | ⟨b22, hv0, hn_b22, hk_b22, hF⟩
        · refine zz_eq (lv' := [(0, .ref (bs + v0)), (1, .null), (2, .int v2), (3, .int v3)]) (st' := [zzrf bs r21, .null]) (by first | rfl | (rw [hv0]; rfl) | (rw [hv0]; done)) (by first | rfl | (rw [hv0]; rfl) | (rw [hv0]; done)) ?_
          cases hF
        · refine zz_eq (lv' := [(0, .ref (bs + v0)), (1, .ref (bs + b22)), (2, .int v2), (3, .int v3)]) (st' := [zzrf bs r21, .ref (bs + b22)]) (by first | rfl | (rw [hv0]; rfl) | (rw [hv0]; done)) (by first | rfl | (rw [hv0]; rfl) | (rw [hv0]; done)) ?_
          refine zi_putO C zc_3 (k := 7) (by decide) zw_627 rfl (Or.inl rfl) hn_b22 hk_b22 d_Rd_part_248 (Or.inl ⟨_, rfl⟩) hF (fun M hF => ?_)
          refine zi_aload_n C d_Rd_part_251 rfl 1 rfl ?_
          refine zi_getQ C zc_3 (k := 7) (by decide) zw_627 rfl hn_b22 hk_b22 d_Rd_part_252 (fun _ _ _ => rfl) hF (fun r24 hF => ?_)
          rcases zzopt_e hF with ⟨hv0, hF⟩ | ⟨b25, hv0, hn_b25, hk_b25, hF⟩
          · refine zz_eq (lv' := [(0, .ref (bs + v0)), (1, .ref (bs + b22)), (2, .int v2), (3, .int v3)]) (st' := [.null]) (by first | rfl | (rw [hv0]; rfl) | (rw [hv0]; done)) (by first | rfl | (rw [hv0]; rfl) | (rw [hv0]; done)) ?_
            refine zi_ifnullN (tgt := 262) C d_Rd_part_255 (by decide) ?_
            refine zi_iconst (v := 0) C d_Rd_part_262 (by decide) ?_
            cases hF
            exact zi_zret C hlocks hr (by decide +kernel) d_Rd_part_263 rfl rfl rfl rfl
          · refine zz_eq (lv' := [(0, .ref (bs + v0)), (1, .ref (bs + b22)), (2, .int v2), (3, .int v3)]) (st' := [.ref (bs + b25)]) (by first | rfl | (rw [hv0]; rfl) | (rw [hv0]; done)) (by first | rfl | (rw [hv0]; rfl) | (rw [hv0]; done)) ?_
            refine zi_ifnull C d_Rd_part_255 ?_
            refine zi_iconst (v := 1) C d_Rd_part_258 (by decide) ?_
            refine zi_goto (tgt := 263) C d_Rd_part_259 (by decide) ?_
            cases hF
            exact zi_zret C hlocks hr (by decide +kernel) d_Rd_part_263 rfl rfl rfl rfl
      · rw [if_neg hs20] at hF
        by_cases hs26 : v2 = (68 : Int32)
        · rw [if_pos hs26] at hF
          refine zi_tableIn C d_Rd_part_1 182 183 (by rw [hs26]; decide) (by rw [hs26]; decide) (by rw [hs26]; decide +kernel) (by decide) ?_
          refine zi_aload_nO C d_Rd_part_183 rfl 1 rfl ?_
          refine zi_aload_n C d_Rd_part_184 rfl 0 rfl ?_
          obtain ⟨r27, M, hqr27, hF⟩ := zzcall_e hF
          refine zi_callV_i (M2 := M) (r := r27) (n := 0) (As := []) (st := [zzrf bs v1]) C (c_Rd_fieldDigit hqr27 hn_v0 hk_v0) zw_434 zw_367 (by decide +kernel) ⟨by show _ ≤ fr + 1; omega, by show _ ≤ lo + 60; omega⟩ rfl (by cases v1 <;> exact Nat.le_of_ble_eq_true rfl) (zz_hf hm ho) zw_435 zw_436 zw_437 zc_7.1 hn_v0 hk_v0 rfl d_Rd_part_185 ?_
          rcases zzopt_e hF with ⟨hv0, hF⟩ | ⟨b28, hv0, hn_b28, hk_b28, hF⟩
          · refine zz_eq (lv' := [(0, .ref (bs + v0)), (1, .null), (2, .int v2), (3, .int v3)]) (st' := [.int r27, .null]) (by first | rfl | (rw [hv0]; rfl) | (rw [hv0]; done)) (by first | rfl | (rw [hv0]; rfl) | (rw [hv0]; done)) ?_
            cases hF
          · refine zz_eq (lv' := [(0, .ref (bs + v0)), (1, .ref (bs + b28)), (2, .int v2), (3, .int v3)]) (st' := [.int r27, .ref (bs + b28)]) (by first | rfl | (rw [hv0]; rfl) | (rw [hv0]; done)) (by first | rfl | (rw [hv0]; rfl) | (rw [hv0]; done)) ?_
            refine zi_putI C zc_3 (k := 3) (by decide) zw_374 rfl (Or.inl rfl) hn_b28 hk_b28 d_Rd_part_188 rfl hF (fun M hF => ?_)
            refine zi_aload_n C d_Rd_part_191 rfl 1 rfl ?_
            refine zi_getI C zc_3 (k := 3) (by decide) zw_374 rfl hn_b28 hk_b28 d_Rd_part_192 (fun _ _ _ => rfl) hF (fun x29 hF => ?_)
            refine zi_iconst (v := -1) C d_Rd_part_195 (by decide) ?_
            refine zi_icmp_eq (tgt := 203) C d_Rd_part_196 (by decide) hF (fun hF => ?_) (fun hF => ?_)
            · refine zi_iconst (v := 0) C d_Rd_part_203 (by decide) ?_
              cases hF
              exact zi_zret C hlocks hr (by decide +kernel) d_Rd_part_204 rfl rfl rfl rfl
            · refine zi_iconst (v := 1) C d_Rd_part_199 (by decide) ?_
              refine zi_goto (tgt := 204) C d_Rd_part_200 (by decide) ?_
              cases hF
              exact zi_zret C hlocks hr (by decide +kernel) d_Rd_part_204 rfl rfl rfl rfl
        · rw [if_neg hs26] at hF
          by_cases hs30 : v2 = (69 : Int32)
          · rw [if_pos hs30] at hF
            refine zi_tableIn C d_Rd_part_1 136 137 (by rw [hs30]; decide) (by rw [hs30]; decide) (by rw [hs30]; decide +kernel) (by decide) ?_
            refine zi_aload_n C d_Rd_part_137 rfl 0 rfl ?_
            refine zi_iconst (v := 0) C d_Rd_part_138 (by decide) ?_
            refine zi_putI C zc_7 (k := 7) (by decide) zw_377 rfl (Or.inl rfl) hn_v0 hk_v0 d_Rd_part_139 rfl hF (fun M hF => ?_)
            refine zi_aload_nO C d_Rd_part_142 rfl 1 rfl ?_
            refine zi_aload_n C d_Rd_part_143 rfl 0 rfl ?_
            refine zi_iconst (v := 0) C d_Rd_part_144 (by decide) ?_
            refine zi_iconst (v := 0) C d_Rd_part_145 (by decide) ?_
            obtain ⟨r31, M, hqr31, hF⟩ := zzcall_e hF
            refine zi_callV_i (M2 := M) (r := r31) (n := 2) (As := [.int (0 : Int32), .int (0 : Int32)]) (st := [zzrf bs v1]) C ((cG_R 60).1 hqr31 hn_v0 hk_v0) zw_409 zw_367 (by decide +kernel) ⟨by have h9 := zzfr60; show _ ≤ fr + 1; omega, by have h9 := zzlo60; show _ ≤ lo + 60; omega⟩ rfl (by cases v1 <;> exact Nat.le_of_ble_eq_true rfl) (zz_hf hm ho) zw_410 zw_411 zw_412 zc_7.1 hn_v0 hk_v0 rfl d_Rd_part_146 ?_
            refine zi_if_eq (tgt := 166) C d_Rd_part_149 (by decide) hF (fun hF => ?_) (fun hF => ?_)
            · refine zi_null C d_Rd_part_166 ?_
              rcases zzopt_e hF with ⟨hv0, hF⟩ | ⟨b32, hv0, hn_b32, hk_b32, hF⟩
              · refine zz_eq (lv' := [(0, .ref (bs + v0)), (1, .null), (2, .int v2), (3, .int v3)]) (st' := [.null, .null]) (by first | rfl | (rw [hv0]; rfl) | (rw [hv0]; done)) (by first | rfl | (rw [hv0]; rfl) | (rw [hv0]; done)) ?_
                cases hF
              · refine zz_eq (lv' := [(0, .ref (bs + v0)), (1, .ref (bs + b32)), (2, .int v2), (3, .int v3)]) (st' := [.null, .ref (bs + b32)]) (by first | rfl | (rw [hv0]; rfl) | (rw [hv0]; done)) (by first | rfl | (rw [hv0]; rfl) | (rw [hv0]; done)) ?_
                refine zi_putN C zc_3 (k := 5) (by decide) zw_628 rfl (Or.inl rfl) hn_b32 hk_b32 d_Rd_part_167 (Or.inr ⟨_, rfl⟩) hF (fun M hF => ?_)
                refine zi_aload_n C d_Rd_part_170 rfl 1 rfl ?_
                refine zi_getQ C zc_3 (k := 5) (by decide) zw_628 rfl hn_b32 hk_b32 d_Rd_part_171 (fun _ _ _ => rfl) hF (fun r34 hF => ?_)
                rcases zzopt_e hF with ⟨hv0, hF⟩ | ⟨b35, hv0, hn_b35, hk_b35, hF⟩
                · refine zz_eq (lv' := [(0, .ref (bs + v0)), (1, .ref (bs + b32)), (2, .int v2), (3, .int v3)]) (st' := [.null]) (by first | rfl | (rw [hv0]; rfl) | (rw [hv0]; done)) (by first | rfl | (rw [hv0]; rfl) | (rw [hv0]; done)) ?_
                  refine zi_ifnullN (tgt := 181) C d_Rd_part_174 (by decide) ?_
                  refine zi_iconst (v := 0) C d_Rd_part_181 (by decide) ?_
                  cases hF
                  exact zi_zret C hlocks hr (by decide +kernel) d_Rd_part_182 rfl rfl rfl rfl
                · refine zz_eq (lv' := [(0, .ref (bs + v0)), (1, .ref (bs + b32)), (2, .int v2), (3, .int v3)]) (st' := [.ref (bs + b35)]) (by first | rfl | (rw [hv0]; rfl) | (rw [hv0]; done)) (by first | rfl | (rw [hv0]; rfl) | (rw [hv0]; done)) ?_
                  refine zi_ifnull C d_Rd_part_174 ?_
                  refine zi_iconst (v := 1) C d_Rd_part_177 (by decide) ?_
                  refine zi_goto (tgt := 182) C d_Rd_part_178 (by decide) ?_
                  cases hF
                  exact zi_zret C hlocks hr (by decide +kernel) d_Rd_part_182 rfl rfl rfl rfl
            · refine zi_aload_n C d_Rd_part_152 rfl 0 rfl ?_
              refine zi_getR C zc_7 (k := 6) (by decide) zw_378 rfl hn_v0 hk_v0 d_Rd_part_153 (fun _ _ _ => rfl) hF (fun b36 hn_b36 hk_b36 hF => ?_)
              refine zi_aload_n C d_Rd_part_156 rfl 0 rfl ?_
              refine zi_getI C zc_7 (k := 7) (by decide) zw_377 rfl hn_v0 hk_v0 d_Rd_part_157 (fun _ _ _ => rfl) hF (fun x37 hF => ?_)
              obtain ⟨r38, S1, M1, hqr38, h1, h2, h3, h4, hF⟩ := zzcallA_e hF
              refine zi_callAS (n := 2) (S1 := S1) (M1 := M1) (res := some (zzrf bs r38)) (As := [.ref (bs + b36), .int x37]) (st := [zzrf bs v1]) C E hm (c_Ar_copyOf (out := (r38, S1, M1)) (zzE.hA E hm) hAb hXs (fun U h => (hnx U h).1) hqr38 ⟨h1, h2⟩ ) h1 h2 h3 h4 zw_619 zw_318 (by decide +kernel) ⟨by show _ ≤ fr + 1; omega, by show _ ≤ lo + 60; omega⟩ rfl (by cases v1 <;> exact Nat.le_of_ble_eq_true rfl) zw_620 zw_621 rfl d_Rd_part_160 (fun hm ho => ?_)
              clear h1 h2 h3 h4
              generalize S1 = S at hF hm ho ⊢
              generalize M1 = M at hF ⊢
              refine zz_eq (lv' := [(0, .ref (bs + v0)), (1, zzrf bs v1), (2, .int v2), (3, .int v3)]) (st' := [zzrf bs r38, zzrf bs v1]) rfl rfl ?_
              refine zi_goto (tgt := 167) C d_Rd_part_163 (by decide) ?_
              rcases zzopt_e hF with ⟨hv0, hF⟩ | ⟨b39, hv0, hn_b39, hk_b39, hF⟩
              · refine zz_eq (lv' := [(0, .ref (bs + v0)), (1, .null), (2, .int v2), (3, .int v3)]) (st' := [zzrf bs r38, .null]) (by first | rfl | (rw [hv0]; rfl) | (rw [hv0]; done)) (by first | rfl | (rw [hv0]; rfl) | (rw [hv0]; done)) ?_
                cases hF
              · refine zz_eq (lv' := [(0, .ref (bs + v0)), (1, .ref (bs + b39)), (2, .int v2), (3, .int v3)]) (st' := [zzrf bs r38, .ref (bs + b39)]) (by first | rfl | (rw [hv0]; rfl) | (rw [hv0]; done)) (by first | rfl | (rw [hv0]; rfl) | (rw [hv0]; done)) ?_
                refine zi_putO C zc_3 (k := 5) (by decide) zw_628 rfl (Or.inl rfl) hn_b39 hk_b39 d_Rd_part_167 (Or.inr ⟨_, rfl⟩) hF (fun M hF => ?_)
                refine zi_aload_n C d_Rd_part_170 rfl 1 rfl ?_
                refine zi_getQ C zc_3 (k := 5) (by decide) zw_628 rfl hn_b39 hk_b39 d_Rd_part_171 (fun _ _ _ => rfl) hF (fun r41 hF => ?_)
                rcases zzopt_e hF with ⟨hv0, hF⟩ | ⟨b42, hv0, hn_b42, hk_b42, hF⟩
                · refine zz_eq (lv' := [(0, .ref (bs + v0)), (1, .ref (bs + b39)), (2, .int v2), (3, .int v3)]) (st' := [.null]) (by first | rfl | (rw [hv0]; rfl) | (rw [hv0]; done)) (by first | rfl | (rw [hv0]; rfl) | (rw [hv0]; done)) ?_
                  refine zi_ifnullN (tgt := 181) C d_Rd_part_174 (by decide) ?_
                  refine zi_iconst (v := 0) C d_Rd_part_181 (by decide) ?_
                  cases hF
                  exact zi_zret C hlocks hr (by decide +kernel) d_Rd_part_182 rfl rfl rfl rfl
                · refine zz_eq (lv' := [(0, .ref (bs + v0)), (1, .ref (bs + b39)), (2, .int v2), (3, .int v3)]) (st' := [.ref (bs + b42)]) (by first | rfl | (rw [hv0]; rfl) | (rw [hv0]; done)) (by first | rfl | (rw [hv0]; rfl) | (rw [hv0]; done)) ?_
                  refine zi_ifnull C d_Rd_part_174 ?_
                  refine zi_iconst (v := 1) C d_Rd_part_177 (by decide) ?_
                  refine zi_goto (tgt := 182) C d_Rd_part_178 (by decide) ?_
                  cases hF
                  exact zi_zret C hlocks hr (by decide +kernel) d_Rd_part_182 rfl rfl rfl rfl
          · rw [if_neg hs30] at hF
            by_cases hs43 : v2 = (70 : Int32)
            · rw [if_pos hs43] at hF
              refine zi_tableIn C d_Rd_part_1 204 205 (by rw [hs43]; decide) (by rw [hs43]; decide) (by rw [hs43]; decide +kernel) (by decide) ?_
              refine zi_aload_n C d_Rd_part_205 rfl 0 rfl ?_
              refine zi_aload_nO C d_Rd_part_206 rfl 1 rfl ?_
              refine zi_iload_n C d_Rd_part_207 rfl 3 rfl ?_
              obtain ⟨r44, M, hqr44, hF⟩ := zzcall_e hF
              refine zi_callV_i (M2 := M) (r := r44) (n := 2) (As := [zzrf bs v1, .int v3]) (st := []) C (c_Rd_newFunction hqr44 hn_v0 hk_v0) zw_629 zw_367 (by decide +kernel) ⟨by show _ ≤ fr + 1; omega, by show _ ≤ lo + 60; omega⟩ rfl (Nat.le_of_ble_eq_true rfl) (zz_hf hm ho) zw_630 zw_631 zw_632 zc_7.1 hn_v0 hk_v0 rfl d_Rd_part_208 ?_
              obtain ⟨hok, hF⟩ := zzck_e hF
              cases hF
              exact zi_zret C hlocks hr (zzokZ_n hok).1 d_Rd_part_211 rfl rfl rfl rfl
            · rw [if_neg hs43] at hF
              by_cases hs45 : v2 = (71 : Int32)
              · rw [if_pos hs45] at hF
                refine zi_tableIn C d_Rd_part_1 342 343 (by rw [hs45]; decide) (by rw [hs45]; decide) (by rw [hs45]; decide +kernel) (by decide) ?_
                refine zi_aload_n C d_Rd_part_343 rfl 0 rfl ?_
                refine zi_iload_n C d_Rd_part_344 rfl 2 rfl ?_
                obtain ⟨r46, M, hqr46, hF⟩ := zzcall_e hF
                refine zi_callV_i (M2 := M) (r := r46) (n := 1) (As := [.int v2]) (st := []) C (c_Rd_take hqr46 hn_v0 hk_v0) zw_430 zw_367 (by decide +kernel) ⟨by show _ ≤ fr + 1; omega, by show _ ≤ lo + 60; omega⟩ rfl (Nat.le_of_ble_eq_true rfl) (zz_hf hm ho) zw_431 zw_432 zw_433 zc_7.1 hn_v0 hk_v0 rfl d_Rd_part_345 ?_
                obtain ⟨hok, hF⟩ := zzck_e hF
                cases hF
                exact zi_zret C hlocks hr (zzokZ_n hok).1 d_Rd_part_348 rfl rfl rfl rfl
              · rw [if_neg hs45] at hF
                by_cases hs47 : v2 = (72 : Int32)
                · rw [if_pos hs47] at hF
                  refine zi_tableIn C d_Rd_part_1 342 343 (by rw [hs47]; decide) (by rw [hs47]; decide) (by rw [hs47]; decide +kernel) (by decide) ?_
                  refine zi_aload_n C d_Rd_part_343 rfl 0 rfl ?_
                  refine zi_iload_n C d_Rd_part_344 rfl 2 rfl ?_
                  obtain ⟨r48, M, hqr48, hF⟩ := zzcall_e hF
                  refine zi_callV_i (M2 := M) (r := r48) (n := 1) (As := [.int v2]) (st := []) C (c_Rd_take hqr48 hn_v0 hk_v0) zw_430 zw_367 (by decide +kernel) ⟨by show _ ≤ fr + 1; omega, by show _ ≤ lo + 60; omega⟩ rfl (Nat.le_of_ble_eq_true rfl) (zz_hf hm ho) zw_431 zw_432 zw_433 zc_7.1 hn_v0 hk_v0 rfl d_Rd_part_345 ?_
                  obtain ⟨hok, hF⟩ := zzck_e hF
                  cases hF
                  exact zi_zret C hlocks hr (zzokZ_n hok).1 d_Rd_part_348 rfl rfl rfl rfl
                · rw [if_neg hs47] at hF
                  by_cases hs49 : v2 = (73 : Int32)
                  · rw [if_pos hs49] at hF
                    refine zi_tableIn C d_Rd_part_1 342 343 (by rw [hs49]; decide) (by rw [hs49]; decide) (by rw [hs49]; decide +kernel) (by decide) ?_
                    refine zi_aload_n C d_Rd_part_343 rfl 0 rfl ?_
                    refine zi_iload_n C d_Rd_part_344 rfl 2 rfl ?_
                    obtain ⟨r50, M, hqr50, hF⟩ := zzcall_e hF
                    refine zi_callV_i (M2 := M) (r := r50) (n := 1) (As := [.int v2]) (st := []) C (c_Rd_take hqr50 hn_v0 hk_v0) zw_430 zw_367 (by decide +kernel) ⟨by show _ ≤ fr + 1; omega, by show _ ≤ lo + 60; omega⟩ rfl (Nat.le_of_ble_eq_true rfl) (zz_hf hm ho) zw_431 zw_432 zw_433 zc_7.1 hn_v0 hk_v0 rfl d_Rd_part_345 ?_
                    obtain ⟨hok, hF⟩ := zzck_e hF
                    cases hF
                    exact zi_zret C hlocks hr (zzokZ_n hok).1 d_Rd_part_348 rfl rfl rfl rfl
                  · rw [if_neg hs49] at hF
                    by_cases hs51 : v2 = (74 : Int32)
                    · rw [if_pos hs51] at hF
                      refine zi_tableIn C d_Rd_part_1 342 343 (by rw [hs51]; decide) (by rw [hs51]; decide) (by rw [hs51]; decide +kernel) (by decide) ?_
                      refine zi_aload_n C d_Rd_part_343 rfl 0 rfl ?_
                      refine zi_iload_n C d_Rd_part_344 rfl 2 rfl ?_
                      obtain ⟨r52, M, hqr52, hF⟩ := zzcall_e hF
                      refine zi_callV_i (M2 := M) (r := r52) (n := 1) (As := [.int v2]) (st := []) C (c_Rd_take hqr52 hn_v0 hk_v0) zw_430 zw_367 (by decide +kernel) ⟨by show _ ≤ fr + 1; omega, by show _ ≤ lo + 60; omega⟩ rfl (Nat.le_of_ble_eq_true rfl) (zz_hf hm ho) zw_431 zw_432 zw_433 zc_7.1 hn_v0 hk_v0 rfl d_Rd_part_345 ?_
                      obtain ⟨hok, hF⟩ := zzck_e hF
                      cases hF
                      exact zi_zret C hlocks hr (zzokZ_n hok).1 d_Rd_part_348 rfl rfl rfl rfl
                    · rw [if_neg hs51] at hF
                      by_cases hs53 : v2 = (75 : Int32)
                      · rw [if_pos hs53] at hF
                        refine zi_tableIn C d_Rd_part_1 342 343 (by rw [hs53]; decide) (by rw [hs53]; decide) (by rw [hs53]; decide +kernel) (by decide) ?_
                        refine zi_aload_n C d_Rd_part_343 rfl 0 rfl ?_
                        refine zi_iload_n C d_Rd_part_344 rfl 2 rfl ?_
                        obtain ⟨r54, M, hqr54, hF⟩ := zzcall_e hF
                        refine zi_callV_i (M2 := M) (r := r54) (n := 1) (As := [.int v2]) (st := []) C (c_Rd_take hqr54 hn_v0 hk_v0) zw_430 zw_367 (by decide +kernel) ⟨by show _ ≤ fr + 1; omega, by show _ ≤ lo + 60; omega⟩ rfl (Nat.le_of_ble_eq_true rfl) (zz_hf hm ho) zw_431 zw_432 zw_433 zc_7.1 hn_v0 hk_v0 rfl d_Rd_part_345 ?_
                        obtain ⟨hok, hF⟩ := zzck_e hF
                        cases hF
                        exact zi_zret C hlocks hr (zzokZ_n hok).1 d_Rd_part_348 rfl rfl rfl rfl
                      · rw [if_neg hs53] at hF
                        by_cases hs55 : v2 = (76 : Int32)
                        · rw [if_pos hs55] at hF
                          refine zi_tableIn C d_Rd_part_1 342 343 (by rw [hs55]; decide) (by rw [hs55]; decide) (by rw [hs55]; decide +kernel) (by decide) ?_
                          refine zi_aload_n C d_Rd_part_343 rfl 0 rfl ?_
                          refine zi_iload_n C d_Rd_part_344 rfl 2 rfl ?_
                          obtain ⟨r56, M, hqr56, hF⟩ := zzcall_e hF
                          refine zi_callV_i (M2 := M) (r := r56) (n := 1) (As := [.int v2]) (st := []) C (c_Rd_take hqr56 hn_v0 hk_v0) zw_430 zw_367 (by decide +kernel) ⟨by show _ ≤ fr + 1; omega, by show _ ≤ lo + 60; omega⟩ rfl (Nat.le_of_ble_eq_true rfl) (zz_hf hm ho) zw_431 zw_432 zw_433 zc_7.1 hn_v0 hk_v0 rfl d_Rd_part_345 ?_
                          obtain ⟨hok, hF⟩ := zzck_e hF
                          cases hF
                          exact zi_zret C hlocks hr (zzokZ_n hok).1 d_Rd_part_348 rfl rfl rfl rfl
                        · rw [if_neg hs55] at hF
                          by_cases hs57 : v2 = (77 : Int32)
                          · rw [if_pos hs57] at hF
                            refine zi_tableIn C d_Rd_part_1 342 343 (by rw [hs57]; decide) (by rw [hs57]; decide) (by rw [hs57]; decide +kernel) (by decide) ?_
                            refine zi_aload_n C d_Rd_part_343 rfl 0 rfl ?_
                            refine zi_iload_n C d_Rd_part_344 rfl 2 rfl ?_
                            obtain ⟨r58, M, hqr58, hF⟩ := zzcall_e hF
                            refine zi_callV_i (M2 := M) (r := r58) (n := 1) (As := [.int v2]) (st := []) C (c_Rd_take hqr58 hn_v0 hk_v0) zw_430 zw_367 (by decide +kernel) ⟨by show _ ≤ fr + 1; omega, by show _ ≤ lo + 60; omega⟩ rfl (Nat.le_of_ble_eq_true rfl) (zz_hf hm ho) zw_431 zw_432 zw_433 zc_7.1 hn_v0 hk_v0 rfl d_Rd_part_345 ?_
                            obtain ⟨hok, hF⟩ := zzck_e hF
                            cases hF
                            exact zi_zret C hlocks hr (zzokZ_n hok).1 d_Rd_part_348 rfl rfl rfl rfl
                          · rw [if_neg hs57] at hF
                            by_cases hs59 : v2 = (78 : Int32)
                            · rw [if_pos hs59] at hF
                              refine zi_tableIn C d_Rd_part_1 342 343 (by rw [hs59]; decide) (by rw [hs59]; decide) (by rw [hs59]; decide +kernel) (by decide) ?_
                              refine zi_aload_n C d_Rd_part_343 rfl 0 rfl ?_
                              refine zi_iload_n C d_Rd_part_344 rfl 2 rfl ?_
                              obtain ⟨r60, M, hqr60, hF⟩ := zzcall_e hF
                              refine zi_callV_i (M2 := M) (r := r60) (n := 1) (As := [.int v2]) (st := []) C (c_Rd_take hqr60 hn_v0 hk_v0) zw_430 zw_367 (by decide +kernel) ⟨by show _ ≤ fr + 1; omega, by show _ ≤ lo + 60; omega⟩ rfl (Nat.le_of_ble_eq_true rfl) (zz_hf hm ho) zw_431 zw_432 zw_433 zc_7.1 hn_v0 hk_v0 rfl d_Rd_part_345 ?_
                              obtain ⟨hok, hF⟩ := zzck_e hF
                              cases hF
                              exact zi_zret C hlocks hr (zzokZ_n hok).1 d_Rd_part_348 rfl rfl rfl rfl
                            · rw [if_neg hs59] at hF
                              by_cases hs61 : v2 = (79 : Int32)
                              · rw [if_pos hs61] at hF
                                refine zi_tableIn C d_Rd_part_1 263 264 (by rw [hs61]; decide) (by rw [hs61]; decide) (by rw [hs61]; decide +kernel) (by decide) ?_
                                refine zi_aload_nO C d_Rd_part_264 rfl 1 rfl ?_
                                refine zi_aload_n C d_Rd_part_265 rfl 0 rfl ?_
                                obtain ⟨r62, M, hqr62, hF⟩ := zzcall_e hF
                                refine zi_callV_i (M2 := M) (r := r62) (n := 0) (As := []) (st := [zzrf bs v1]) C (c_Rd_peek hqr62 hn_v0 hk_v0) zw_366 zw_367 (by decide +kernel) ⟨by show _ ≤ fr + 1; omega, by show _ ≤ lo + 60; omega⟩ rfl (by cases v1 <;> exact Nat.le_of_ble_eq_true rfl) (zz_hf hm ho) zw_368 zw_369 zw_370 zc_7.1 hn_v0 hk_v0 rfl d_Rd_part_266 ?_
                                refine zi_bipush (v := 123) C d_Rd_part_269 (by decide) ?_
                                refine zi_icmp_ne (tgt := 286) C d_Rd_part_271 (by decide) hF (fun hF => ?_) (fun hF => ?_)
                                · refine zi_new C E hm zc_2 (by decide +kernel) zw_593 zw_578 zw_547 d_Rd_part_286 hF (fun b63 S M hn_b63 hk_b63 hm ho hF => ?_)
                                  refine zi_dup C d_Rd_part_289 rfl ?_
                                  obtain ⟨r64, M, hqr64, hF⟩ := zzcall_e hF
                                  refine zi_callIN0 (M2 := M) (n := 0) (As := []) (st := [.ref (bs + b63), zzrf bs v1]) C E hm (c_Bl_init hqr64 hn_b63 hk_b63) zw_546 zw_547 (by decide +kernel) ⟨by show _ ≤ fr + 1; omega, by show _ ≤ lo + 60; omega⟩ rfl (by cases v1 <;> exact Nat.le_of_ble_eq_true rfl) (zz_hf hm ho) (fun hx => (hnx _ hx).1.2.2.2.2.1) zw_548 rfl rfl d_Rd_part_290 ?_
                                  rcases zzopt_e hF with ⟨hv0, hF⟩ | ⟨b65, hv0, hn_b65, hk_b65, hF⟩
                                  · refine zz_eq (lv' := [(0, .ref (bs + v0)), (1, .null), (2, .int v2), (3, .int v3)]) (st' := [.ref (bs + b63), .null]) (by first | rfl | (rw [hv0]; rfl) | (rw [hv0]; done)) (by first | rfl | (rw [hv0]; rfl) | (rw [hv0]; done)) ?_
                                    cases hF
                                  · refine zz_eq (lv' := [(0, .ref (bs + v0)), (1, .ref (bs + b65)), (2, .int v2), (3, .int v3)]) (st' := [.ref (bs + b63), .ref (bs + b65)]) (by first | rfl | (rw [hv0]; rfl) | (rw [hv0]; done)) (by first | rfl | (rw [hv0]; rfl) | (rw [hv0]; done)) ?_
                                    refine zi_putR C zc_3 (k := 7) (by decide) zw_627 rfl (Or.inl rfl) hn_b65 hk_b65 d_Rd_part_293 (Or.inl ⟨_, rfl⟩) hF (fun M hF => ?_)
                                    refine zi_aload_n C d_Rd_part_296 rfl 1 rfl ?_
                                    refine zi_getQ C zc_3 (k := 7) (by decide) zw_627 rfl hn_b65 hk_b65 d_Rd_part_297 (fun _ _ _ => rfl) hF (fun r67 hF => ?_)
                                    rcases zzopt_e hF with ⟨hv0, hF⟩ | ⟨b68, hv0, hn_b68, hk_b68, hF⟩
                                    · refine zz_eq (lv' := [(0, .ref (bs + v0)), (1, .ref (bs + b65)), (2, .int v2), (3, .int v3)]) (st' := [.null]) (by first | rfl | (rw [hv0]; rfl) | (rw [hv0]; done)) (by first | rfl | (rw [hv0]; rfl) | (rw [hv0]; done)) ?_
                                      refine zi_ifnullN (tgt := 307) C d_Rd_part_300 (by decide) ?_
                                      refine zi_iconst (v := 0) C d_Rd_part_307 (by decide) ?_
                                      cases hF
                                      exact zi_zret C hlocks hr (by decide +kernel) d_Rd_part_308 rfl rfl rfl rfl
                                    · refine zz_eq (lv' := [(0, .ref (bs + v0)), (1, .ref (bs + b65)), (2, .int v2), (3, .int v3)]) (st' := [.ref (bs + b68)]) (by first | rfl | (rw [hv0]; rfl) | (rw [hv0]; done)) (by first | rfl | (rw [hv0]; rfl) | (rw [hv0]; done)) ?_
                                      refine zi_ifnull C d_Rd_part_300 ?_
                                      refine zi_iconst (v := 1) C d_Rd_part_303 (by decide) ?_
                                      refine zi_goto (tgt := 308) C d_Rd_part_304 (by decide) ?_
                                      cases hF
                                      exact zi_zret C hlocks hr (by decide +kernel) d_Rd_part_308 rfl rfl rfl rfl
                                · refine zi_aload_n C d_Rd_part_274 rfl 0 rfl ?_
                                  refine zi_bipush (v := 123) C d_Rd_part_275 (by decide) ?_
                                  refine zi_bipush (v := 125) C d_Rd_part_277 (by decide) ?_
                                  refine zi_iload_n C d_Rd_part_279 rfl 3 rfl ?_
                                  obtain ⟨r69, S1, M1, hqr69, h1, h2, h3, h4, hF⟩ := zzcallA_e hF
                                  refine zi_callAV (n := 3) (S1 := S1) (M1 := M1) (res := some (zzrf bs r69)) (As := [.int (123 : Int32), .int (125 : Int32), .int v3]) (st := [zzrf bs v1]) C E hm (hc_Rd_enclosed (out := (r69, S1, M1)) (zzE.hA E hm)  hqr69 ⟨h1, h2⟩ hn_v0 hk_v0) h1 h2 h3 h4 zw_622 zw_367 (by decide +kernel) ⟨Nat.le_refl _, by show _ ≤ lo + 60; omega⟩ rfl (by cases v1 <;> exact Nat.le_of_ble_eq_true rfl) zw_623 zw_624 zw_625 zc_7.1 hn_v0 hk_v0 rfl d_Rd_part_280 (fun hm ho => ?_)
                                  clear h1 h2 h3 h4
                                  generalize S1 = S at hF hm ho ⊢
                                  generalize M1 = M at hF ⊢
                                  refine zz_eq (lv' := [(0, .ref (bs + v0)), (1, zzrf bs v1), (2, .int v2), (3, .int v3)]) (st' := [zzrf bs r69, zzrf bs v1]) rfl rfl ?_
                                  refine zi_goto (tgt := 293) C d_Rd_part_283 (by decide) ?_
                                  rcases zzopt_e hF with ⟨hv0, hF⟩ | ⟨b70, hv0, hn_b70, hk_b70, hF⟩
                                  · refine zz_eq (lv' := [(0, .ref (bs + v0)), (1, .null), (2, .int v2), (3, .int v3)]) (st' := [zzrf bs r69, .null]) (by first | rfl | (rw [hv0]; rfl) | (rw [hv0]; done)) (by first | rfl | (rw [hv0]; rfl) | (rw [hv0]; done)) ?_
                                    cases hF
                                  · refine zz_eq (lv' := [(0, .ref (bs + v0)), (1, .ref (bs + b70)), (2, .int v2), (3, .int v3)]) (st' := [zzrf bs r69, .ref (bs + b70)]) (by first | rfl | (rw [hv0]; rfl) | (rw [hv0]; done)) (by first | rfl | (rw [hv0]; rfl) | (rw [hv0]; done)) ?_
                                    refine zi_putO C zc_3 (k := 7) (by decide) zw_627 rfl (Or.inl rfl) hn_b70 hk_b70 d_Rd_part_293 (Or.inl ⟨_, rfl⟩) hF (fun M hF => ?_)
                                    refine zi_aload_n C d_Rd_part_296 rfl 1 rfl ?_
                                    refine zi_getQ C zc_3 (k := 7) (by decide) zw_627 rfl hn_b70 hk_b70 d_Rd_part_297 (fun _ _ _ => rfl) hF (fun r72 hF => ?_)
                                    rcases zzopt_e hF with ⟨hv0, hF⟩ | ⟨b73, hv0, hn_b73, hk_b73, hF⟩
                                    · refine zz_eq (lv' := [(0, .ref (bs + v0)), (1, .ref (bs + b70)), (2, .int v2), (3, .int v3)]) (st' := [.null]) (by first | rfl | (rw [hv0]; rfl) | (rw [hv0]; done)) (by first | rfl | (rw [hv0]; rfl) | (rw [hv0]; done)) ?_
                                      refine zi_ifnullN (tgt := 307) C d_Rd_part_300 (by decide) ?_
                                      refine zi_iconst (v := 0) C d_Rd_part_307 (by decide) ?_
                                      cases hF
                                      exact zi_zret C hlocks hr (by decide +kernel) d_Rd_part_308 rfl rfl rfl rfl
                                    · refine zz_eq (lv' := [(0, .ref (bs + v0)), (1, .ref (bs + b70)), (2, .int v2), (3, .int v3)]) (st' := [.ref (bs + b73)]) (by first | rfl | (rw [hv0]; rfl) | (rw [hv0]; done)) (by first | rfl | (rw [hv0]; rfl) | (rw [hv0]; done)) ?_
                                      refine zi_ifnull C d_Rd_part_300 ?_
                                      refine zi_iconst (v := 1) C d_Rd_part_303 (by decide) ?_
                                      refine zi_goto (tgt := 308) C d_Rd_part_304 (by decide) ?_
                                      cases hF
                                      exact zi_zret C hlocks hr (by decide +kernel) d_Rd_part_308 rfl rfl rfl rfl
                              · rw [if_neg hs61] at hF
                                by_cases hs74 : v2 = (80 : Int32)
                                · rw [if_pos hs74] at hF
                                  refine zi_tableIn C d_Rd_part_1 342 343 (by rw [hs74]; decide) (by rw [hs74]; decide) (by rw [hs74]; decide +kernel) (by decide) ?_
                                  refine zi_aload_n C d_Rd_part_343 rfl 0 rfl ?_
                                  refine zi_iload_n C d_Rd_part_344 rfl 2 rfl ?_
                                  obtain ⟨r75, M, hqr75, hF⟩ := zzcall_e hF
                                  refine zi_callV_i (M2 := M) (r := r75) (n := 1) (As := [.int v2]) (st := []) C (c_Rd_take hqr75 hn_v0 hk_v0) zw_430 zw_367 (by decide +kernel) ⟨by show _ ≤ fr + 1; omega, by show _ ≤ lo + 60; omega⟩ rfl (Nat.le_of_ble_eq_true rfl) (zz_hf hm ho) zw_431 zw_432 zw_433 zc_7.1 hn_v0 hk_v0 rfl d_Rd_part_345 ?_
                                  obtain ⟨hok, hF⟩ := zzck_e hF
                                  cases hF
                                  exact zi_zret C hlocks hr (zzokZ_n hok).1 d_Rd_part_348 rfl rfl rfl rfl
                                · rw [if_neg hs74] at hF
                                  by_cases hs76 : v2 = (81 : Int32)
                                  · rw [if_pos hs76] at hF
                                    refine zi_tableIn C d_Rd_part_1 342 343 (by rw [hs76]; decide) (by rw [hs76]; decide) (by rw [hs76]; decide +kernel) (by decide) ?_
                                    refine zi_aload_n C d_Rd_part_343 rfl 0 rfl ?_
                                    refine zi_iload_n C d_Rd_part_344 rfl 2 rfl ?_
                                    obtain ⟨r77, M, hqr77, hF⟩ := zzcall_e hF
                                    refine zi_callV_i (M2 := M) (r := r77) (n := 1) (As := [.int v2]) (st := []) C (c_Rd_take hqr77 hn_v0 hk_v0) zw_430 zw_367 (by decide +kernel) ⟨by show _ ≤ fr + 1; omega, by show _ ≤ lo + 60; omega⟩ rfl (Nat.le_of_ble_eq_true rfl) (zz_hf hm ho) zw_431 zw_432 zw_433 zc_7.1 hn_v0 hk_v0 rfl d_Rd_part_345 ?_
                                    obtain ⟨hok, hF⟩ := zzck_e hF
                                    cases hF
                                    exact zi_zret C hlocks hr (zzokZ_n hok).1 d_Rd_part_348 rfl rfl rfl rfl
                                  · rw [if_neg hs76] at hF
                                    by_cases hs78 : v2 = (82 : Int32)
                                    · rw [if_pos hs78] at hF
                                      refine zi_tableIn C d_Rd_part_1 342 343 (by rw [hs78]; decide) (by rw [hs78]; decide) (by rw [hs78]; decide +kernel) (by decide) ?_
                                      refine zi_aload_n C d_Rd_part_343 rfl 0 rfl ?_
                                      refine zi_iload_n C d_Rd_part_344 rfl 2 rfl ?_
                                      obtain ⟨r79, M, hqr79, hF⟩ := zzcall_e hF
                                      refine zi_callV_i (M2 := M) (r := r79) (n := 1) (As := [.int v2]) (st := []) C (c_Rd_take hqr79 hn_v0 hk_v0) zw_430 zw_367 (by decide +kernel) ⟨by show _ ≤ fr + 1; omega, by show _ ≤ lo + 60; omega⟩ rfl (Nat.le_of_ble_eq_true rfl) (zz_hf hm ho) zw_431 zw_432 zw_433 zc_7.1 hn_v0 hk_v0 rfl d_Rd_part_345 ?_
                                      obtain ⟨hok, hF⟩ := zzck_e hF
                                      cases hF
                                      exact zi_zret C hlocks hr (zzokZ_n hok).1 d_Rd_part_348 rfl rfl rfl rfl
                                    · rw [if_neg hs78] at hF
                                      by_cases hs80 : v2 = (83 : Int32)
                                      · rw [if_pos hs80] at hF
                                        refine zi_tableIn C d_Rd_part_1 308 309 (by rw [hs80]; decide) (by rw [hs80]; decide) (by rw [hs80]; decide +kernel) (by decide) ?_
                                        refine zi_aload_n C d_Rd_part_309 rfl 0 rfl ?_
                                        refine zi_aload_nO C d_Rd_part_310 rfl 1 rfl ?_
                                        rcases zzopt_e hF with ⟨hv0, hF⟩ | ⟨b81, hv0, hn_b81, hk_b81, hF⟩
                                        · refine zz_eq (lv' := [(0, .ref (bs + v0)), (1, .null), (2, .int v2), (3, .int v3)]) (st' := [.null, .ref (bs + v0)]) (by first | rfl | (rw [hv0]; rfl) | (rw [hv0]; done)) (by first | rfl | (rw [hv0]; rfl) | (rw [hv0]; done)) ?_
                                          cases hF
                                        · refine zz_eq (lv' := [(0, .ref (bs + v0)), (1, .ref (bs + b81)), (2, .int v2), (3, .int v3)]) (st' := [.ref (bs + b81), .ref (bs + v0)]) (by first | rfl | (rw [hv0]; rfl) | (rw [hv0]; done)) (by first | rfl | (rw [hv0]; rfl) | (rw [hv0]; done)) ?_
                                          refine zi_getI C zc_3 (k := 1) (by decide) zw_375 rfl hn_b81 hk_b81 d_Rd_part_311 (fun _ _ _ => rfl) hF (fun x82 hF => ?_)
                                          refine zi_putI C zc_7 (k := 2) (by decide) zw_362 rfl (Or.inl rfl) hn_v0 hk_v0 d_Rd_part_314 rfl hF (fun M hF => ?_)
                                          refine zi_aload_n C d_Rd_part_317 rfl 1 rfl ?_
                                          refine zi_aload_n C d_Rd_part_318 rfl 0 rfl ?_
                                          refine zi_bipush (v := 91) C d_Rd_part_319 (by decide) ?_
                                          refine zi_bipush (v := 93) C d_Rd_part_321 (by decide) ?_
                                          refine zi_iload_n C d_Rd_part_323 rfl 3 rfl ?_
                                          obtain ⟨r83, S1, M1, hqr83, h1, h2, h3, h4, hF⟩ := zzcallA_e hF
                                          refine zi_callAV (n := 3) (S1 := S1) (M1 := M1) (res := some (zzrf bs r83)) (As := [.int (91 : Int32), .int (93 : Int32), .int v3]) (st := [.ref (bs + b81)]) C E hm (hc_Rd_enclosed (out := (r83, S1, M1)) (zzE.hA E hm)  hqr83 ⟨h1, h2⟩ hn_v0 hk_v0) h1 h2 h3 h4 zw_622 zw_367 (by decide +kernel) ⟨Nat.le_refl _, by show _ ≤ lo + 60; omega⟩ rfl (Nat.le_of_ble_eq_true rfl) zw_623 zw_624 zw_625 zc_7.1 hn_v0 hk_v0 rfl d_Rd_part_324 (fun hm ho => ?_)
                                          clear h1 h2 h3 h4
                                          generalize S1 = S at hF hm ho ⊢
                                          generalize M1 = M at hF ⊢
                                          refine zz_eq (lv' := [(0, .ref (bs + v0)), (1, .ref (bs + b81)), (2, .int v2), (3, .int v3)]) (st' := [zzrf bs r83, .ref (bs + b81)]) rfl rfl ?_
                                          obtain ⟨hh, hF⟩ := zzck_e hF
                                          obtain ⟨hn_b81, hk_b81⟩ := of_decide_eq_true hh
                                          refine zi_putO C zc_3 (k := 6) (by decide) zw_626 rfl (Or.inl rfl) hn_b81 hk_b81 d_Rd_part_327 (Or.inl ⟨_, rfl⟩) hF (fun M hF => ?_)
                                          refine zi_aload_n C d_Rd_part_330 rfl 1 rfl ?_
                                          refine zi_getQ C zc_3 (k := 6) (by decide) zw_626 rfl hn_b81 hk_b81 d_Rd_part_331 (fun _ _ _ => rfl) hF (fun r85 hF => ?_)
                                          rcases zzopt_e hF with ⟨hv0, hF⟩ | ⟨b86, hv0, hn_b86, hk_b86, hF⟩
                                          · refine zz_eq (lv' := [(0, .ref (bs + v0)), (1, .ref (bs + b81)), (2, .int v2), (3, .int v3)]) (st' := [.null]) (by first | rfl | (rw [hv0]; rfl) | (rw [hv0]; done)) (by first | rfl | (rw [hv0]; rfl) | (rw [hv0]; done)) ?_
                                            refine zi_ifnullN (tgt := 341) C d_Rd_part_334 (by decide) ?_
                                            refine zi_iconst (v := 0) C d_Rd_part_341 (by decide) ?_
                                            cases hF
                                            exact zi_zret C hlocks hr (by decide +kernel) d_Rd_part_342 rfl rfl rfl rfl
                                          · refine zz_eq (lv' := [(0, .ref (bs + v0)), (1, .ref (bs + b81)), (2, .int v2), (3, .int v3)]) (st' := [.ref (bs + b86)]) (by first | rfl | (rw [hv0]; rfl) | (rw [hv0]; done)) (by first | rfl | (rw [hv0]; rfl) | (rw [hv0]; done)) ?_
                                            refine zi_ifnull C d_Rd_part_334 ?_
                                            refine zi_iconst (v := 1) C d_Rd_part_337 (by decide) ?_
                                            refine zi_goto (tgt := 342) C d_Rd_part_338 (by decide) ?_
                                            cases hF
                                            exact zi_zret C hlocks hr (by decide +kernel) d_Rd_part_342 rfl rfl rfl rfl
                                      · rw [if_neg hs80] at hF
                                        refine zi_tableOut C d_Rd_part_1 343 (by have q0 : (v2).toInt ≠ 65 := zz_ne hs1 (by decide); have q1 : (v2).toInt ≠ 66 := zz_ne hs14 (by decide); have q2 : (v2).toInt ≠ 67 := zz_ne hs20 (by decide); have q3 : (v2).toInt ≠ 68 := zz_ne hs26 (by decide); have q4 : (v2).toInt ≠ 69 := zz_ne hs30 (by decide); have q5 : (v2).toInt ≠ 70 := zz_ne hs43 (by decide); have q6 : (v2).toInt ≠ 71 := zz_ne hs45 (by decide); have q7 : (v2).toInt ≠ 72 := zz_ne hs47 (by decide); have q8 : (v2).toInt ≠ 73 := zz_ne hs49 (by decide); have q9 : (v2).toInt ≠ 74 := zz_ne hs51 (by decide); have q10 : (v2).toInt ≠ 75 := zz_ne hs53 (by decide); have q11 : (v2).toInt ≠ 76 := zz_ne hs55 (by decide); have q12 : (v2).toInt ≠ 77 := zz_ne hs57 (by decide); have q13 : (v2).toInt ≠ 78 := zz_ne hs59 (by decide); have q14 : (v2).toInt ≠ 79 := zz_ne hs61 (by decide); have q15 : (v2).toInt ≠ 80 := zz_ne hs74 (by decide); have q16 : (v2).toInt ≠ 81 := zz_ne hs76 (by decide); have q17 : (v2).toInt ≠ 82 := zz_ne hs78 (by decide); have q18 : (v2).toInt ≠ 83 := zz_ne hs80 (by decide); omega) (by decide) ?_
                                        refine zi_aload_n C d_Rd_part_343 rfl 0 rfl ?_
                                        refine zi_iload_n C d_Rd_part_344 rfl 2 rfl ?_
                                        obtain ⟨r87, M, hqr87, hF⟩ := zzcall_e hF
                                        refine zi_callV_i (M2 := M) (r := r87) (n := 1) (As := [.int v2]) (st := []) C (c_Rd_take hqr87 hn_v0 hk_v0) zw_430 zw_367 (by decide +kernel) ⟨by show _ ≤ fr + 1; omega, by show _ ≤ lo + 60; omega⟩ rfl (Nat.le_of_ble_eq_true rfl) (zz_hf hm ho) zw_431 zw_432 zw_433 zc_7.1 hn_v0 hk_v0 rfl d_Rd_part_345 ?_
                                        obtain ⟨hok, hF⟩ := zzck_e hF
                                        cases hF
                                        exact zi_zret C hlocks hr (zzokZ_n hok).1 d_Rd_part_348 rfl rfl rfl rfl
def F_Rd_enclosed (k_Rd_block : zzS → zzM → Nat → Int32 → Int32 → Option (Option Nat × zzS × zzM)) (k_Rd_statement : zzS → zzM → Nat → Int32 → Option (Option Nat × zzS × zzM)) (k_Rd_part : zzS → zzM → Nat → Option Nat → Int32 → Int32 → Option (Int32 × zzS × zzM)) (k_Rd_enclosed : zzS → zzM → Nat → Int32 → Int32 → Int32 → Option (Option Nat × zzS × zzM)) (S : zzS) (M : zzM) (v0 : Nat) (v1 : Int32) (v2 : Int32) (v3 : Int32) : Option (Option Nat × zzS × zzM) := if (2 : Int32) ≤ v3 then (some (none, S, M)) else (zzcall (F_Rd_take S M v0 v1) fun r1 M => if r1 = 0 then (some (none, S, M)) else (zzlet (v3 + (1 : Int32)) fun x2 => zzcallA S (k_Rd_block S M v0 x2 v2) fun r3 S M => zzopt S 12 r3 (some (none, S, M)) (fun b4 => zzck (zzhas S v0 17) (zzcall (F_Rd_take S M v0 v2) fun r5 M => if r5 = 0 then (some (none, S, M)) else (some (some b4, S, M))))))
set_option maxHeartbeats 4000000 in
set_option maxRecDepth 100000 in
theorem c_Rd_enclosed {l : Launch} {D : zzD} {bs : Nat} {A : Nat → Prop} {X : State → Prop} {S : zzS} {M : zzM} {out : Option Nat × zzS × zzM} {adK adV : Nat → Nat} {v0 : Nat} {v1 : Int32} {v2 : Int32} {v3 : Int32} {k_Rd_block : zzS → zzM → Nat → Int32 → Int32 → Option (Option Nat × zzS × zzM)} {k_Rd_statement : zzS → zzM → Nat → Int32 → Option (Option Nat × zzS × zzM)} {k_Rd_part : zzS → zzM → Nat → Option Nat → Int32 → Int32 → Option (Int32 × zzS × zzM)} {k_Rd_enclosed : zzS → zzM → Nat → Int32 → Int32 → Int32 → Option (Option Nat × zzS × zzM)} {fr lo : Nat} (hA : ∀ q : Nat, bs + S.2.1 ≤ q → A q) (hAb : ∀ q : Nat, A q → bs ≤ q) (hXs : zzStab bs X) (hnx : ∀ U : State, X U → zzXF bs adK adV U) (hfr : 80 ≤ fr) (hlo : 4600 ≤ lo) (hc_Rd_block : ∀ {S : zzS} {M : zzM} {out : Option Nat × zzS × zzM} {v0 : Nat} {v1 : Int32} {v2 : Int32}, (∀ q : Nat, bs + S.2.1 ≤ q → A q) → k_Rd_block S M v0 v1 v2 = some out → zzle S out.2.1 → v0 < S.2.1 → zzk S v0 = 17 → Met l y_Rd_block (Cond.code y_Rd_block prog_5_method_6_code 6 (some (.object "BoardScript$Block")) :: zzW) { frames := fr, cells := out.2.1.2.1 - S.2.1, slots := out.2.1.2.2 - S.2.2, locals := lo } (zzPcX D bs A X S M [.ref (bs + v0), .int v1, .int v2]) (zzQc D bs A out.2.1 out.2.2 (bs + out.2.1.2.1) (some (zzrf bs out.1))) (out.2.1.2.1 - S.2.1) (out.2.1.2.2 - S.2.2) A) (hc_Rd_statement : ∀ {S : zzS} {M : zzM} {out : Option Nat × zzS × zzM} {v0 : Nat} {v1 : Int32}, (∀ q : Nat, bs + S.2.1 ≤ q → A q) → k_Rd_statement S M v0 v1 = some out → zzle S out.2.1 → v0 < S.2.1 → zzk S v0 = 17 → Met l y_Rd_statement (Cond.code y_Rd_statement prog_5_method_7_code 6 (some (.object "BoardScript$Statement")) :: zzW) { frames := fr, cells := out.2.1.2.1 - S.2.1, slots := out.2.1.2.2 - S.2.2, locals := lo } (zzPcX D bs A X S M [.ref (bs + v0), .int v1]) (zzQc D bs A out.2.1 out.2.2 (bs + out.2.1.2.1) (some (zzrf bs out.1))) (out.2.1.2.1 - S.2.1) (out.2.1.2.2 - S.2.2) A) (hc_Rd_part : ∀ {S : zzS} {M : zzM} {out : Int32 × zzS × zzM} {v0 : Nat} {v1 : Option Nat} {v2 : Int32} {v3 : Int32}, (∀ q : Nat, bs + S.2.1 ≤ q → A q) → k_Rd_part S M v0 v1 v2 v3 = some out → zzle S out.2.1 → v0 < S.2.1 → zzk S v0 = 17 → Met l y_Rd_part (Cond.code y_Rd_part prog_5_method_10_code 4 (some .boolean) :: zzW) { frames := fr, cells := out.2.1.2.1 - S.2.1, slots := out.2.1.2.2 - S.2.2, locals := lo } (zzPcX D bs A X S M [.ref (bs + v0), zzrf bs v1, .int v2, .int v3]) (zzQc D bs A out.2.1 out.2.2 (bs + out.2.1.2.1) (some (.int out.1))) (out.2.1.2.1 - S.2.1) (out.2.1.2.2 - S.2.2) A) (hc_Rd_enclosed : ∀ {S : zzS} {M : zzM} {out : Option Nat × zzS × zzM} {v0 : Nat} {v1 : Int32} {v2 : Int32} {v3 : Int32}, (∀ q : Nat, bs + S.2.1 ≤ q → A q) → k_Rd_enclosed S M v0 v1 v2 v3 = some out → zzle S out.2.1 → v0 < S.2.1 → zzk S v0 = 17 → Met l y_Rd_enclosed (Cond.code y_Rd_enclosed prog_5_method_11_code 5 (some (.object "BoardScript$Block")) :: zzW) { frames := fr, cells := out.2.1.2.1 - S.2.1, slots := out.2.1.2.2 - S.2.2, locals := lo } (zzPcX D bs A X S M [.ref (bs + v0), .int v1, .int v2, .int v3]) (zzQc D bs A out.2.1 out.2.2 (bs + out.2.1.2.1) (some (zzrf bs out.1))) (out.2.1.2.1 - S.2.1) (out.2.1.2.2 - S.2.2) A) (hF : F_Rd_enclosed k_Rd_block k_Rd_statement k_Rd_part k_Rd_enclosed S M v0 v1 v2 v3 = some out) (ho : zzle S out.2.1) (hn_v0 : v0 < S.2.1) (hk_v0 : zzk S v0 = 17) : Met l y_Rd_enclosed (Cond.code y_Rd_enclosed prog_5_method_11_code 5 (some (.object "BoardScript$Block")) :: zzW) { frames := fr + 1, cells := out.2.1.2.1 - S.2.1, slots := out.2.1.2.2 - S.2.2, locals := lo + 60 } (zzPcX D bs A X S M [.ref (bs + v0), .int v1, .int v2, .int v3]) (zzQc D bs A out.2.1 out.2.2 (bs + out.2.1.2.1) (some (zzrf bs out.1))) (out.2.1.2.1 - S.2.1) (out.2.1.2.2 - S.2.2) A := by
  refine zz_metA [.ref (bs + v0), .int v1, .int v2, .int v3] (by decide) (Nat.le_of_ble_eq_true rfl) hA hAb hXs (fun p e s m args below meth c C hr hlocks hin E => ?_)
  have hm : zzle S S := ⟨Nat.le_refl _, Nat.le_refl _⟩
  refine zz_eq (lv' := [(0, .ref (bs + v0)), (1, .int v1), (2, .int v2), (3, .int v3)]) (st' := []) rfl rfl ?_
  unfold F_Rd_enclosed at hF
  refine zi_iload_n C d_Rd_enclosed_0 rfl 3 rfl ?_
  refine zi_iconst (v := 2) C d_Rd_enclosed_1 (by decide) ?_
  refine zi_icmp_ge (tgt := 13) C d_Rd_enclosed_2 (by decide) hF (fun hF => ?_) (fun hF => ?_)
  · refine zi_null C d_Rd_enclosed_13 ?_
    cases hF
    exact zi_aret C hlocks hr (Or.inl ⟨_, rfl⟩) (Or.inl rfl) d_Rd_enclosed_14 rfl rfl rfl rfl
  · refine zi_aload_n C d_Rd_enclosed_5 rfl 0 rfl ?_
    refine zi_iload_n C d_Rd_enclosed_6 rfl 1 rfl ?_
    obtain ⟨r1, M, hqr1, hF⟩ := zzcall_e hF
    refine zi_callV_i (M2 := M) (r := r1) (n := 1) (As := [.int v1]) (st := []) C (c_Rd_take hqr1 hn_v0 hk_v0) zw_430 zw_367 (by decide +kernel) ⟨by show _ ≤ fr + 1; omega, by show _ ≤ lo + 60; omega⟩ rfl (Nat.le_of_ble_eq_true rfl) (zz_hf hm ho) zw_431 zw_432 zw_433 zc_7.1 hn_v0 hk_v0 rfl d_Rd_enclosed_7 ?_
    refine zi_if_ne (tgt := 15) C d_Rd_enclosed_10 (by decide) hF (fun hF => ?_) (fun hF => ?_)
    · refine zi_aload_n C d_Rd_enclosed_15 rfl 0 rfl ?_
      refine zi_iload_n C d_Rd_enclosed_16 rfl 3 rfl ?_
      refine zi_iconst (v := 1) C d_Rd_enclosed_17 (by decide) ?_
      refine zi_iadd C d_Rd_enclosed_18 hF (fun x2 hF => ?_)
      refine zi_iload_n C d_Rd_enclosed_19 rfl 2 rfl ?_
      obtain ⟨r3, S1, M1, hqr3, h1, h2, h3, h4, hF⟩ := zzcallA_e hF
      refine zi_callAV (n := 2) (S1 := S1) (M1 := M1) (res := some (zzrf bs r3)) (As := [.int x2, .int v2]) (st := []) C E hm (hc_Rd_block (out := (r3, S1, M1)) (zzE.hA E hm)  hqr3 ⟨h1, h2⟩ hn_v0 hk_v0) h1 h2 h3 h4 zw_633 zw_367 (by decide +kernel) ⟨Nat.le_refl _, by show _ ≤ lo + 60; omega⟩ rfl (Nat.le_of_ble_eq_true rfl) zw_634 zw_635 zw_636 zc_7.1 hn_v0 hk_v0 rfl d_Rd_enclosed_20 (fun hm ho => ?_)
      clear h1 h2 h3 h4
      generalize S1 = S at hF hm ho ⊢
      generalize M1 = M at hF ⊢
      refine zz_eq (lv' := [(0, .ref (bs + v0)), (1, .int v1), (2, .int v2), (3, .int v3)]) (st' := [zzrf bs r3]) rfl rfl ?_
      refine zi_astoreO (lv' := [(4, zzrf bs r3), (0, .ref (bs + v0)), (1, .int v1), (2, .int v2), (3, .int v3)]) C d_Rd_enclosed_23 (by decide) rfl ?_
      refine zi_aloadO C d_Rd_enclosed_25 0 rfl ?_
      rcases zzopt_e hF with ⟨hv0, hF⟩ | ⟨b4, hv0, hn_b4, hk_b4, hF⟩
      · refine zz_eq (lv' := [(4, .null), (0, .ref (bs + v0)), (1, .int v1), (2, .int v2), (3, .int v3)]) (st' := [.null]) (by first | rfl | (rw [hv0]; rfl) | (rw [hv0]; done)) (by first | rfl | (rw [hv0]; rfl) | (rw [hv0]; done)) ?_
        refine zi_ifnullN (tgt := 43) C d_Rd_enclosed_27 (by decide) ?_
        refine zi_null C d_Rd_enclosed_43 ?_
        cases hF
        exact zi_aret C hlocks hr (Or.inl ⟨_, rfl⟩) (Or.inl rfl) d_Rd_enclosed_44 rfl rfl rfl rfl
      · refine zz_eq (lv' := [(4, .ref (bs + b4)), (0, .ref (bs + v0)), (1, .int v1), (2, .int v2), (3, .int v3)]) (st' := [.ref (bs + b4)]) (by first | rfl | (rw [hv0]; rfl) | (rw [hv0]; done)) (by first | rfl | (rw [hv0]; rfl) | (rw [hv0]; done)) ?_
        refine zi_ifnull C d_Rd_enclosed_27 ?_
        refine zi_aload_n C d_Rd_enclosed_30 rfl 1 rfl ?_
        refine zi_iload_n C d_Rd_enclosed_31 rfl 3 rfl ?_
        obtain ⟨hh, hF⟩ := zzck_e hF
        obtain ⟨hn_v0, hk_v0⟩ := of_decide_eq_true hh
        obtain ⟨r5, M, hqr5, hF⟩ := zzcall_e hF
        refine zi_callV_i (M2 := M) (r := r5) (n := 1) (As := [.int v2]) (st := []) C (c_Rd_take hqr5 hn_v0 hk_v0) zw_430 zw_367 (by decide +kernel) ⟨by show _ ≤ fr + 1; omega, by show _ ≤ lo + 60; omega⟩ rfl (Nat.le_of_ble_eq_true rfl) (zz_hf hm ho) zw_431 zw_432 zw_433 zc_7.1 hn_v0 hk_v0 rfl d_Rd_enclosed_32 ?_
        refine zi_if_eq (tgt := 43) C d_Rd_enclosed_35 (by decide) hF (fun hF => ?_) (fun hF => ?_)
        · refine zi_null C d_Rd_enclosed_43 ?_
          cases hF
          exact zi_aret C hlocks hr (Or.inl ⟨_, rfl⟩) (Or.inl rfl) d_Rd_enclosed_44 rfl rfl rfl rfl
        · refine zi_aload C d_Rd_enclosed_38 0 rfl ?_
          refine zi_goto (tgt := 44) C d_Rd_enclosed_40 (by decide) ?_
          cases hF
          exact zi_aret C hlocks hr (Or.inl ⟨_, rfl⟩) (Or.inr ⟨_, rfl⟩) d_Rd_enclosed_44 rfl rfl rfl rfl
    · refine zi_null C d_Rd_enclosed_13 ?_
      cases hF
      exact zi_aret C hlocks hr (Or.inl ⟨_, rfl⟩) (Or.inl rfl) d_Rd_enclosed_14 rfl rfl rfl rfl
def FG_B (n : Nat) : (zzS → zzM → Nat → Int32 → Int32 → Option (Option Nat × zzS × zzM)) × (zzS → zzM → Nat → Int32 → Option (Option Nat × zzS × zzM)) × (zzS → zzM → Nat → Option Nat → Int32 → Int32 → Option (Int32 × zzS × zzM)) × (zzS → zzM → Nat → Int32 → Int32 → Int32 → Option (Option Nat × zzS × zzM)) := Nat.rec ((fun _ _ _ _ _ => none), (fun _ _ _ _ => none), (fun _ _ _ _ _ _ => none), (fun _ _ _ _ _ _ => none)) (fun _ r => (F_Rd_block (r.1) (r.2.1) (r.2.2.1) (r.2.2.2), F_Rd_statement (r.1) (r.2.1) (r.2.2.1) (r.2.2.2), F_Rd_part (r.1) (r.2.1) (r.2.2.1) (r.2.2.2), F_Rd_enclosed (r.1) (r.2.1) (r.2.2.1) (r.2.2.2))) n
def FD_Rd_block (n : Nat) : zzS → zzM → Nat → Int32 → Int32 → Option (Option Nat × zzS × zzM) := (FG_B n).1
def FD_Rd_statement (n : Nat) : zzS → zzM → Nat → Int32 → Option (Option Nat × zzS × zzM) := (FG_B n).2.1
def FD_Rd_part (n : Nat) : zzS → zzM → Nat → Option Nat → Int32 → Int32 → Option (Int32 × zzS × zzM) := (FG_B n).2.2.1
def FD_Rd_enclosed (n : Nat) : zzS → zzM → Nat → Int32 → Int32 → Int32 → Option (Option Nat × zzS × zzM) := (FG_B n).2.2.2
set_option maxHeartbeats 4000000 in
set_option maxRecDepth 100000 in
theorem cG_B {l : Launch} {D : zzD} {bs : Nat} {A : Nat → Prop} {X : State → Prop} {adK adV : Nat → Nat} (hAb : ∀ q : Nat, A q → bs ≤ q) (hXs : zzStab bs X) (hnx : ∀ U : State, X U → zzXF bs adK adV U) : ∀ d : Nat, (∀ {S : zzS} {M : zzM} {out : Option Nat × zzS × zzM} {v0 : Nat} {v1 : Int32} {v2 : Int32}, (∀ q : Nat, bs + S.2.1 ≤ q → A q) → FD_Rd_block d S M v0 v1 v2 = some out → zzle S out.2.1 → v0 < S.2.1 → zzk S v0 = 17 → Met l y_Rd_block (Cond.code y_Rd_block prog_5_method_6_code 6 (some (.object "BoardScript$Block")) :: zzW) { frames := (zzfr 80 d), cells := out.2.1.2.1 - S.2.1, slots := out.2.1.2.2 - S.2.2, locals := (zzlo 4600 d) } (zzPcX D bs A X S M [.ref (bs + v0), .int v1, .int v2]) (zzQc D bs A out.2.1 out.2.2 (bs + out.2.1.2.1) (some (zzrf bs out.1))) (out.2.1.2.1 - S.2.1) (out.2.1.2.2 - S.2.2) A) ∧ (∀ {S : zzS} {M : zzM} {out : Option Nat × zzS × zzM} {v0 : Nat} {v1 : Int32}, (∀ q : Nat, bs + S.2.1 ≤ q → A q) → FD_Rd_statement d S M v0 v1 = some out → zzle S out.2.1 → v0 < S.2.1 → zzk S v0 = 17 → Met l y_Rd_statement (Cond.code y_Rd_statement prog_5_method_7_code 6 (some (.object "BoardScript$Statement")) :: zzW) { frames := (zzfr 80 d), cells := out.2.1.2.1 - S.2.1, slots := out.2.1.2.2 - S.2.2, locals := (zzlo 4600 d) } (zzPcX D bs A X S M [.ref (bs + v0), .int v1]) (zzQc D bs A out.2.1 out.2.2 (bs + out.2.1.2.1) (some (zzrf bs out.1))) (out.2.1.2.1 - S.2.1) (out.2.1.2.2 - S.2.2) A) ∧ (∀ {S : zzS} {M : zzM} {out : Int32 × zzS × zzM} {v0 : Nat} {v1 : Option Nat} {v2 : Int32} {v3 : Int32}, (∀ q : Nat, bs + S.2.1 ≤ q → A q) → FD_Rd_part d S M v0 v1 v2 v3 = some out → zzle S out.2.1 → v0 < S.2.1 → zzk S v0 = 17 → Met l y_Rd_part (Cond.code y_Rd_part prog_5_method_10_code 4 (some .boolean) :: zzW) { frames := (zzfr 80 d), cells := out.2.1.2.1 - S.2.1, slots := out.2.1.2.2 - S.2.2, locals := (zzlo 4600 d) } (zzPcX D bs A X S M [.ref (bs + v0), zzrf bs v1, .int v2, .int v3]) (zzQc D bs A out.2.1 out.2.2 (bs + out.2.1.2.1) (some (.int out.1))) (out.2.1.2.1 - S.2.1) (out.2.1.2.2 - S.2.2) A) ∧ (∀ {S : zzS} {M : zzM} {out : Option Nat × zzS × zzM} {v0 : Nat} {v1 : Int32} {v2 : Int32} {v3 : Int32}, (∀ q : Nat, bs + S.2.1 ≤ q → A q) → FD_Rd_enclosed d S M v0 v1 v2 v3 = some out → zzle S out.2.1 → v0 < S.2.1 → zzk S v0 = 17 → Met l y_Rd_enclosed (Cond.code y_Rd_enclosed prog_5_method_11_code 5 (some (.object "BoardScript$Block")) :: zzW) { frames := (zzfr 80 d), cells := out.2.1.2.1 - S.2.1, slots := out.2.1.2.2 - S.2.2, locals := (zzlo 4600 d) } (zzPcX D bs A X S M [.ref (bs + v0), .int v1, .int v2, .int v3]) (zzQc D bs A out.2.1 out.2.2 (bs + out.2.1.2.1) (some (zzrf bs out.1))) (out.2.1.2.1 - S.2.1) (out.2.1.2.2 - S.2.2) A) := by
  intro d
  induction d with
  | zero => exact ⟨(fun _ h => by cases h), (fun _ h => by cases h), (fun _ h => by cases h), (fun _ h => by cases h)⟩
  | succ d ih =>
    obtain ⟨i0, i1, i2, i3⟩ := ih
    exact ⟨(fun hA h => c_Rd_block hA hAb hXs hnx (zzfr_ge _ d) (zzlo_ge _ d) i0 i1 i2 i3 h), (fun hA h => c_Rd_statement hA hAb hXs hnx (zzfr_ge _ d) (zzlo_ge _ d) i0 i1 i2 i3 h), (fun hA h => c_Rd_part hA hAb hXs hnx (zzfr_ge _ d) (zzlo_ge _ d) i0 i1 i2 i3 h), (fun hA h => c_Rd_enclosed hA hAb hXs hnx (zzfr_ge _ d) (zzlo_ge _ d) i0 i1 i2 i3 h)⟩
def F_Rd_scriptOf  (S : zzS) (M : zzM) (v0 : Nat) (v1 : Option Nat) (v2 : Int32) : Option (Option Nat × zzS × zzM) := zzlet (zzsR M v0 0 v1) fun M => zzopt S 3 v1 (none) (fun b1 => zzlet (Int32.ofNat (zzn S b1)) fun x2 => zzlet (if x2 < v2 then x2 else v2) fun x3 => zzlet (zzsI M v0 1 x3) fun M => zzlet (zzsI M v0 2 (0 : Int32)) fun M => zzlet (zzsI M v0 3 (1 : Int32)) fun M => zzlet (zzsI M v0 4 (0 : Int32)) fun M => zzck (zznn (26 : Int32)) (zzmk S M 4 ((26 : Int32)).toNatClampNeg ((26 : Int32)).toNatClampNeg fun b4 S M => zzck (zzhas S v0 17) (zzlet (zzsR M v0 5 (some b4)) fun M => zzcallA S (FD_Rd_block 60 S M v0 (0 : Int32) (0 : Int32)) fun r5 S M => zzopt S 12 r5 (some (none, S, M)) (fun b6 => zzmk S M 11 0 3 fun b7 S M => zzck (zzhas S v0 17) (zzref S 4 (zzR M v0 5) fun b8 => zzlet (zzI M v0 4) fun x9 => zzcall (F_Sc_init S M b7 (some b6) (some b8) x9) fun r10 M => some (some b7, S, M))))))
set_option maxHeartbeats 4000000 in
set_option maxRecDepth 100000 in
theorem c_Rd_scriptOf {l : Launch} {D : zzD} {bs : Nat} {A : Nat → Prop} {X : State → Prop} {S : zzS} {M : zzM} {out : Option Nat × zzS × zzM} {adK adV : Nat → Nat} {v0 : Nat} {v1 : Option Nat} {v2 : Int32}  (hA : ∀ q : Nat, bs + S.2.1 ≤ q → A q) (hAb : ∀ q : Nat, A q → bs ≤ q) (hXs : zzStab bs X) (hnx : ∀ U : State, X U → zzXF bs adK adV U)  (hF : F_Rd_scriptOf  S M v0 v1 v2 = some out) (ho : zzle S out.2.1) (hn_v0 : v0 < S.2.1) (hk_v0 : zzk S v0 = 17) : Met l y_Rd_scriptOf (Cond.code y_Rd_scriptOf prog_5_method_2_code 4 (some (.object "BoardScript$Script")) :: zzW) { frames := 141, cells := out.2.1.2.1 - S.2.1, slots := out.2.1.2.2 - S.2.2, locals := 8225 } (zzPcX D bs A X S M [.ref (bs + v0), zzrf bs v1, .int v2]) (zzQc D bs A out.2.1 out.2.2 (bs + out.2.1.2.1) (some (zzrf bs out.1))) (out.2.1.2.1 - S.2.1) (out.2.1.2.2 - S.2.2) A := by
  refine zz_metA [.ref (bs + v0), zzrf bs v1, .int v2] (by decide) (by cases v1 <;> exact Nat.le_of_ble_eq_true rfl) hA hAb hXs (fun p e s m args below meth c C hr hlocks hin E => ?_)
  have hm : zzle S S := ⟨Nat.le_refl _, Nat.le_refl _⟩
  refine zz_eq (lv' := [(0, .ref (bs + v0)), (1, zzrf bs v1), (2, .int v2)]) (st' := []) (by cases v1 <;> rfl) rfl ?_
  unfold F_Rd_scriptOf at hF
  refine zi_aload_n C d_Rd_scriptOf_0 rfl 0 rfl ?_
  refine zi_aload_nO C d_Rd_scriptOf_1 rfl 1 rfl ?_
  refine zi_putO C zc_7 (k := 0) (by decide) zw_364 rfl (Or.inl rfl) hn_v0 hk_v0 d_Rd_scriptOf_2 (Or.inr ⟨_, rfl⟩) hF (fun M hF => ?_)
  refine zi_aload_n C d_Rd_scriptOf_5 rfl 0 rfl ?_
  refine zi_iload_n C d_Rd_scriptOf_6 rfl 2 rfl ?_
  refine zi_aload_nO C d_Rd_scriptOf_7 rfl 1 rfl ?_
  rcases zzopt_e hF with ⟨hv0, hF⟩ | ⟨b1, hv0, hn_b1, hk_b1, hF⟩
  · refine zz_eq (lv' := [(0, .ref (bs + v0)), (1, .null), (2, .int v2)]) (st' := [.null, .int v2, .ref (bs + v0)]) (by first | rfl | (rw [hv0]; rfl) | (rw [hv0]; done)) (by first | rfl | (rw [hv0]; rfl) | (rw [hv0]; done)) ?_
    cases hF
  · refine zz_eq (lv' := [(0, .ref (bs + v0)), (1, .ref (bs + b1)), (2, .int v2)]) (st' := [.ref (bs + b1), .int v2, .ref (bs + v0)]) (by first | rfl | (rw [hv0]; rfl) | (rw [hv0]; done)) (by first | rfl | (rw [hv0]; rfl) | (rw [hv0]; done)) ?_
    refine zi_alen C hn_b1 hk_b1 (by decide) (by decide) d_Rd_scriptOf_8 hF (fun x2 hF => ?_)
    refine zi_mmin C zw_639 zw_585 zw_586 zw_587 (Nat.le_of_ble_eq_true rfl) (Nat.le_of_ble_eq_true rfl) (zz_hf hm ho) d_Rd_scriptOf_9 hF (fun x3 hF => ?_)
    refine zi_putI C zc_7 (k := 1) (by decide) zw_363 rfl (Or.inl rfl) hn_v0 hk_v0 d_Rd_scriptOf_12 rfl hF (fun M hF => ?_)
    refine zi_aload_n C d_Rd_scriptOf_15 rfl 0 rfl ?_
    refine zi_iconst (v := 0) C d_Rd_scriptOf_16 (by decide) ?_
    refine zi_putI C zc_7 (k := 2) (by decide) zw_362 rfl (Or.inl rfl) hn_v0 hk_v0 d_Rd_scriptOf_17 rfl hF (fun M hF => ?_)
    refine zi_aload_n C d_Rd_scriptOf_20 rfl 0 rfl ?_
    refine zi_iconst (v := 1) C d_Rd_scriptOf_21 (by decide) ?_
    refine zi_putI C zc_7 (k := 3) (by decide) zw_365 rfl (Or.inl rfl) hn_v0 hk_v0 d_Rd_scriptOf_22 rfl hF (fun M hF => ?_)
    refine zi_aload_n C d_Rd_scriptOf_25 rfl 0 rfl ?_
    refine zi_iconst (v := 0) C d_Rd_scriptOf_26 (by decide) ?_
    refine zi_putI C zc_7 (k := 4) (by decide) zw_609 rfl (Or.inl rfl) hn_v0 hk_v0 d_Rd_scriptOf_27 rfl hF (fun M hF => ?_)
    refine zi_aload_n C d_Rd_scriptOf_30 rfl 0 rfl ?_
    refine zi_bipush (v := 26) C d_Rd_scriptOf_31 (by decide) ?_
    refine zi_anew C E hm zw_543 (fun hx => (hnx _ hx).1.2.2.2.2.2.1) d_Rd_scriptOf_33 hF (fun b4 S M hn_b4 hk_b4 hm ho hF => ?_)
    obtain ⟨hh, hF⟩ := zzck_e hF
    obtain ⟨hn_v0, hk_v0⟩ := of_decide_eq_true hh
    refine zi_putR C zc_7 (k := 5) (by decide) zw_376 rfl (Or.inl rfl) hn_v0 hk_v0 d_Rd_scriptOf_36 (Or.inr ⟨_, rfl⟩) hF (fun M hF => ?_)
    refine zi_aload_n C d_Rd_scriptOf_39 rfl 0 rfl ?_
    refine zi_iconst (v := 0) C d_Rd_scriptOf_40 (by decide) ?_
    refine zi_iconst (v := 0) C d_Rd_scriptOf_41 (by decide) ?_
    obtain ⟨r5, S1, M1, hqr5, h1, h2, h3, h4, hF⟩ := zzcallA_e hF
    refine zi_callAV (n := 2) (S1 := S1) (M1 := M1) (res := some (zzrf bs r5)) (As := [.int (0 : Int32), .int (0 : Int32)]) (st := []) C E hm ((cG_B hAb hXs hnx 60).1 (out := (r5, S1, M1)) (zzE.hA E hm)  hqr5 ⟨h1, h2⟩ hn_v0 hk_v0) h1 h2 h3 h4 zw_633 zw_367 (by decide +kernel) ⟨Nat.le_of_ble_eq_true rfl, Nat.le_of_ble_eq_true rfl⟩ rfl (Nat.le_of_ble_eq_true rfl) zw_634 zw_635 zw_636 zc_7.1 hn_v0 hk_v0 rfl d_Rd_scriptOf_42 (fun hm ho => ?_)
    clear h1 h2 h3 h4
    generalize S1 = S at hF hm ho ⊢
    generalize M1 = M at hF ⊢
    refine zz_eq (lv' := [(0, .ref (bs + v0)), (1, .ref (bs + b1)), (2, .int v2)]) (st' := [zzrf bs r5]) rfl rfl ?_
    refine zi_astore_nO (lv' := [(3, zzrf bs r5), (0, .ref (bs + v0)), (1, .ref (bs + b1)), (2, .int v2)]) C d_Rd_scriptOf_45 rfl (by decide) rfl ?_
    refine zi_aload_nO C d_Rd_scriptOf_46 rfl 0 rfl ?_
    rcases zzopt_e hF with ⟨hv0, hF⟩ | ⟨b6, hv0, hn_b6, hk_b6, hF⟩
    · refine zz_eq (lv' := [(3, .null), (0, .ref (bs + v0)), (1, .ref (bs + b1)), (2, .int v2)]) (st' := [.null]) (by first | rfl | (rw [hv0]; rfl) | (rw [hv0]; done)) (by first | rfl | (rw [hv0]; rfl) | (rw [hv0]; done)) ?_
      refine zi_ifnonnullN C d_Rd_scriptOf_47 ?_
      refine zi_null C d_Rd_scriptOf_50 ?_
      refine zi_goto (tgt := 70) C d_Rd_scriptOf_51 (by decide) ?_
      cases hF
      exact zi_aret C hlocks hr (Or.inl ⟨_, rfl⟩) (Or.inl rfl) d_Rd_scriptOf_70 rfl rfl rfl rfl
    · refine zz_eq (lv' := [(3, .ref (bs + b6)), (0, .ref (bs + v0)), (1, .ref (bs + b1)), (2, .int v2)]) (st' := [.ref (bs + b6)]) (by first | rfl | (rw [hv0]; rfl) | (rw [hv0]; done)) (by first | rfl | (rw [hv0]; rfl) | (rw [hv0]; done)) ?_
      refine zi_ifnonnull (tgt := 54) C d_Rd_scriptOf_47 (by decide) ?_
      refine zi_new C E hm zc_1 (by decide +kernel) zw_638 zw_580 zw_516 d_Rd_scriptOf_54 hF (fun b7 S M hn_b7 hk_b7 hm ho hF => ?_)
      refine zi_dup C d_Rd_scriptOf_57 rfl ?_
      refine zi_aload_n C d_Rd_scriptOf_58 rfl 0 rfl ?_
      refine zi_aload_n C d_Rd_scriptOf_59 rfl 1 rfl ?_
      obtain ⟨hh, hF⟩ := zzck_e hF
      obtain ⟨hn_v0, hk_v0⟩ := of_decide_eq_true hh
      refine zi_getR C zc_7 (k := 5) (by decide) zw_376 rfl hn_v0 hk_v0 d_Rd_scriptOf_60 (fun _ _ _ => rfl) hF (fun b8 hn_b8 hk_b8 hF => ?_)
      refine zi_aload_n C d_Rd_scriptOf_63 rfl 1 rfl ?_
      refine zi_getI C zc_7 (k := 4) (by decide) zw_609 rfl hn_v0 hk_v0 d_Rd_scriptOf_64 (fun _ _ _ => rfl) hF (fun x9 hF => ?_)
      obtain ⟨r10, M, hqr10, hF⟩ := zzcall_e hF
      refine zi_callI0 (M2 := M) (n := 3) (As := [.ref (bs + b6), .ref (bs + b8), .int x9]) (st := [.ref (bs + b7)]) C (c_Sc_init hqr10 hn_b7 hk_b7) zw_549 zw_516 (by decide +kernel) ⟨Nat.le_of_ble_eq_true rfl, Nat.le_of_ble_eq_true rfl⟩ rfl (Nat.le_of_ble_eq_true rfl) (zz_hf hm ho) zw_637 zw_551 rfl rfl d_Rd_scriptOf_67 ?_
      cases hF
      exact zi_aret C hlocks hr (Or.inl ⟨_, rfl⟩) (Or.inr ⟨_, rfl⟩) d_Rd_scriptOf_70 rfl rfl rfl rfl
def F_Bs_read  (S : zzS) (M : zzM) (v0 : Nat) : Option (Int32 × zzS × zzM) := zzref S 17 (zzR M v0 8) fun b1 => zzref S 3 (zzR M v0 0) fun b2 => zzlet (zzI M v0 1) fun x3 => zzcallA S (F_Rd_scriptOf S M b1 (some b2) x3) fun r4 S M => zzck (zzhas S v0 10) (zzlet (zzsI M v0 1 (0 : Int32)) fun M => zzopt S 11 r4 (zzref S 17 (zzR M v0 8) fun b6 => zzlet (zzI M b6 2) fun x7 => zzlet ((-1 : Int32) - x7) fun x8 => some (x8, S, M)) (fun b5 => zzlet (zzsR M v0 4 (some b5)) fun M => zzref S 16 (zzR M v0 7) fun b9 => zzcall (F_Rp_forget S M b9) fun r10 M => zzref S 11 (zzR M v0 4) fun b11 => zzlet (zzI M b11 2) fun x12 => some (x12, S, M)))
set_option maxHeartbeats 4000000 in
set_option maxRecDepth 100000 in
theorem c_Bs_read {l : Launch} {D : zzD} {bs : Nat} {A : Nat → Prop} {X : State → Prop} {S : zzS} {M : zzM} {out : Int32 × zzS × zzM} {adK adV : Nat → Nat} {v0 : Nat}  (hA : ∀ q : Nat, bs + S.2.1 ≤ q → A q) (hAb : ∀ q : Nat, A q → bs ≤ q) (hXs : zzStab bs X) (hnx : ∀ U : State, X U → zzXF bs adK adV U)  (hF : F_Bs_read  S M v0 = some out) (ho : zzle S out.2.1) (hn_v0 : v0 < S.2.1) (hk_v0 : zzk S v0 = 10) : Met l y_Bs_read (Cond.code y_Bs_read prog_1_method_3_code 2 (some .int) :: zzW) { frames := 142, cells := out.2.1.2.1 - S.2.1, slots := out.2.1.2.2 - S.2.2, locals := 8248 } (zzPcX D bs A X S M [.ref (bs + v0)]) (zzQc D bs A out.2.1 out.2.2 (bs + out.2.1.2.1) (some (.int out.1))) (out.2.1.2.1 - S.2.1) (out.2.1.2.2 - S.2.2) A := by
  refine zz_metA [.ref (bs + v0)] (by decide) (Nat.le_of_ble_eq_true rfl) hA hAb hXs (fun p e s m args below meth c C hr hlocks hin E => ?_)
  have hm : zzle S S := ⟨Nat.le_refl _, Nat.le_refl _⟩
  refine zz_eq (lv' := [(0, .ref (bs + v0))]) (st' := []) rfl rfl ?_
  unfold F_Bs_read at hF
  refine zi_aload_n C d_Bs_read_0 rfl 0 rfl ?_
  refine zi_getR C zc_0 (k := 8) (by decide) zw_561 rfl hn_v0 hk_v0 d_Bs_read_1 (fun _ _ _ => rfl) hF (fun b1 hn_b1 hk_b1 hF => ?_)
  refine zi_aload_n C d_Bs_read_4 rfl 0 rfl ?_
  refine zi_getR C zc_0 (k := 0) (by decide) zw_247 rfl hn_v0 hk_v0 d_Bs_read_5 (fun _ _ _ => rfl) hF (fun b2 hn_b2 hk_b2 hF => ?_)
  refine zi_aload_n C d_Bs_read_8 rfl 0 rfl ?_
  refine zi_getI C zc_0 (k := 1) (by decide) zw_246 rfl hn_v0 hk_v0 d_Bs_read_9 (fun _ _ _ => rfl) hF (fun x3 hF => ?_)
  obtain ⟨r4, S1, M1, hqr4, h1, h2, h3, h4, hF⟩ := zzcallA_e hF
  refine zi_callAV (n := 2) (S1 := S1) (M1 := M1) (res := some (zzrf bs r4)) (As := [.ref (bs + b2), .int x3]) (st := []) C E hm (c_Rd_scriptOf (out := (r4, S1, M1)) (zzE.hA E hm) hAb hXs hnx hqr4 ⟨h1, h2⟩ hn_b1 hk_b1) h1 h2 h3 h4 zw_640 zw_367 (by decide +kernel) ⟨Nat.le_of_ble_eq_true rfl, Nat.le_of_ble_eq_true rfl⟩ rfl (Nat.le_of_ble_eq_true rfl) zw_641 zw_642 zw_643 zc_7.1 hn_b1 hk_b1 rfl d_Bs_read_12 (fun hm ho => ?_)
  clear h1 h2 h3 h4
  generalize S1 = S at hF hm ho ⊢
  generalize M1 = M at hF ⊢
  refine zz_eq (lv' := [(0, .ref (bs + v0))]) (st' := [zzrf bs r4]) rfl rfl ?_
  refine zi_astore_nO (lv' := [(1, zzrf bs r4), (0, .ref (bs + v0))]) C d_Bs_read_15 rfl (by decide) rfl ?_
  refine zi_aload_n C d_Bs_read_16 rfl 1 rfl ?_
  refine zi_iconst (v := 0) C d_Bs_read_17 (by decide) ?_
  obtain ⟨hh, hF⟩ := zzck_e hF
  obtain ⟨hn_v0, hk_v0⟩ := of_decide_eq_true hh
  refine zi_putI C zc_0 (k := 1) (by decide) zw_246 rfl (Or.inl rfl) hn_v0 hk_v0 d_Bs_read_18 rfl hF (fun M hF => ?_)
  refine zi_aload_nO C d_Bs_read_21 rfl 0 rfl ?_
  rcases zzopt_e hF with ⟨hv0, hF⟩ | ⟨b5, hv0, hn_b5, hk_b5, hF⟩
  · refine zz_eq (lv' := [(1, .null), (0, .ref (bs + v0))]) (st' := [.null]) (by first | rfl | (rw [hv0]; rfl) | (rw [hv0]; done)) (by first | rfl | (rw [hv0]; rfl) | (rw [hv0]; done)) ?_
    refine zi_ifnonnullN C d_Bs_read_22 ?_
    refine zi_iconst (v := -1) C d_Bs_read_25 (by decide) ?_
    refine zi_aload_n C d_Bs_read_26 rfl 1 rfl ?_
    refine zi_getR C zc_0 (k := 8) (by decide) zw_561 rfl hn_v0 hk_v0 d_Bs_read_27 (fun _ _ _ => rfl) hF (fun b6 hn_b6 hk_b6 hF => ?_)
    refine zi_getI C zc_7 (k := 2) (by decide) zw_644 rfl hn_b6 hk_b6 d_Bs_read_30 (fun _ _ _ => rfl) hF (fun x7 hF => ?_)
    refine zi_isub C d_Bs_read_33 hF (fun x8 hF => ?_)
    cases hF
    exact zi_iret C hlocks hr d_Bs_read_34 rfl rfl rfl rfl
  · refine zz_eq (lv' := [(1, .ref (bs + b5)), (0, .ref (bs + v0))]) (st' := [.ref (bs + b5)]) (by first | rfl | (rw [hv0]; rfl) | (rw [hv0]; done)) (by first | rfl | (rw [hv0]; rfl) | (rw [hv0]; done)) ?_
    refine zi_ifnonnull (tgt := 35) C d_Bs_read_22 (by decide) ?_
    refine zi_aload_n C d_Bs_read_35 rfl 1 rfl ?_
    refine zi_aload_n C d_Bs_read_36 rfl 0 rfl ?_
    refine zi_putR C zc_0 (k := 4) (by decide) zw_340 rfl (Or.inl rfl) hn_v0 hk_v0 d_Bs_read_37 (Or.inl ⟨_, rfl⟩) hF (fun M hF => ?_)
    refine zi_aload_n C d_Bs_read_40 rfl 1 rfl ?_
    refine zi_getR C zc_0 (k := 7) (by decide) zw_257 rfl hn_v0 hk_v0 d_Bs_read_41 (fun _ _ _ => rfl) hF (fun b9 hn_b9 hk_b9 hF => ?_)
    obtain ⟨r10, M, hqr10, hF⟩ := zzcall_e hF
    refine zi_callV_v (M2 := M) (n := 0) (As := []) (st := []) C (c_Rp_forget hqr10 hn_b9 hk_b9) zw_345 zw_259 (by decide +kernel) ⟨Nat.le_of_ble_eq_true rfl, Nat.le_of_ble_eq_true rfl⟩ rfl (Nat.le_of_ble_eq_true rfl) (zz_hf hm ho) zw_346 zw_347 zw_348 zc_6.1 hn_b9 hk_b9 rfl d_Bs_read_44 ?_
    refine zi_aload_n C d_Bs_read_47 rfl 1 rfl ?_
    refine zi_getR C zc_0 (k := 4) (by decide) zw_340 rfl hn_v0 hk_v0 d_Bs_read_48 (fun _ _ _ => rfl) hF (fun b11 hn_b11 hk_b11 hF => ?_)
    refine zi_getI C zc_1 (k := 2) (by decide) zw_645 rfl hn_b11 hk_b11 d_Bs_read_51 (fun _ _ _ => rfl) hF (fun x12 hF => ?_)
    cases hF
    exact zi_iret C hlocks hr d_Bs_read_54 rfl rfl rfl rfl
