def F_Rd_shapeOf  (S : zzS) (M : zzM) (v0 : Int32) : Option (Nat × zzS × zzM) := zzcall (F_Rd_isVariable S M v0) fun r1 M => if r1 = 0 then (zzcall (F_Rd_isFunction S M v0) fun r2 M => if r2 = 0 then (if v0 = (33 : Int32) then (some (4, S, M)) else (if v0 = (38 : Int32) then (some (4, S, M)) else (if v0 = (39 : Int32) then (some (3, S, M)) else (if v0 = (42 : Int32) then (some (6, S, M)) else (if v0 = (43 : Int32) then (some (4, S, M)) else (if v0 = (58 : Int32) then (some (9, S, M)) else (if v0 = (60 : Int32) then (some (4, S, M)) else (if v0 = (63 : Int32) then (some (5, S, M)) else (if v0 = (64 : Int32) then (some (2, S, M)) else (if v0 = (91 : Int32) then (some (7, S, M)) else (if v0 = (94 : Int32) then (some (4, S, M)) else (if v0 = (124 : Int32) then (some (4, S, M)) else (if v0 = (126 : Int32) then (some (8, S, M)) else (some (10, S, M))))))))))))))) else (some (1, S, M))) else (some (0, S, M))
set_option maxHeartbeats 4000000 in
set_option maxRecDepth 100000 in
theorem c_Rd_shapeOf {l : Launch} {D : zzD} {bs : Nat} {A : Nat → Prop} {X : State → Prop} {S : zzS} {M : zzM} {out : Nat × zzS × zzM} {adK adV : Nat → Nat} {v0 : Int32}  (hA : ∀ q : Nat, bs + S.2.1 ≤ q → A q) (hAb : ∀ q : Nat, A q → bs ≤ q) (hXs : zzStab bs X) (hnx : ∀ U : State, X U → zzXF bs adK adV U)  (hF : F_Rd_shapeOf  S M v0 = some out) (ho : zzle S out.2.1)  : Met l y_Rd_shapeOf (Cond.code y_Rd_shapeOf prog_5_method_9_code 1 (some (.object "java/lang/String")) :: zzW) { frames := 1, cells := out.2.1.2.1 - S.2.1, slots := out.2.1.2.2 - S.2.2, locals := 20 } (zzPcX D bs A X S M [.int v0]) (zzQc D bs A out.2.1 out.2.2 (bs + out.2.1.2.1) (some (.ref (adK out.1)))) (out.2.1.2.1 - S.2.1) (out.2.1.2.2 - S.2.2) A := by
  refine zz_metA [.int v0] (by decide) (Nat.le_of_ble_eq_true rfl) hA hAb hXs (fun p e s m args below meth c C hr hlocks hin E => ?_)
  have hm : zzle S S := ⟨Nat.le_refl _, Nat.le_refl _⟩
  refine zz_eq (lv' := [(0, .int v0)]) (st' := []) rfl rfl ?_
  unfold F_Rd_shapeOf at hF
  refine zi_iload_n C d_Rd_shapeOf_0 rfl 0 rfl ?_
  obtain ⟨r1, M, hqr1, hF⟩ := zzcall_e hF
  refine zi_callS_i (M2 := M) (r := r1) (n := 1) (As := [.int v0]) (st := []) C (c_Rd_isVariable hqr1 ) zw_427 zw_367 (by decide +kernel) ⟨Nat.le_of_ble_eq_true rfl, Nat.le_of_ble_eq_true rfl⟩ rfl (Nat.le_of_ble_eq_true rfl) (zz_hf hm ho) zw_428 zw_429 rfl d_Rd_shapeOf_1 ?_
  refine zi_if_eq (tgt := 10) C d_Rd_shapeOf_4 (by decide) hF (fun hF => ?_) (fun hF => ?_)
  · refine zi_iload_n C d_Rd_shapeOf_10 rfl 0 rfl ?_
    obtain ⟨r2, M, hqr2, hF⟩ := zzcall_e hF
    refine zi_callS_i (M2 := M) (r := r2) (n := 1) (As := [.int v0]) (st := []) C (c_Rd_isFunction hqr2 ) zw_371 zw_367 (by decide +kernel) ⟨Nat.le_of_ble_eq_true rfl, Nat.le_of_ble_eq_true rfl⟩ rfl (Nat.le_of_ble_eq_true rfl) (zz_hf hm ho) zw_372 zw_373 rfl d_Rd_shapeOf_11 ?_
    refine zi_if_eq (tgt := 20) C d_Rd_shapeOf_14 (by decide) hF (fun hF => ?_) (fun hF => ?_)
    · refine zi_iload_n C d_Rd_shapeOf_20 rfl 0 rfl ?_
      by_cases hs3 : v0 = (33 : Int32)
      · rw [if_pos hs3] at hF
        refine zi_lookup C d_Rd_shapeOf_21 (by decide) 121 142 (by rw [hs3]; decide +kernel) (by decide) ?_
        refine zi_ldcS C (hnx _ E.2.2.2.2.1).2 hAb 4 (by decide) rfl (by decide) d_Rd_shapeOf_142 ?_
        cases hF
        exact zi_aret C hlocks hr (Or.inl ⟨_, rfl⟩) (Or.inr ⟨_, rfl⟩) d_Rd_shapeOf_144 rfl rfl rfl rfl
      · rw [if_neg hs3] at hF
        by_cases hs4 : v0 = (38 : Int32)
        · rw [if_pos hs4] at hF
          refine zi_lookup C d_Rd_shapeOf_21 (by decide) 121 142 (by rw [hs4]; decide +kernel) (by decide) ?_
          refine zi_ldcS C (hnx _ E.2.2.2.2.1).2 hAb 4 (by decide) rfl (by decide) d_Rd_shapeOf_142 ?_
          cases hF
          exact zi_aret C hlocks hr (Or.inl ⟨_, rfl⟩) (Or.inr ⟨_, rfl⟩) d_Rd_shapeOf_144 rfl rfl rfl rfl
        · rw [if_neg hs4] at hF
          by_cases hs5 : v0 = (39 : Int32)
          · rw [if_pos hs5] at hF
            refine zi_lookup C d_Rd_shapeOf_21 (by decide) 118 139 (by rw [hs5]; decide +kernel) (by decide) ?_
            refine zi_ldcS C (hnx _ E.2.2.2.2.1).2 hAb 3 (by decide) rfl (by decide) d_Rd_shapeOf_139 ?_
            cases hF
            exact zi_aret C hlocks hr (Or.inl ⟨_, rfl⟩) (Or.inr ⟨_, rfl⟩) d_Rd_shapeOf_141 rfl rfl rfl rfl
          · rw [if_neg hs5] at hF
            by_cases hs6 : v0 = (42 : Int32)
            · rw [if_pos hs6] at hF
              refine zi_lookup C d_Rd_shapeOf_21 (by decide) 127 148 (by rw [hs6]; decide +kernel) (by decide) ?_
              refine zi_ldcS C (hnx _ E.2.2.2.2.1).2 hAb 6 (by decide) rfl (by decide) d_Rd_shapeOf_148 ?_
              cases hF
              exact zi_aret C hlocks hr (Or.inl ⟨_, rfl⟩) (Or.inr ⟨_, rfl⟩) d_Rd_shapeOf_150 rfl rfl rfl rfl
            · rw [if_neg hs6] at hF
              by_cases hs7 : v0 = (43 : Int32)
              · rw [if_pos hs7] at hF
                refine zi_lookup C d_Rd_shapeOf_21 (by decide) 121 142 (by rw [hs7]; decide +kernel) (by decide) ?_
                refine zi_ldcS C (hnx _ E.2.2.2.2.1).2 hAb 4 (by decide) rfl (by decide) d_Rd_shapeOf_142 ?_
                cases hF
                exact zi_aret C hlocks hr (Or.inl ⟨_, rfl⟩) (Or.inr ⟨_, rfl⟩) d_Rd_shapeOf_144 rfl rfl rfl rfl
              · rw [if_neg hs7] at hF
                by_cases hs8 : v0 = (58 : Int32)
                · rw [if_pos hs8] at hF
                  refine zi_lookup C d_Rd_shapeOf_21 (by decide) 136 157 (by rw [hs8]; decide +kernel) (by decide) ?_
                  refine zi_ldcS C (hnx _ E.2.2.2.2.1).2 hAb 9 (by decide) rfl (by decide) d_Rd_shapeOf_157 ?_
                  cases hF
                  exact zi_aret C hlocks hr (Or.inl ⟨_, rfl⟩) (Or.inr ⟨_, rfl⟩) d_Rd_shapeOf_159 rfl rfl rfl rfl
                · rw [if_neg hs8] at hF
                  by_cases hs9 : v0 = (60 : Int32)
                  · rw [if_pos hs9] at hF
                    refine zi_lookup C d_Rd_shapeOf_21 (by decide) 121 142 (by rw [hs9]; decide +kernel) (by decide) ?_
                    refine zi_ldcS C (hnx _ E.2.2.2.2.1).2 hAb 4 (by decide) rfl (by decide) d_Rd_shapeOf_142 ?_
                    cases hF
                    exact zi_aret C hlocks hr (Or.inl ⟨_, rfl⟩) (Or.inr ⟨_, rfl⟩) d_Rd_shapeOf_144 rfl rfl rfl rfl
                  · rw [if_neg hs9] at hF
                    by_cases hs10 : v0 = (63 : Int32)
                    · rw [if_pos hs10] at hF
                      refine zi_lookup C d_Rd_shapeOf_21 (by decide) 124 145 (by rw [hs10]; decide +kernel) (by decide) ?_
                      refine zi_ldcS C (hnx _ E.2.2.2.2.1).2 hAb 5 (by decide) rfl (by decide) d_Rd_shapeOf_145 ?_
                      cases hF
                      exact zi_aret C hlocks hr (Or.inl ⟨_, rfl⟩) (Or.inr ⟨_, rfl⟩) d_Rd_shapeOf_147 rfl rfl rfl rfl
                    · rw [if_neg hs10] at hF
                      by_cases hs11 : v0 = (64 : Int32)
                      · rw [if_pos hs11] at hF
                        refine zi_lookup C d_Rd_shapeOf_21 (by decide) 115 136 (by rw [hs11]; decide +kernel) (by decide) ?_
                        refine zi_ldcS C (hnx _ E.2.2.2.2.1).2 hAb 2 (by decide) rfl (by decide) d_Rd_shapeOf_136 ?_
                        cases hF
                        exact zi_aret C hlocks hr (Or.inl ⟨_, rfl⟩) (Or.inr ⟨_, rfl⟩) d_Rd_shapeOf_138 rfl rfl rfl rfl
                      · rw [if_neg hs11] at hF
                        by_cases hs12 : v0 = (91 : Int32)
                        · rw [if_pos hs12] at hF
                          refine zi_lookup C d_Rd_shapeOf_21 (by decide) 130 151 (by rw [hs12]; decide +kernel) (by decide) ?_
                          refine zi_ldcS C (hnx _ E.2.2.2.2.1).2 hAb 7 (by decide) rfl (by decide) d_Rd_shapeOf_151 ?_
                          cases hF
                          exact zi_aret C hlocks hr (Or.inl ⟨_, rfl⟩) (Or.inr ⟨_, rfl⟩) d_Rd_shapeOf_153 rfl rfl rfl rfl
                        · rw [if_neg hs12] at hF
                          by_cases hs13 : v0 = (94 : Int32)
                          · rw [if_pos hs13] at hF
                            refine zi_lookup C d_Rd_shapeOf_21 (by decide) 121 142 (by rw [hs13]; decide +kernel) (by decide) ?_
                            refine zi_ldcS C (hnx _ E.2.2.2.2.1).2 hAb 4 (by decide) rfl (by decide) d_Rd_shapeOf_142 ?_
                            cases hF
                            exact zi_aret C hlocks hr (Or.inl ⟨_, rfl⟩) (Or.inr ⟨_, rfl⟩) d_Rd_shapeOf_144 rfl rfl rfl rfl
                          · rw [if_neg hs13] at hF
                            by_cases hs14 : v0 = (124 : Int32)
                            · rw [if_pos hs14] at hF
                              refine zi_lookup C d_Rd_shapeOf_21 (by decide) 121 142 (by rw [hs14]; decide +kernel) (by decide) ?_
                              refine zi_ldcS C (hnx _ E.2.2.2.2.1).2 hAb 4 (by decide) rfl (by decide) d_Rd_shapeOf_142 ?_
                              cases hF
                              exact zi_aret C hlocks hr (Or.inl ⟨_, rfl⟩) (Or.inr ⟨_, rfl⟩) d_Rd_shapeOf_144 rfl rfl rfl rfl
                            · rw [if_neg hs14] at hF
                              by_cases hs15 : v0 = (126 : Int32)
                              · rw [if_pos hs15] at hF
                                refine zi_lookup C d_Rd_shapeOf_21 (by decide) 133 154 (by rw [hs15]; decide +kernel) (by decide) ?_
                                refine zi_ldcS C (hnx _ E.2.2.2.2.1).2 hAb 8 (by decide) rfl (by decide) d_Rd_shapeOf_154 ?_
                                cases hF
                                exact zi_aret C hlocks hr (Or.inl ⟨_, rfl⟩) (Or.inr ⟨_, rfl⟩) d_Rd_shapeOf_156 rfl rfl rfl rfl
                              · rw [if_neg hs15] at hF
                                refine zi_lookup C d_Rd_shapeOf_21 (by decide) 139 160 ((lv_osw hs3 (by decide)).trans ((lv_osw hs4 (by decide)).trans ((lv_osw hs5 (by decide)).trans ((lv_osw hs6 (by decide)).trans ((lv_osw hs7 (by decide)).trans ((lv_osw hs8 (by decide)).trans ((lv_osw hs9 (by decide)).trans ((lv_osw hs10 (by decide)).trans ((lv_osw hs11 (by decide)).trans ((lv_osw hs12 (by decide)).trans ((lv_osw hs13 (by decide)).trans ((lv_osw hs14 (by decide)).trans ((lv_osw hs15 (by decide)).trans (rfl)))))))))))))) (by decide) ?_
                                refine zi_ldcS C (hnx _ E.2.2.2.2.1).2 hAb 10 (by decide) rfl (by decide) d_Rd_shapeOf_160 ?_
                                cases hF
                                exact zi_aret C hlocks hr (Or.inl ⟨_, rfl⟩) (Or.inr ⟨_, rfl⟩) d_Rd_shapeOf_162 rfl rfl rfl rfl
    · refine zi_ldcS C (hnx _ E.2.2.2.2.1).2 hAb 1 (by decide) rfl (by decide) d_Rd_shapeOf_17 ?_
      cases hF
      exact zi_aret C hlocks hr (Or.inl ⟨_, rfl⟩) (Or.inr ⟨_, rfl⟩) d_Rd_shapeOf_19 rfl rfl rfl rfl
  · refine zi_ldcS C (hnx _ E.2.2.2.2.1).2 hAb 0 (by decide) rfl (by decide) d_Rd_shapeOf_7 ?_
    cases hF
    exact zi_aret C hlocks hr (Or.inl ⟨_, rfl⟩) (Or.inr ⟨_, rfl⟩) d_Rd_shapeOf_9 rfl rfl rfl rfl
def F_Rd_block_11_b (k_Rd_block : zzS → zzM → Nat → Int32 → Int32 → Option (Option Nat × zzS × zzM)) (k_Rd_statement : zzS → zzM → Nat → Int32 → Option (Option Nat × zzS × zzM)) (k_Rd_part : zzS → zzM → Nat → Option Nat → Int32 → Int32 → Option (Int32 × zzS × zzM)) (k_Rd_enclosed : zzS → zzM → Nat → Int32 → Int32 → Int32 → Option (Option Nat × zzS × zzM)) (k11 : zzS → zzM → Nat → Int32 → Int32 → Nat → Int32 → Option (Option Nat × zzS × zzM)) (S : zzS) (M : zzM) (v0 : Nat) (v1 : Int32) (v2 : Int32) (v3 : Nat) (v4 : Int32) : Option (Option Nat × zzS × zzM) := if (100 : Int32) < v4 then (some (none, S, M)) else (zzcall (F_Rd_skipLineFeeds S M v0) fun r1 M => zzcall (F_Rd_peek S M v0) fun r2 M => if r2 = v2 then (some (some v3, S, M)) else (zzcallA S (k_Rd_statement S M v0 v1) fun r3 S M => zzopt S 13 r3 (some (none, S, M)) (fun b4 => zzck (zzhas S v3 12) (zzcall (F_Bl_append S M v3 (some b4)) fun r5 M => zzlet (v4 + (1 : Int32)) fun x6 => zzck (zzhas S v0 17) (k11 S M v0 v1 v2 v3 x6)))))
def F_Rd_block_11 (k_Rd_block : zzS → zzM → Nat → Int32 → Int32 → Option (Option Nat × zzS × zzM)) (k_Rd_statement : zzS → zzM → Nat → Int32 → Option (Option Nat × zzS × zzM)) (k_Rd_part : zzS → zzM → Nat → Option Nat → Int32 → Int32 → Option (Int32 × zzS × zzM)) (k_Rd_enclosed : zzS → zzM → Nat → Int32 → Int32 → Int32 → Option (Option Nat × zzS × zzM))  (n : Nat) : zzS → zzM → Nat → Int32 → Int32 → Nat → Int32 → Option (Option Nat × zzS × zzM) := Nat.rec (fun _ _ _ _ _ _ _ => none) (fun _ k => F_Rd_block_11_b k_Rd_block k_Rd_statement k_Rd_part k_Rd_enclosed  k) n
set_option maxHeartbeats 4000000 in
set_option maxRecDepth 100000 in
theorem g_Rd_block_11_b {p : Program} {l : Launch} {e : Env} {s : State} {m : MethodId} {args : Array Value} {below : List Frame} {meth : Method} {c : Code} {D : zzD} {bs : Nat} {A : Nat → Prop} {X : State → Prop} {S0 : zzS} {out : Option Nat × zzS × zzM} {adK adV : Nat → Nat} {k_Rd_block : zzS → zzM → Nat → Int32 → Int32 → Option (Option Nat × zzS × zzM)} {k_Rd_statement : zzS → zzM → Nat → Int32 → Option (Option Nat × zzS × zzM)} {k_Rd_part : zzS → zzM → Nat → Option Nat → Int32 → Int32 → Option (Int32 × zzS × zzM)} {k_Rd_enclosed : zzS → zzM → Nat → Int32 → Int32 → Int32 → Option (Option Nat × zzS × zzM)} {fr lo : Nat} (C : zzC p s m args c prog_5_method_6_code "BoardScript$Reader" 6 D) (hlocks : meth.locks = false) (hr : meth.sig.returnType = (some (.object "BoardScript$Block"))) (hin : meth.name = "block") (E : zzE s { frames := fr + 1, cells := out.2.1.2.1 - S0.2.1, slots := out.2.1.2.2 - S0.2.2, locals := lo + 60 } bs A X S0 out.2.1) (hAb : ∀ q : Nat, A q → bs ≤ q) (hXs : zzStab bs X) (hnx : ∀ U : State, X U → zzXF bs adK adV U) (hfr : 80 ≤ fr) (hlo : 4600 ≤ lo) (hc_Rd_block : ∀ {S : zzS} {M : zzM} {out : Option Nat × zzS × zzM} {v0 : Nat} {v1 : Int32} {v2 : Int32}, (∀ q : Nat, bs + S.2.1 ≤ q → A q) → k_Rd_block S M v0 v1 v2 = some out → zzle S out.2.1 → v0 < S.2.1 → zzk S v0 = 17 → Met l y_Rd_block (Cond.code y_Rd_block prog_5_method_6_code 6 (some (.object "BoardScript$Block")) :: zzW) { frames := fr, cells := out.2.1.2.1 - S.2.1, slots := out.2.1.2.2 - S.2.2, locals := lo } (zzPcX D bs A X S M [.ref (bs + v0), .int v1, .int v2]) (zzQc D bs A out.2.1 out.2.2 (bs + out.2.1.2.1) (some (zzrf bs out.1))) (out.2.1.2.1 - S.2.1) (out.2.1.2.2 - S.2.2) A) (hc_Rd_statement : ∀ {S : zzS} {M : zzM} {out : Option Nat × zzS × zzM} {v0 : Nat} {v1 : Int32}, (∀ q : Nat, bs + S.2.1 ≤ q → A q) → k_Rd_statement S M v0 v1 = some out → zzle S out.2.1 → v0 < S.2.1 → zzk S v0 = 17 → Met l y_Rd_statement (Cond.code y_Rd_statement prog_5_method_7_code 6 (some (.object "BoardScript$Statement")) :: zzW) { frames := fr, cells := out.2.1.2.1 - S.2.1, slots := out.2.1.2.2 - S.2.2, locals := lo } (zzPcX D bs A X S M [.ref (bs + v0), .int v1]) (zzQc D bs A out.2.1 out.2.2 (bs + out.2.1.2.1) (some (zzrf bs out.1))) (out.2.1.2.1 - S.2.1) (out.2.1.2.2 - S.2.2) A) (hc_Rd_part : ∀ {S : zzS} {M : zzM} {out : Int32 × zzS × zzM} {v0 : Nat} {v1 : Option Nat} {v2 : Int32} {v3 : Int32}, (∀ q : Nat, bs + S.2.1 ≤ q → A q) → k_Rd_part S M v0 v1 v2 v3 = some out → zzle S out.2.1 → v0 < S.2.1 → zzk S v0 = 17 → Met l y_Rd_part (Cond.code y_Rd_part prog_5_method_10_code 4 (some .boolean) :: zzW) { frames := fr, cells := out.2.1.2.1 - S.2.1, slots := out.2.1.2.2 - S.2.2, locals := lo } (zzPcX D bs A X S M [.ref (bs + v0), zzrf bs v1, .int v2, .int v3]) (zzQc D bs A out.2.1 out.2.2 (bs + out.2.1.2.1) (some (.int out.1))) (out.2.1.2.1 - S.2.1) (out.2.1.2.2 - S.2.2) A) (hc_Rd_enclosed : ∀ {S : zzS} {M : zzM} {out : Option Nat × zzS × zzM} {v0 : Nat} {v1 : Int32} {v2 : Int32} {v3 : Int32}, (∀ q : Nat, bs + S.2.1 ≤ q → A q) → k_Rd_enclosed S M v0 v1 v2 v3 = some out → zzle S out.2.1 → v0 < S.2.1 → zzk S v0 = 17 → Met l y_Rd_enclosed (Cond.code y_Rd_enclosed prog_5_method_11_code 5 (some (.object "BoardScript$Block")) :: zzW) { frames := fr, cells := out.2.1.2.1 - S.2.1, slots := out.2.1.2.2 - S.2.2, locals := lo } (zzPcX D bs A X S M [.ref (bs + v0), .int v1, .int v2, .int v3]) (zzQc D bs A out.2.1 out.2.2 (bs + out.2.1.2.1) (some (zzrf bs out.1))) (out.2.1.2.1 - S.2.1) (out.2.1.2.2 - S.2.2) A) {k11 : zzS → zzM → Nat → Int32 → Int32 → Nat → Int32 → Option (Option Nat × zzS × zzM)} (hk11 : ∀ (S : zzS) (M : zzM) (v0 : Nat) (v1 : Int32) (v2 : Int32) (v3 : Nat) (v4 : Int32) (hn_v0 : v0 < S.2.1) (hk_v0 : zzk S v0 = 17) (hn_v3 : v3 < S.2.1) (hk_v3 : zzk S v3 = 12), zzle S0 S → zzle S out.2.1 → k11 S M v0 v1 v2 v3 v4 = some out → zzB p l e { frames := fr + 1, cells := out.2.1.2.1 - S0.2.1, slots := out.2.1.2.2 - S0.2.2, locals := lo + 60 } s m args below meth c 6 D bs A (MQ below (zzQc D bs A out.2.1 out.2.2 (bs + out.2.1.2.1) (some (zzrf bs out.1))) args s (out.2.1.2.1 - S0.2.1) (out.2.1.2.2 - S0.2.2) A) (S.2.1 - S0.2.1) (S.2.2 - S0.2.2) S M (bs + S.2.1) 11 [(0, .ref (bs + v0)), (1, .int v1), (2, .int v2), (3, .ref (bs + v3)), (4, .int v4)] []) (S : zzS) (M : zzM) (v0 : Nat) (v1 : Int32) (v2 : Int32) (v3 : Nat) (v4 : Int32) (hn_v0 : v0 < S.2.1) (hk_v0 : zzk S v0 = 17) (hn_v3 : v3 < S.2.1) (hk_v3 : zzk S v3 = 12) (hm : zzle S0 S) (ho : zzle S out.2.1) (hF : F_Rd_block_11_b k_Rd_block k_Rd_statement k_Rd_part k_Rd_enclosed k11 S M v0 v1 v2 v3 v4 = some out) : zzB p l e { frames := fr + 1, cells := out.2.1.2.1 - S0.2.1, slots := out.2.1.2.2 - S0.2.2, locals := lo + 60 } s m args below meth c 6 D bs A (MQ below (zzQc D bs A out.2.1 out.2.2 (bs + out.2.1.2.1) (some (zzrf bs out.1))) args s (out.2.1.2.1 - S0.2.1) (out.2.1.2.2 - S0.2.2) A) (S.2.1 - S0.2.1) (S.2.2 - S0.2.2) S M (bs + S.2.1) 11 [(0, .ref (bs + v0)), (1, .int v1), (2, .int v2), (3, .ref (bs + v3)), (4, .int v4)] [] := by
  unfold F_Rd_block_11_b at hF
  refine zi_iload C d_Rd_block_11 4 rfl ?_
  refine zi_bipush (v := 100) C d_Rd_block_13 (by decide) ?_
  refine zi_icmp_gt (tgt := 58) C d_Rd_block_15 (by decide) hF (fun hF => ?_) (fun hF => ?_)
  · refine zi_null C d_Rd_block_58 ?_
    cases hF
    exact zi_aret C hlocks hr (Or.inl ⟨_, rfl⟩) (Or.inl rfl) d_Rd_block_59 rfl rfl rfl rfl
  · refine zi_aload_n C d_Rd_block_18 rfl 0 rfl ?_
    obtain ⟨r1, M, hqr1, hF⟩ := zzcall_e hF
    refine zi_callV_v (M2 := M) (n := 0) (As := []) (st := []) C (c_Rd_skipLineFeeds hqr1 hn_v0 hk_v0) zw_594 zw_367 (by decide +kernel) ⟨by show _ ≤ fr + 1; omega, by show _ ≤ lo + 60; omega⟩ rfl (Nat.le_of_ble_eq_true rfl) (zz_hf hm ho) zw_595 zw_596 zw_597 zc_7.1 hn_v0 hk_v0 rfl d_Rd_block_19 ?_
    refine zi_aload_n C d_Rd_block_22 rfl 0 rfl ?_
    obtain ⟨r2, M, hqr2, hF⟩ := zzcall_e hF
    refine zi_callV_i (M2 := M) (r := r2) (n := 0) (As := []) (st := []) C (c_Rd_peek hqr2 hn_v0 hk_v0) zw_366 zw_367 (by decide +kernel) ⟨by show _ ≤ fr + 1; omega, by show _ ≤ lo + 60; omega⟩ rfl (Nat.le_of_ble_eq_true rfl) (zz_hf hm ho) zw_368 zw_369 zw_370 zc_7.1 hn_v0 hk_v0 rfl d_Rd_block_23 ?_
    refine zi_iload_n C d_Rd_block_26 rfl 2 rfl ?_
    refine zi_icmp_ne (tgt := 32) C d_Rd_block_27 (by decide) hF (fun hF => ?_) (fun hF => ?_)
    · refine zi_aload_n C d_Rd_block_32 rfl 0 rfl ?_
      refine zi_iload_n C d_Rd_block_33 rfl 1 rfl ?_
      obtain ⟨r3, S1, M1, hqr3, h1, h2, h3, h4, hF⟩ := zzcallA_e hF
      refine zi_callAV (n := 1) (S1 := S1) (M1 := M1) (res := some (zzrf bs r3)) (As := [.int v1]) (st := []) C E hm (hc_Rd_statement (out := (r3, S1, M1)) (zzE.hA E hm)  hqr3 ⟨h1, h2⟩ hn_v0 hk_v0) h1 h2 h3 h4 zw_598 zw_367 (by decide +kernel) ⟨Nat.le_refl _, by show _ ≤ lo + 60; omega⟩ rfl (Nat.le_of_ble_eq_true rfl) zw_599 zw_600 zw_601 zc_7.1 hn_v0 hk_v0 rfl d_Rd_block_34 (fun hm ho => ?_)
      clear h1 h2 h3 h4
      generalize S1 = S at hF hm ho ⊢
      generalize M1 = M at hF ⊢
      refine zz_eq (lv' := [(0, .ref (bs + v0)), (1, .int v1), (2, .int v2), (3, .ref (bs + v3)), (4, .int v4)]) (st' := [zzrf bs r3]) rfl rfl ?_
      refine zi_astoreO (lv' := [(5, zzrf bs r3), (0, .ref (bs + v0)), (1, .int v1), (2, .int v2), (3, .ref (bs + v3)), (4, .int v4)]) C d_Rd_block_37 (by decide) rfl ?_
      refine zi_aloadO C d_Rd_block_39 0 rfl ?_
      rcases zzopt_e hF with ⟨hv0, hF⟩ | ⟨b4, hv0, hn_b4, hk_b4, hF⟩
      · refine zz_eq (lv' := [(5, .null), (0, .ref (bs + v0)), (1, .int v1), (2, .int v2), (3, .ref (bs + v3)), (4, .int v4)]) (st' := [.null]) (by first | rfl | (rw [hv0]; rfl) | (rw [hv0]; done)) (by first | rfl | (rw [hv0]; rfl) | (rw [hv0]; done)) ?_
        refine zi_ifnonnullN C d_Rd_block_41 ?_
        refine zi_null C d_Rd_block_44 ?_
        cases hF
        exact zi_aret C hlocks hr (Or.inl ⟨_, rfl⟩) (Or.inl rfl) d_Rd_block_45 rfl rfl rfl rfl
      · refine zz_eq (lv' := [(5, .ref (bs + b4)), (0, .ref (bs + v0)), (1, .int v1), (2, .int v2), (3, .ref (bs + v3)), (4, .int v4)]) (st' := [.ref (bs + b4)]) (by first | rfl | (rw [hv0]; rfl) | (rw [hv0]; done)) (by first | rfl | (rw [hv0]; rfl) | (rw [hv0]; done)) ?_
        refine zi_ifnonnull (tgt := 46) C d_Rd_block_41 (by decide) ?_
        refine zi_aload_n C d_Rd_block_46 rfl 4 rfl ?_
        refine zi_aload C d_Rd_block_47 0 rfl ?_
        obtain ⟨hh, hF⟩ := zzck_e hF
        obtain ⟨hn_v3, hk_v3⟩ := of_decide_eq_true hh
        obtain ⟨r5, M, hqr5, hF⟩ := zzcall_e hF
        refine zi_callV_v (M2 := M) (n := 1) (As := [.ref (bs + b4)]) (st := []) C (c_Bl_append hqr5 hn_v3 hk_v3) zw_602 zw_547 (by decide +kernel) ⟨by show _ ≤ fr + 1; omega, by show _ ≤ lo + 60; omega⟩ rfl (Nat.le_of_ble_eq_true rfl) (zz_hf hm ho) zw_603 zw_604 zw_605 zc_2.1 hn_v3 hk_v3 rfl d_Rd_block_49 ?_
        refine zi_iinc (j := 5) (v0 := 1) C d_Rd_block_52 rfl (by decide) (by decide) hF (fun x6 => [(4, .int x6), (5, .ref (bs + b4)), (0, .ref (bs + v0)), (1, .int v1), (2, .int v2), (3, .ref (bs + v3))]) (fun _ => rfl) (fun x6 hF => ?_)
        refine zi_goto (tgt := 11) C d_Rd_block_55 (by decide) ?_
        obtain ⟨hh, hF⟩ := zzck_e hF
        obtain ⟨hn_v0, hk_v0⟩ := of_decide_eq_true hh
        refine zz_sub [2, 3, 4, 5, 0] (lv' := [(0, .ref (bs + v0)), (1, .int v1), (2, .int v2), (3, .ref (bs + v3)), (4, .int x6)]) rfl ?_
        exact hk11 _ _ v0 v1 v2 v3 x6 hn_v0 hk_v0 hn_v3 hk_v3 hm ho hF
    · refine zi_aload_n C d_Rd_block_30 rfl 3 rfl ?_
      cases hF
      exact zi_aret C hlocks hr (Or.inl ⟨_, rfl⟩) (Or.inr ⟨_, rfl⟩) d_Rd_block_31 rfl rfl rfl rfl
set_option maxHeartbeats 4000000 in
set_option maxRecDepth 100000 in
theorem g_Rd_block_11 {p : Program} {l : Launch} {e : Env} {s : State} {m : MethodId} {args : Array Value} {below : List Frame} {meth : Method} {c : Code} {D : zzD} {bs : Nat} {A : Nat → Prop} {X : State → Prop} {S0 : zzS} {out : Option Nat × zzS × zzM} {adK adV : Nat → Nat} {k_Rd_block : zzS → zzM → Nat → Int32 → Int32 → Option (Option Nat × zzS × zzM)} {k_Rd_statement : zzS → zzM → Nat → Int32 → Option (Option Nat × zzS × zzM)} {k_Rd_part : zzS → zzM → Nat → Option Nat → Int32 → Int32 → Option (Int32 × zzS × zzM)} {k_Rd_enclosed : zzS → zzM → Nat → Int32 → Int32 → Int32 → Option (Option Nat × zzS × zzM)} {fr lo : Nat} (C : zzC p s m args c prog_5_method_6_code "BoardScript$Reader" 6 D) (hlocks : meth.locks = false) (hr : meth.sig.returnType = (some (.object "BoardScript$Block"))) (hin : meth.name = "block") (E : zzE s { frames := fr + 1, cells := out.2.1.2.1 - S0.2.1, slots := out.2.1.2.2 - S0.2.2, locals := lo + 60 } bs A X S0 out.2.1) (hAb : ∀ q : Nat, A q → bs ≤ q) (hXs : zzStab bs X) (hnx : ∀ U : State, X U → zzXF bs adK adV U) (hfr : 80 ≤ fr) (hlo : 4600 ≤ lo) (hc_Rd_block : ∀ {S : zzS} {M : zzM} {out : Option Nat × zzS × zzM} {v0 : Nat} {v1 : Int32} {v2 : Int32}, (∀ q : Nat, bs + S.2.1 ≤ q → A q) → k_Rd_block S M v0 v1 v2 = some out → zzle S out.2.1 → v0 < S.2.1 → zzk S v0 = 17 → Met l y_Rd_block (Cond.code y_Rd_block prog_5_method_6_code 6 (some (.object "BoardScript$Block")) :: zzW) { frames := fr, cells := out.2.1.2.1 - S.2.1, slots := out.2.1.2.2 - S.2.2, locals := lo } (zzPcX D bs A X S M [.ref (bs + v0), .int v1, .int v2]) (zzQc D bs A out.2.1 out.2.2 (bs + out.2.1.2.1) (some (zzrf bs out.1))) (out.2.1.2.1 - S.2.1) (out.2.1.2.2 - S.2.2) A) (hc_Rd_statement : ∀ {S : zzS} {M : zzM} {out : Option Nat × zzS × zzM} {v0 : Nat} {v1 : Int32}, (∀ q : Nat, bs + S.2.1 ≤ q → A q) → k_Rd_statement S M v0 v1 = some out → zzle S out.2.1 → v0 < S.2.1 → zzk S v0 = 17 → Met l y_Rd_statement (Cond.code y_Rd_statement prog_5_method_7_code 6 (some (.object "BoardScript$Statement")) :: zzW) { frames := fr, cells := out.2.1.2.1 - S.2.1, slots := out.2.1.2.2 - S.2.2, locals := lo } (zzPcX D bs A X S M [.ref (bs + v0), .int v1]) (zzQc D bs A out.2.1 out.2.2 (bs + out.2.1.2.1) (some (zzrf bs out.1))) (out.2.1.2.1 - S.2.1) (out.2.1.2.2 - S.2.2) A) (hc_Rd_part : ∀ {S : zzS} {M : zzM} {out : Int32 × zzS × zzM} {v0 : Nat} {v1 : Option Nat} {v2 : Int32} {v3 : Int32}, (∀ q : Nat, bs + S.2.1 ≤ q → A q) → k_Rd_part S M v0 v1 v2 v3 = some out → zzle S out.2.1 → v0 < S.2.1 → zzk S v0 = 17 → Met l y_Rd_part (Cond.code y_Rd_part prog_5_method_10_code 4 (some .boolean) :: zzW) { frames := fr, cells := out.2.1.2.1 - S.2.1, slots := out.2.1.2.2 - S.2.2, locals := lo } (zzPcX D bs A X S M [.ref (bs + v0), zzrf bs v1, .int v2, .int v3]) (zzQc D bs A out.2.1 out.2.2 (bs + out.2.1.2.1) (some (.int out.1))) (out.2.1.2.1 - S.2.1) (out.2.1.2.2 - S.2.2) A) (hc_Rd_enclosed : ∀ {S : zzS} {M : zzM} {out : Option Nat × zzS × zzM} {v0 : Nat} {v1 : Int32} {v2 : Int32} {v3 : Int32}, (∀ q : Nat, bs + S.2.1 ≤ q → A q) → k_Rd_enclosed S M v0 v1 v2 v3 = some out → zzle S out.2.1 → v0 < S.2.1 → zzk S v0 = 17 → Met l y_Rd_enclosed (Cond.code y_Rd_enclosed prog_5_method_11_code 5 (some (.object "BoardScript$Block")) :: zzW) { frames := fr, cells := out.2.1.2.1 - S.2.1, slots := out.2.1.2.2 - S.2.2, locals := lo } (zzPcX D bs A X S M [.ref (bs + v0), .int v1, .int v2, .int v3]) (zzQc D bs A out.2.1 out.2.2 (bs + out.2.1.2.1) (some (zzrf bs out.1))) (out.2.1.2.1 - S.2.1) (out.2.1.2.2 - S.2.2) A)   : ∀ (n : Nat) (S : zzS) (M : zzM) (v0 : Nat) (v1 : Int32) (v2 : Int32) (v3 : Nat) (v4 : Int32) (hn_v0 : v0 < S.2.1) (hk_v0 : zzk S v0 = 17) (hn_v3 : v3 < S.2.1) (hk_v3 : zzk S v3 = 12) (hm : zzle S0 S) (ho : zzle S out.2.1) (hF : F_Rd_block_11 k_Rd_block k_Rd_statement k_Rd_part k_Rd_enclosed  n S M v0 v1 v2 v3 v4 = some out), zzB p l e { frames := fr + 1, cells := out.2.1.2.1 - S0.2.1, slots := out.2.1.2.2 - S0.2.2, locals := lo + 60 } s m args below meth c 6 D bs A (MQ below (zzQc D bs A out.2.1 out.2.2 (bs + out.2.1.2.1) (some (zzrf bs out.1))) args s (out.2.1.2.1 - S0.2.1) (out.2.1.2.2 - S0.2.2) A) (S.2.1 - S0.2.1) (S.2.2 - S0.2.2) S M (bs + S.2.1) 11 [(0, .ref (bs + v0)), (1, .int v1), (2, .int v2), (3, .ref (bs + v3)), (4, .int v4)] [] := by
  intro n
  induction n with
  | zero => intro S M v0 v1 v2 v3 v4 hn_v0 hk_v0 hn_v3 hk_v3 hm ho hF; cases hF
  | succ n ih => intro S M v0 v1 v2 v3 v4 hn_v0 hk_v0 hn_v3 hk_v3 hm ho hF; exact g_Rd_block_11_b C hlocks hr hin E hAb hXs hnx hfr hlo hc_Rd_block hc_Rd_statement hc_Rd_part hc_Rd_enclosed  ih S M v0 v1 v2 v3 v4 hn_v0 hk_v0 hn_v3 hk_v3 hm ho hF
def F_Rd_block (k_Rd_block : zzS → zzM → Nat → Int32 → Int32 → Option (Option Nat × zzS × zzM)) (k_Rd_statement : zzS → zzM → Nat → Int32 → Option (Option Nat × zzS × zzM)) (k_Rd_part : zzS → zzM → Nat → Option Nat → Int32 → Int32 → Option (Int32 × zzS × zzM)) (k_Rd_enclosed : zzS → zzM → Nat → Int32 → Int32 → Int32 → Option (Option Nat × zzS × zzM)) (S : zzS) (M : zzM) (v0 : Nat) (v1 : Int32) (v2 : Int32) : Option (Option Nat × zzS × zzM) := zzmk S M 12 0 2 fun b1 S M => zzcall (F_Bl_init S M b1) fun r2 M => zzck (zzhas S v0 17) (F_Rd_block_11 k_Rd_block k_Rd_statement k_Rd_part k_Rd_enclosed  2000 S M v0 v1 v2 b1 (0 : Int32))
set_option maxHeartbeats 4000000 in
set_option maxRecDepth 100000 in
theorem c_Rd_block {l : Launch} {D : zzD} {bs : Nat} {A : Nat → Prop} {X : State → Prop} {S : zzS} {M : zzM} {out : Option Nat × zzS × zzM} {adK adV : Nat → Nat} {v0 : Nat} {v1 : Int32} {v2 : Int32} {k_Rd_block : zzS → zzM → Nat → Int32 → Int32 → Option (Option Nat × zzS × zzM)} {k_Rd_statement : zzS → zzM → Nat → Int32 → Option (Option Nat × zzS × zzM)} {k_Rd_part : zzS → zzM → Nat → Option Nat → Int32 → Int32 → Option (Int32 × zzS × zzM)} {k_Rd_enclosed : zzS → zzM → Nat → Int32 → Int32 → Int32 → Option (Option Nat × zzS × zzM)} {fr lo : Nat} (hA : ∀ q : Nat, bs + S.2.1 ≤ q → A q) (hAb : ∀ q : Nat, A q → bs ≤ q) (hXs : zzStab bs X) (hnx : ∀ U : State, X U → zzXF bs adK adV U) (hfr : 80 ≤ fr) (hlo : 4600 ≤ lo) (hc_Rd_block : ∀ {S : zzS} {M : zzM} {out : Option Nat × zzS × zzM} {v0 : Nat} {v1 : Int32} {v2 : Int32}, (∀ q : Nat, bs + S.2.1 ≤ q → A q) → k_Rd_block S M v0 v1 v2 = some out → zzle S out.2.1 → v0 < S.2.1 → zzk S v0 = 17 → Met l y_Rd_block (Cond.code y_Rd_block prog_5_method_6_code 6 (some (.object "BoardScript$Block")) :: zzW) { frames := fr, cells := out.2.1.2.1 - S.2.1, slots := out.2.1.2.2 - S.2.2, locals := lo } (zzPcX D bs A X S M [.ref (bs + v0), .int v1, .int v2]) (zzQc D bs A out.2.1 out.2.2 (bs + out.2.1.2.1) (some (zzrf bs out.1))) (out.2.1.2.1 - S.2.1) (out.2.1.2.2 - S.2.2) A) (hc_Rd_statement : ∀ {S : zzS} {M : zzM} {out : Option Nat × zzS × zzM} {v0 : Nat} {v1 : Int32}, (∀ q : Nat, bs + S.2.1 ≤ q → A q) → k_Rd_statement S M v0 v1 = some out → zzle S out.2.1 → v0 < S.2.1 → zzk S v0 = 17 → Met l y_Rd_statement (Cond.code y_Rd_statement prog_5_method_7_code 6 (some (.object "BoardScript$Statement")) :: zzW) { frames := fr, cells := out.2.1.2.1 - S.2.1, slots := out.2.1.2.2 - S.2.2, locals := lo } (zzPcX D bs A X S M [.ref (bs + v0), .int v1]) (zzQc D bs A out.2.1 out.2.2 (bs + out.2.1.2.1) (some (zzrf bs out.1))) (out.2.1.2.1 - S.2.1) (out.2.1.2.2 - S.2.2) A) (hc_Rd_part : ∀ {S : zzS} {M : zzM} {out : Int32 × zzS × zzM} {v0 : Nat} {v1 : Option Nat} {v2 : Int32} {v3 : Int32}, (∀ q : Nat, bs + S.2.1 ≤ q → A q) → k_Rd_part S M v0 v1 v2 v3 = some out → zzle S out.2.1 → v0 < S.2.1 → zzk S v0 = 17 → Met l y_Rd_part (Cond.code y_Rd_part prog_5_method_10_code 4 (some .boolean) :: zzW) { frames := fr, cells := out.2.1.2.1 - S.2.1, slots := out.2.1.2.2 - S.2.2, locals := lo } (zzPcX D bs A X S M [.ref (bs + v0), zzrf bs v1, .int v2, .int v3]) (zzQc D bs A out.2.1 out.2.2 (bs + out.2.1.2.1) (some (.int out.1))) (out.2.1.2.1 - S.2.1) (out.2.1.2.2 - S.2.2) A) (hc_Rd_enclosed : ∀ {S : zzS} {M : zzM} {out : Option Nat × zzS × zzM} {v0 : Nat} {v1 : Int32} {v2 : Int32} {v3 : Int32}, (∀ q : Nat, bs + S.2.1 ≤ q → A q) → k_Rd_enclosed S M v0 v1 v2 v3 = some out → zzle S out.2.1 → v0 < S.2.1 → zzk S v0 = 17 → Met l y_Rd_enclosed (Cond.code y_Rd_enclosed prog_5_method_11_code 5 (some (.object "BoardScript$Block")) :: zzW) { frames := fr, cells := out.2.1.2.1 - S.2.1, slots := out.2.1.2.2 - S.2.2, locals := lo } (zzPcX D bs A X S M [.ref (bs + v0), .int v1, .int v2, .int v3]) (zzQc D bs A out.2.1 out.2.2 (bs + out.2.1.2.1) (some (zzrf bs out.1))) (out.2.1.2.1 - S.2.1) (out.2.1.2.2 - S.2.2) A) (hF : F_Rd_block k_Rd_block k_Rd_statement k_Rd_part k_Rd_enclosed S M v0 v1 v2 = some out) (ho : zzle S out.2.1) (hn_v0 : v0 < S.2.1) (hk_v0 : zzk S v0 = 17) : Met l y_Rd_block (Cond.code y_Rd_block prog_5_method_6_code 6 (some (.object "BoardScript$Block")) :: zzW) { frames := fr + 1, cells := out.2.1.2.1 - S.2.1, slots := out.2.1.2.2 - S.2.2, locals := lo + 60 } (zzPcX D bs A X S M [.ref (bs + v0), .int v1, .int v2]) (zzQc D bs A out.2.1 out.2.2 (bs + out.2.1.2.1) (some (zzrf bs out.1))) (out.2.1.2.1 - S.2.1) (out.2.1.2.2 - S.2.2) A := by
  refine zz_metA [.ref (bs + v0), .int v1, .int v2] (by decide) (Nat.le_of_ble_eq_true rfl) hA hAb hXs (fun p e s m args below meth c C hr hlocks hin E => ?_)
  have hm : zzle S S := ⟨Nat.le_refl _, Nat.le_refl _⟩
  refine zz_eq (lv' := [(0, .ref (bs + v0)), (1, .int v1), (2, .int v2)]) (st' := []) rfl rfl ?_
  unfold F_Rd_block at hF
  refine zi_new C E hm zc_2 (by decide +kernel) zw_593 zw_578 zw_547 d_Rd_block_0 hF (fun b1 S M hn_b1 hk_b1 hm ho hF => ?_)
  refine zi_dup C d_Rd_block_3 rfl ?_
  obtain ⟨r2, M, hqr2, hF⟩ := zzcall_e hF
  refine zi_callIN0 (M2 := M) (n := 0) (As := []) (st := [.ref (bs + b1)]) C E hm (c_Bl_init hqr2 hn_b1 hk_b1) zw_546 zw_547 (by decide +kernel) ⟨by show _ ≤ fr + 1; omega, by show _ ≤ lo + 60; omega⟩ rfl (Nat.le_of_ble_eq_true rfl) (zz_hf hm ho) (fun hx => (hnx _ hx).1.2.2.2.2.1) zw_548 rfl rfl d_Rd_block_4 ?_
  refine zi_astore_n (lv' := [(3, .ref (bs + b1)), (0, .ref (bs + v0)), (1, .int v1), (2, .int v2)]) C d_Rd_block_7 rfl (by decide) rfl ?_
  refine zi_iconst (v := 0) C d_Rd_block_8 (by decide) ?_
  refine zi_istore (lv' := [(4, .int (0 : Int32)), (3, .ref (bs + b1)), (0, .ref (bs + v0)), (1, .int v1), (2, .int v2)]) C d_Rd_block_9 (by decide) rfl ?_
  obtain ⟨hh, hF⟩ := zzck_e hF
  obtain ⟨hn_v0, hk_v0⟩ := of_decide_eq_true hh
  refine zz_sub [2, 3, 4, 1, 0] (lv' := [(0, .ref (bs + v0)), (1, .int v1), (2, .int v2), (3, .ref (bs + b1)), (4, .int (0 : Int32))]) rfl ?_
  exact g_Rd_block_11 C hlocks hr hin E hAb hXs hnx hfr hlo hc_Rd_block hc_Rd_statement hc_Rd_part hc_Rd_enclosed  _ _ _ v0 v1 v2 b1 (0 : Int32) hn_v0 hk_v0 hn_b1 hk_b1 hm ho hF
def F_Rd_statement_58_b (k_Rd_block : zzS → zzM → Nat → Int32 → Int32 → Option (Option Nat × zzS × zzM)) (k_Rd_statement : zzS → zzM → Nat → Int32 → Option (Option Nat × zzS × zzM)) (k_Rd_part : zzS → zzM → Nat → Option Nat → Int32 → Int32 → Option (Int32 × zzS × zzM)) (k_Rd_enclosed : zzS → zzM → Nat → Int32 → Int32 → Int32 → Option (Option Nat × zzS × zzM)) (k58 : zzS → zzM → Nat → Int32 → Nat → Option Nat → Int32 → Option (Option Nat × zzS × zzM)) (S : zzS) (M : zzM) (v0 : Nat) (v1 : Int32) (v3 : Nat) (v4 : Option Nat) (v5 : Int32) : Option (Option Nat × zzS × zzM) := zzck (zzsq v3) (if (nI (zzsl v3)) ≤ v5 then (some (v4, S, M)) else (zzck (zzscok v3 v5) (zzcallA S (k_Rd_part S M v0 v4 (zzsb v3 (v5).toNatClampNeg) v1) fun r3 S M => if r3 = 0 then (some (none, S, M)) else (zzlet (v5 + (1 : Int32)) fun x4 => zzck (zzhas S v0 17) (k58 S M v0 v1 v3 v4 x4)))))
def F_Rd_statement_58 (k_Rd_block : zzS → zzM → Nat → Int32 → Int32 → Option (Option Nat × zzS × zzM)) (k_Rd_statement : zzS → zzM → Nat → Int32 → Option (Option Nat × zzS × zzM)) (k_Rd_part : zzS → zzM → Nat → Option Nat → Int32 → Int32 → Option (Int32 × zzS × zzM)) (k_Rd_enclosed : zzS → zzM → Nat → Int32 → Int32 → Int32 → Option (Option Nat × zzS × zzM))  (n : Nat) : zzS → zzM → Nat → Int32 → Nat → Option Nat → Int32 → Option (Option Nat × zzS × zzM) := Nat.rec (fun _ _ _ _ _ _ _ => none) (fun _ k => F_Rd_statement_58_b k_Rd_block k_Rd_statement k_Rd_part k_Rd_enclosed  k) n
set_option maxHeartbeats 4000000 in
set_option maxRecDepth 100000 in
theorem g_Rd_statement_58_b {p : Program} {l : Launch} {e : Env} {s : State} {m : MethodId} {args : Array Value} {below : List Frame} {meth : Method} {c : Code} {D : zzD} {bs : Nat} {A : Nat → Prop} {X : State → Prop} {S0 : zzS} {out : Option Nat × zzS × zzM} {adK adV : Nat → Nat} {k_Rd_block : zzS → zzM → Nat → Int32 → Int32 → Option (Option Nat × zzS × zzM)} {k_Rd_statement : zzS → zzM → Nat → Int32 → Option (Option Nat × zzS × zzM)} {k_Rd_part : zzS → zzM → Nat → Option Nat → Int32 → Int32 → Option (Int32 × zzS × zzM)} {k_Rd_enclosed : zzS → zzM → Nat → Int32 → Int32 → Int32 → Option (Option Nat × zzS × zzM)} {fr lo : Nat} (C : zzC p s m args c prog_5_method_7_code "BoardScript$Reader" 6 D) (hlocks : meth.locks = false) (hr : meth.sig.returnType = (some (.object "BoardScript$Statement"))) (hin : meth.name = "statement") (E : zzE s { frames := fr + 1, cells := out.2.1.2.1 - S0.2.1, slots := out.2.1.2.2 - S0.2.2, locals := lo + 60 } bs A X S0 out.2.1) (hAb : ∀ q : Nat, A q → bs ≤ q) (hXs : zzStab bs X) (hnx : ∀ U : State, X U → zzXF bs adK adV U) (hfr : 80 ≤ fr) (hlo : 4600 ≤ lo) (hc_Rd_block : ∀ {S : zzS} {M : zzM} {out : Option Nat × zzS × zzM} {v0 : Nat} {v1 : Int32} {v2 : Int32}, (∀ q : Nat, bs + S.2.1 ≤ q → A q) → k_Rd_block S M v0 v1 v2 = some out → zzle S out.2.1 → v0 < S.2.1 → zzk S v0 = 17 → Met l y_Rd_block (Cond.code y_Rd_block prog_5_method_6_code 6 (some (.object "BoardScript$Block")) :: zzW) { frames := fr, cells := out.2.1.2.1 - S.2.1, slots := out.2.1.2.2 - S.2.2, locals := lo } (zzPcX D bs A X S M [.ref (bs + v0), .int v1, .int v2]) (zzQc D bs A out.2.1 out.2.2 (bs + out.2.1.2.1) (some (zzrf bs out.1))) (out.2.1.2.1 - S.2.1) (out.2.1.2.2 - S.2.2) A) (hc_Rd_statement : ∀ {S : zzS} {M : zzM} {out : Option Nat × zzS × zzM} {v0 : Nat} {v1 : Int32}, (∀ q : Nat, bs + S.2.1 ≤ q → A q) → k_Rd_statement S M v0 v1 = some out → zzle S out.2.1 → v0 < S.2.1 → zzk S v0 = 17 → Met l y_Rd_statement (Cond.code y_Rd_statement prog_5_method_7_code 6 (some (.object "BoardScript$Statement")) :: zzW) { frames := fr, cells := out.2.1.2.1 - S.2.1, slots := out.2.1.2.2 - S.2.2, locals := lo } (zzPcX D bs A X S M [.ref (bs + v0), .int v1]) (zzQc D bs A out.2.1 out.2.2 (bs + out.2.1.2.1) (some (zzrf bs out.1))) (out.2.1.2.1 - S.2.1) (out.2.1.2.2 - S.2.2) A) (hc_Rd_part : ∀ {S : zzS} {M : zzM} {out : Int32 × zzS × zzM} {v0 : Nat} {v1 : Option Nat} {v2 : Int32} {v3 : Int32}, (∀ q : Nat, bs + S.2.1 ≤ q → A q) → k_Rd_part S M v0 v1 v2 v3 = some out → zzle S out.2.1 → v0 < S.2.1 → zzk S v0 = 17 → Met l y_Rd_part (Cond.code y_Rd_part prog_5_method_10_code 4 (some .boolean) :: zzW) { frames := fr, cells := out.2.1.2.1 - S.2.1, slots := out.2.1.2.2 - S.2.2, locals := lo } (zzPcX D bs A X S M [.ref (bs + v0), zzrf bs v1, .int v2, .int v3]) (zzQc D bs A out.2.1 out.2.2 (bs + out.2.1.2.1) (some (.int out.1))) (out.2.1.2.1 - S.2.1) (out.2.1.2.2 - S.2.2) A) (hc_Rd_enclosed : ∀ {S : zzS} {M : zzM} {out : Option Nat × zzS × zzM} {v0 : Nat} {v1 : Int32} {v2 : Int32} {v3 : Int32}, (∀ q : Nat, bs + S.2.1 ≤ q → A q) → k_Rd_enclosed S M v0 v1 v2 v3 = some out → zzle S out.2.1 → v0 < S.2.1 → zzk S v0 = 17 → Met l y_Rd_enclosed (Cond.code y_Rd_enclosed prog_5_method_11_code 5 (some (.object "BoardScript$Block")) :: zzW) { frames := fr, cells := out.2.1.2.1 - S.2.1, slots := out.2.1.2.2 - S.2.2, locals := lo } (zzPcX D bs A X S M [.ref (bs + v0), .int v1, .int v2, .int v3]) (zzQc D bs A out.2.1 out.2.2 (bs + out.2.1.2.1) (some (zzrf bs out.1))) (out.2.1.2.1 - S.2.1) (out.2.1.2.2 - S.2.2) A) {k58 : zzS → zzM → Nat → Int32 → Nat → Option Nat → Int32 → Option (Option Nat × zzS × zzM)} (hk58 : ∀ (S : zzS) (M : zzM) (v0 : Nat) (v1 : Int32) (v3 : Nat) (v4 : Option Nat) (v5 : Int32) (hn_v0 : v0 < S.2.1) (hk_v0 : zzk S v0 = 17), zzle S0 S → zzle S out.2.1 → k58 S M v0 v1 v3 v4 v5 = some out → zzB p l e { frames := fr + 1, cells := out.2.1.2.1 - S0.2.1, slots := out.2.1.2.2 - S0.2.2, locals := lo + 60 } s m args below meth c 6 D bs A (MQ below (zzQc D bs A out.2.1 out.2.2 (bs + out.2.1.2.1) (some (zzrf bs out.1))) args s (out.2.1.2.1 - S0.2.1) (out.2.1.2.2 - S0.2.2) A) (S.2.1 - S0.2.1) (S.2.2 - S0.2.2) S M (bs + S.2.1) 58 [(0, .ref (bs + v0)), (1, .int v1), (3, .ref (adK v3)), (4, zzrf bs v4), (5, .int v5)] []) (S : zzS) (M : zzM) (v0 : Nat) (v1 : Int32) (v3 : Nat) (v4 : Option Nat) (v5 : Int32) (hn_v0 : v0 < S.2.1) (hk_v0 : zzk S v0 = 17) (hm : zzle S0 S) (ho : zzle S out.2.1) (hF : F_Rd_statement_58_b k_Rd_block k_Rd_statement k_Rd_part k_Rd_enclosed k58 S M v0 v1 v3 v4 v5 = some out) : zzB p l e { frames := fr + 1, cells := out.2.1.2.1 - S0.2.1, slots := out.2.1.2.2 - S0.2.2, locals := lo + 60 } s m args below meth c 6 D bs A (MQ below (zzQc D bs A out.2.1 out.2.2 (bs + out.2.1.2.1) (some (zzrf bs out.1))) args s (out.2.1.2.1 - S0.2.1) (out.2.1.2.2 - S0.2.2) A) (S.2.1 - S0.2.1) (S.2.2 - S0.2.2) S M (bs + S.2.1) 58 [(0, .ref (bs + v0)), (1, .int v1), (3, .ref (adK v3)), (4, zzrf bs v4), (5, .int v5)] [] := by
  unfold F_Rd_statement_58_b at hF
  refine zi_iload C d_Rd_statement_58 4 rfl ?_
  refine zi_aload_n C d_Rd_statement_60 rfl 2 rfl ?_
  obtain ⟨hq1, hF⟩ := zzck_e hF
  refine zi_callXV (n := 0) (r := (nI (zzsl v3))) (As := []) (st := [.int v5]) C E.2.2.2.2.1 hXs hAb (by have h9 := E.2.1; omega) (hnx _ E.2.2.2.2.1).2 (of_decide_eq_true hq1) rfl (c_Jlength hAb hXs hnx (of_decide_eq_true hq1)) jc_length jn_String (by decide +kernel) ⟨by show _ ≤ fr + 1; omega, by show _ ≤ lo + 60; omega⟩ rfl (Nat.le_of_ble_eq_true rfl) (zz_hf hm ho) jl_length ji_length js_length rfl d_Rd_statement_61 ?_
  refine zi_icmp_ge (tgt := 91) C d_Rd_statement_64 (by decide) hF (fun hF => ?_) (fun hF => ?_)
  · refine zi_aloadO C d_Rd_statement_91 3 rfl ?_
    cases hF
    exact zi_aret C hlocks hr (Or.inl ⟨_, rfl⟩) (by cases v4; exact Or.inl rfl; exact Or.inr ⟨_, rfl⟩) d_Rd_statement_93 rfl rfl rfl rfl
  · refine zi_aload_n C d_Rd_statement_67 rfl 0 rfl ?_
    refine zi_aloadO C d_Rd_statement_68 3 rfl ?_
    refine zi_aload_n C d_Rd_statement_70 rfl 2 rfl ?_
    refine zi_iload C d_Rd_statement_71 4 rfl ?_
    obtain ⟨hq2, hF⟩ := zzck_e hF
    refine zi_callXV (n := 1) (r := (zzsb v3 (v5).toNatClampNeg)) (As := [.int v5]) (st := [zzrf bs v4, .ref (bs + v0)]) C E.2.2.2.2.1 hXs hAb (by have h9 := E.2.1; omega) (hnx _ E.2.2.2.2.1).2 (of_decide_eq_true hq2).1 rfl (c_JcharAt hAb hXs hnx (of_decide_eq_true hq2).1 (of_decide_eq_true hq2).2.1 (of_decide_eq_true hq2).2.2) jc_charAt jn_String (by decide +kernel) ⟨by show _ ≤ fr + 1; omega, by show _ ≤ lo + 60; omega⟩ rfl (by cases v4 <;> exact Nat.le_of_ble_eq_true rfl) (zz_hf hm ho) jl_charAt ji_charAt js_charAt rfl d_Rd_statement_73 ?_
    refine zi_iload_n C d_Rd_statement_76 rfl 1 rfl ?_
    obtain ⟨r3, S1, M1, hqr3, h1, h2, h3, h4, hF⟩ := zzcallA_e hF
    refine zi_callAV (n := 3) (S1 := S1) (M1 := M1) (res := some (.int r3)) (As := [zzrf bs v4, .int (zzsb v3 (v5).toNatClampNeg), .int v1]) (st := []) C E hm (hc_Rd_part (out := (r3, S1, M1)) (zzE.hA E hm)  hqr3 ⟨h1, h2⟩ hn_v0 hk_v0) h1 h2 h3 h4 zw_614 zw_367 (by decide +kernel) ⟨Nat.le_refl _, by show _ ≤ lo + 60; omega⟩ rfl (Nat.le_of_ble_eq_true rfl) zw_615 zw_616 zw_617 zc_7.1 hn_v0 hk_v0 rfl d_Rd_statement_77 (fun hm ho => ?_)
    clear h1 h2 h3 h4
    generalize S1 = S at hF hm ho ⊢
    generalize M1 = M at hF ⊢
    refine zz_eq (lv' := [(0, .ref (bs + v0)), (1, .int v1), (3, .ref (adK v3)), (4, zzrf bs v4), (5, .int v5)]) (st' := [.int r3]) rfl rfl ?_
    refine zi_if_ne (tgt := 85) C d_Rd_statement_80 (by decide) hF (fun hF => ?_) (fun hF => ?_)
    · refine zi_iinc (j := 4) (v0 := 1) C d_Rd_statement_85 rfl (by decide) (by decide) hF (fun x4 => [(5, .int x4), (0, .ref (bs + v0)), (1, .int v1), (3, .ref (adK v3)), (4, zzrf bs v4)]) (fun _ => (by cases v4 <;> rfl)) (fun x4 hF => ?_)
      refine zi_goto (tgt := 58) C d_Rd_statement_88 (by decide) ?_
      obtain ⟨hh, hF⟩ := zzck_e hF
      obtain ⟨hn_v0, hk_v0⟩ := of_decide_eq_true hh
      refine zz_sub [1, 2, 3, 4, 0] (lv' := [(0, .ref (bs + v0)), (1, .int v1), (3, .ref (adK v3)), (4, zzrf bs v4), (5, .int x4)]) rfl ?_
      exact hk58 _ _ v0 v1 v3 v4 x4 hn_v0 hk_v0 hm ho hF
    · refine zi_null C d_Rd_statement_83 ?_
      cases hF
      exact zi_aret C hlocks hr (Or.inl ⟨_, rfl⟩) (Or.inl rfl) d_Rd_statement_84 rfl rfl rfl rfl
set_option maxHeartbeats 4000000 in
set_option maxRecDepth 100000 in
theorem g_Rd_statement_58 {p : Program} {l : Launch} {e : Env} {s : State} {m : MethodId} {args : Array Value} {below : List Frame} {meth : Method} {c : Code} {D : zzD} {bs : Nat} {A : Nat → Prop} {X : State → Prop} {S0 : zzS} {out : Option Nat × zzS × zzM} {adK adV : Nat → Nat} {k_Rd_block : zzS → zzM → Nat → Int32 → Int32 → Option (Option Nat × zzS × zzM)} {k_Rd_statement : zzS → zzM → Nat → Int32 → Option (Option Nat × zzS × zzM)} {k_Rd_part : zzS → zzM → Nat → Option Nat → Int32 → Int32 → Option (Int32 × zzS × zzM)} {k_Rd_enclosed : zzS → zzM → Nat → Int32 → Int32 → Int32 → Option (Option Nat × zzS × zzM)} {fr lo : Nat} (C : zzC p s m args c prog_5_method_7_code "BoardScript$Reader" 6 D) (hlocks : meth.locks = false) (hr : meth.sig.returnType = (some (.object "BoardScript$Statement"))) (hin : meth.name = "statement") (E : zzE s { frames := fr + 1, cells := out.2.1.2.1 - S0.2.1, slots := out.2.1.2.2 - S0.2.2, locals := lo + 60 } bs A X S0 out.2.1) (hAb : ∀ q : Nat, A q → bs ≤ q) (hXs : zzStab bs X) (hnx : ∀ U : State, X U → zzXF bs adK adV U) (hfr : 80 ≤ fr) (hlo : 4600 ≤ lo) (hc_Rd_block : ∀ {S : zzS} {M : zzM} {out : Option Nat × zzS × zzM} {v0 : Nat} {v1 : Int32} {v2 : Int32}, (∀ q : Nat, bs + S.2.1 ≤ q → A q) → k_Rd_block S M v0 v1 v2 = some out → zzle S out.2.1 → v0 < S.2.1 → zzk S v0 = 17 → Met l y_Rd_block (Cond.code y_Rd_block prog_5_method_6_code 6 (some (.object "BoardScript$Block")) :: zzW) { frames := fr, cells := out.2.1.2.1 - S.2.1, slots := out.2.1.2.2 - S.2.2, locals := lo } (zzPcX D bs A X S M [.ref (bs + v0), .int v1, .int v2]) (zzQc D bs A out.2.1 out.2.2 (bs + out.2.1.2.1) (some (zzrf bs out.1))) (out.2.1.2.1 - S.2.1) (out.2.1.2.2 - S.2.2) A) (hc_Rd_statement : ∀ {S : zzS} {M : zzM} {out : Option Nat × zzS × zzM} {v0 : Nat} {v1 : Int32}, (∀ q : Nat, bs + S.2.1 ≤ q → A q) → k_Rd_statement S M v0 v1 = some out → zzle S out.2.1 → v0 < S.2.1 → zzk S v0 = 17 → Met l y_Rd_statement (Cond.code y_Rd_statement prog_5_method_7_code 6 (some (.object "BoardScript$Statement")) :: zzW) { frames := fr, cells := out.2.1.2.1 - S.2.1, slots := out.2.1.2.2 - S.2.2, locals := lo } (zzPcX D bs A X S M [.ref (bs + v0), .int v1]) (zzQc D bs A out.2.1 out.2.2 (bs + out.2.1.2.1) (some (zzrf bs out.1))) (out.2.1.2.1 - S.2.1) (out.2.1.2.2 - S.2.2) A) (hc_Rd_part : ∀ {S : zzS} {M : zzM} {out : Int32 × zzS × zzM} {v0 : Nat} {v1 : Option Nat} {v2 : Int32} {v3 : Int32}, (∀ q : Nat, bs + S.2.1 ≤ q → A q) → k_Rd_part S M v0 v1 v2 v3 = some out → zzle S out.2.1 → v0 < S.2.1 → zzk S v0 = 17 → Met l y_Rd_part (Cond.code y_Rd_part prog_5_method_10_code 4 (some .boolean) :: zzW) { frames := fr, cells := out.2.1.2.1 - S.2.1, slots := out.2.1.2.2 - S.2.2, locals := lo } (zzPcX D bs A X S M [.ref (bs + v0), zzrf bs v1, .int v2, .int v3]) (zzQc D bs A out.2.1 out.2.2 (bs + out.2.1.2.1) (some (.int out.1))) (out.2.1.2.1 - S.2.1) (out.2.1.2.2 - S.2.2) A) (hc_Rd_enclosed : ∀ {S : zzS} {M : zzM} {out : Option Nat × zzS × zzM} {v0 : Nat} {v1 : Int32} {v2 : Int32} {v3 : Int32}, (∀ q : Nat, bs + S.2.1 ≤ q → A q) → k_Rd_enclosed S M v0 v1 v2 v3 = some out → zzle S out.2.1 → v0 < S.2.1 → zzk S v0 = 17 → Met l y_Rd_enclosed (Cond.code y_Rd_enclosed prog_5_method_11_code 5 (some (.object "BoardScript$Block")) :: zzW) { frames := fr, cells := out.2.1.2.1 - S.2.1, slots := out.2.1.2.2 - S.2.2, locals := lo } (zzPcX D bs A X S M [.ref (bs + v0), .int v1, .int v2, .int v3]) (zzQc D bs A out.2.1 out.2.2 (bs + out.2.1.2.1) (some (zzrf bs out.1))) (out.2.1.2.1 - S.2.1) (out.2.1.2.2 - S.2.2) A)   : ∀ (n : Nat) (S : zzS) (M : zzM) (v0 : Nat) (v1 : Int32) (v3 : Nat) (v4 : Option Nat) (v5 : Int32) (hn_v0 : v0 < S.2.1) (hk_v0 : zzk S v0 = 17) (hm : zzle S0 S) (ho : zzle S out.2.1) (hF : F_Rd_statement_58 k_Rd_block k_Rd_statement k_Rd_part k_Rd_enclosed  n S M v0 v1 v3 v4 v5 = some out), zzB p l e { frames := fr + 1, cells := out.2.1.2.1 - S0.2.1, slots := out.2.1.2.2 - S0.2.2, locals := lo + 60 } s m args below meth c 6 D bs A (MQ below (zzQc D bs A out.2.1 out.2.2 (bs + out.2.1.2.1) (some (zzrf bs out.1))) args s (out.2.1.2.1 - S0.2.1) (out.2.1.2.2 - S0.2.2) A) (S.2.1 - S0.2.1) (S.2.2 - S0.2.2) S M (bs + S.2.1) 58 [(0, .ref (bs + v0)), (1, .int v1), (3, .ref (adK v3)), (4, zzrf bs v4), (5, .int v5)] [] := by
  intro n
  induction n with
  | zero => intro S M v0 v1 v3 v4 v5 hn_v0 hk_v0 hm ho hF; cases hF
  | succ n ih => intro S M v0 v1 v3 v4 v5 hn_v0 hk_v0 hm ho hF; exact g_Rd_statement_58_b C hlocks hr hin E hAb hXs hnx hfr hlo hc_Rd_block hc_Rd_statement hc_Rd_part hc_Rd_enclosed  ih S M v0 v1 v3 v4 v5 hn_v0 hk_v0 hm ho hF
def F_Rd_statement (k_Rd_block : zzS → zzM → Nat → Int32 → Int32 → Option (Option Nat × zzS × zzM)) (k_Rd_statement : zzS → zzM → Nat → Int32 → Option (Option Nat × zzS × zzM)) (k_Rd_part : zzS → zzM → Nat → Option Nat → Int32 → Int32 → Option (Int32 × zzS × zzM)) (k_Rd_enclosed : zzS → zzM → Nat → Int32 → Int32 → Int32 → Option (Option Nat × zzS × zzM)) (S : zzS) (M : zzM) (v0 : Nat) (v1 : Int32) : Option (Option Nat × zzS × zzM) := zzcall (F_Rd_peek S M v0) fun r1 M => zzcallA S (F_Rd_shapeOf S M r1) fun r2 S M => zzck (zzsq r2) (if (zzsE r2) = 0 then (zzck (zzhas S v0 17) (zzlet (zzI M v0 4) fun x4 => if x4 < (100 : Int32) then (zzcallA S (F_Rd_begun S M v0 r1) fun r5 S M => zzck (zzhas S v0 17) (zzlet (zzI M v0 4) fun x6 => zzlet (x6 + (1 : Int32)) fun x7 => zzlet (zzsI M v0 4 x7) fun M => zzlet (zzI M v0 2) fun x8 => zzlet (x8 + (1 : Int32)) fun x9 => zzlet (zzsI M v0 2 x9) fun M => F_Rd_statement_58 k_Rd_block k_Rd_statement k_Rd_part k_Rd_enclosed  2000 S M v0 v1 r2 r5 (0 : Int32))) else (some (none, S, M)))) else (some (none, S, M)))
set_option maxHeartbeats 4000000 in
set_option maxRecDepth 100000 in
theorem c_Rd_statement {l : Launch} {D : zzD} {bs : Nat} {A : Nat → Prop} {X : State → Prop} {S : zzS} {M : zzM} {out : Option Nat × zzS × zzM} {adK adV : Nat → Nat} {v0 : Nat} {v1 : Int32} {k_Rd_block : zzS → zzM → Nat → Int32 → Int32 → Option (Option Nat × zzS × zzM)} {k_Rd_statement : zzS → zzM → Nat → Int32 → Option (Option Nat × zzS × zzM)} {k_Rd_part : zzS → zzM → Nat → Option Nat → Int32 → Int32 → Option (Int32 × zzS × zzM)} {k_Rd_enclosed : zzS → zzM → Nat → Int32 → Int32 → Int32 → Option (Option Nat × zzS × zzM)} {fr lo : Nat} (hA : ∀ q : Nat, bs + S.2.1 ≤ q → A q) (hAb : ∀ q : Nat, A q → bs ≤ q) (hXs : zzStab bs X) (hnx : ∀ U : State, X U → zzXF bs adK adV U) (hfr : 80 ≤ fr) (hlo : 4600 ≤ lo) (hc_Rd_block : ∀ {S : zzS} {M : zzM} {out : Option Nat × zzS × zzM} {v0 : Nat} {v1 : Int32} {v2 : Int32}, (∀ q : Nat, bs + S.2.1 ≤ q → A q) → k_Rd_block S M v0 v1 v2 = some out → zzle S out.2.1 → v0 < S.2.1 → zzk S v0 = 17 → Met l y_Rd_block (Cond.code y_Rd_block prog_5_method_6_code 6 (some (.object "BoardScript$Block")) :: zzW) { frames := fr, cells := out.2.1.2.1 - S.2.1, slots := out.2.1.2.2 - S.2.2, locals := lo } (zzPcX D bs A X S M [.ref (bs + v0), .int v1, .int v2]) (zzQc D bs A out.2.1 out.2.2 (bs + out.2.1.2.1) (some (zzrf bs out.1))) (out.2.1.2.1 - S.2.1) (out.2.1.2.2 - S.2.2) A) (hc_Rd_statement : ∀ {S : zzS} {M : zzM} {out : Option Nat × zzS × zzM} {v0 : Nat} {v1 : Int32}, (∀ q : Nat, bs + S.2.1 ≤ q → A q) → k_Rd_statement S M v0 v1 = some out → zzle S out.2.1 → v0 < S.2.1 → zzk S v0 = 17 → Met l y_Rd_statement (Cond.code y_Rd_statement prog_5_method_7_code 6 (some (.object "BoardScript$Statement")) :: zzW) { frames := fr, cells := out.2.1.2.1 - S.2.1, slots := out.2.1.2.2 - S.2.2, locals := lo } (zzPcX D bs A X S M [.ref (bs + v0), .int v1]) (zzQc D bs A out.2.1 out.2.2 (bs + out.2.1.2.1) (some (zzrf bs out.1))) (out.2.1.2.1 - S.2.1) (out.2.1.2.2 - S.2.2) A) (hc_Rd_part : ∀ {S : zzS} {M : zzM} {out : Int32 × zzS × zzM} {v0 : Nat} {v1 : Option Nat} {v2 : Int32} {v3 : Int32}, (∀ q : Nat, bs + S.2.1 ≤ q → A q) → k_Rd_part S M v0 v1 v2 v3 = some out → zzle S out.2.1 → v0 < S.2.1 → zzk S v0 = 17 → Met l y_Rd_part (Cond.code y_Rd_part prog_5_method_10_code 4 (some .boolean) :: zzW) { frames := fr, cells := out.2.1.2.1 - S.2.1, slots := out.2.1.2.2 - S.2.2, locals := lo } (zzPcX D bs A X S M [.ref (bs + v0), zzrf bs v1, .int v2, .int v3]) (zzQc D bs A out.2.1 out.2.2 (bs + out.2.1.2.1) (some (.int out.1))) (out.2.1.2.1 - S.2.1) (out.2.1.2.2 - S.2.2) A) (hc_Rd_enclosed : ∀ {S : zzS} {M : zzM} {out : Option Nat × zzS × zzM} {v0 : Nat} {v1 : Int32} {v2 : Int32} {v3 : Int32}, (∀ q : Nat, bs + S.2.1 ≤ q → A q) → k_Rd_enclosed S M v0 v1 v2 v3 = some out → zzle S out.2.1 → v0 < S.2.1 → zzk S v0 = 17 → Met l y_Rd_enclosed (Cond.code y_Rd_enclosed prog_5_method_11_code 5 (some (.object "BoardScript$Block")) :: zzW) { frames := fr, cells := out.2.1.2.1 - S.2.1, slots := out.2.1.2.2 - S.2.2, locals := lo } (zzPcX D bs A X S M [.ref (bs + v0), .int v1, .int v2, .int v3]) (zzQc D bs A out.2.1 out.2.2 (bs + out.2.1.2.1) (some (zzrf bs out.1))) (out.2.1.2.1 - S.2.1) (out.2.1.2.2 - S.2.2) A) (hF : F_Rd_statement k_Rd_block k_Rd_statement k_Rd_part k_Rd_enclosed S M v0 v1 = some out) (ho : zzle S out.2.1) (hn_v0 : v0 < S.2.1) (hk_v0 : zzk S v0 = 17) : Met l y_Rd_statement (Cond.code y_Rd_statement prog_5_method_7_code 6 (some (.object "BoardScript$Statement")) :: zzW) { frames := fr + 1, cells := out.2.1.2.1 - S.2.1, slots := out.2.1.2.2 - S.2.2, locals := lo + 60 } (zzPcX D bs A X S M [.ref (bs + v0), .int v1]) (zzQc D bs A out.2.1 out.2.2 (bs + out.2.1.2.1) (some (zzrf bs out.1))) (out.2.1.2.1 - S.2.1) (out.2.1.2.2 - S.2.2) A := by
  refine zz_metA [.ref (bs + v0), .int v1] (by decide) (Nat.le_of_ble_eq_true rfl) hA hAb hXs (fun p e s m args below meth c C hr hlocks hin E => ?_)
  have hm : zzle S S := ⟨Nat.le_refl _, Nat.le_refl _⟩
  refine zz_eq (lv' := [(0, .ref (bs + v0)), (1, .int v1)]) (st' := []) rfl rfl ?_
  unfold F_Rd_statement at hF
  refine zi_aload_n C d_Rd_statement_0 rfl 0 rfl ?_
  obtain ⟨r1, M, hqr1, hF⟩ := zzcall_e hF
  refine zi_callV_i (M2 := M) (r := r1) (n := 0) (As := []) (st := []) C (c_Rd_peek hqr1 hn_v0 hk_v0) zw_366 zw_367 (by decide +kernel) ⟨by show _ ≤ fr + 1; omega, by show _ ≤ lo + 60; omega⟩ rfl (Nat.le_of_ble_eq_true rfl) (zz_hf hm ho) zw_368 zw_369 zw_370 zc_7.1 hn_v0 hk_v0 rfl d_Rd_statement_1 ?_
  refine zi_istore_n (lv' := [(2, .int r1), (0, .ref (bs + v0)), (1, .int v1)]) C d_Rd_statement_4 rfl (by decide) rfl ?_
  refine zi_iload_n C d_Rd_statement_5 rfl 0 rfl ?_
  obtain ⟨r2, S1, M1, hqr2, h1, h2, h3, h4, hF⟩ := zzcallA_e hF
  refine zi_callAS (n := 1) (S1 := S1) (M1 := M1) (res := some (.ref (adK r2))) (As := [.int r1]) (st := []) C E hm (c_Rd_shapeOf (out := (r2, S1, M1)) (zzE.hA E hm) hAb hXs hnx hqr2 ⟨h1, h2⟩ ) h1 h2 h3 h4 zw_606 zw_367 (by decide +kernel) ⟨by show _ ≤ fr + 1; omega, by show _ ≤ lo + 60; omega⟩ rfl (Nat.le_of_ble_eq_true rfl) zw_607 zw_608 rfl d_Rd_statement_6 (fun hm ho => ?_)
  clear h1 h2 h3 h4
  generalize S1 = S at hF hm ho ⊢
  generalize M1 = M at hF ⊢
  refine zz_eq (lv' := [(2, .int r1), (0, .ref (bs + v0)), (1, .int v1)]) (st' := [.ref (adK r2)]) rfl rfl ?_
  refine zi_astore_n (lv' := [(3, .ref (adK r2)), (2, .int r1), (0, .ref (bs + v0)), (1, .int v1)]) C d_Rd_statement_9 rfl (by decide) rfl ?_
  refine zi_aload_n C d_Rd_statement_10 rfl 0 rfl ?_
  obtain ⟨hq3, hF⟩ := zzck_e hF
  refine zi_callXV (n := 0) (r := (zzsE r2)) (As := []) (st := []) C E.2.2.2.2.1 hXs hAb (by have h9 := E.2.1; omega) (hnx _ E.2.2.2.2.1).2 (of_decide_eq_true hq3) rfl (c_JisEmpty hAb hXs hnx (of_decide_eq_true hq3)) jc_isEmpty jn_String (by decide +kernel) ⟨by show _ ≤ fr + 1; omega, by show _ ≤ lo + 60; omega⟩ rfl (Nat.le_of_ble_eq_true rfl) (zz_hf hm ho) jl_isEmpty ji_isEmpty js_isEmpty rfl d_Rd_statement_11 ?_
  refine zi_if_ne (tgt := 26) C d_Rd_statement_14 (by decide) hF (fun hF => ?_) (fun hF => ?_)
  · refine zi_null C d_Rd_statement_26 ?_
    cases hF
    exact zi_aret C hlocks hr (Or.inl ⟨_, rfl⟩) (Or.inl rfl) d_Rd_statement_27 rfl rfl rfl rfl
  · refine zi_aload_n C d_Rd_statement_17 rfl 2 rfl ?_
    obtain ⟨hh, hF⟩ := zzck_e hF
    obtain ⟨hn_v0, hk_v0⟩ := of_decide_eq_true hh
    refine zi_getI C zc_7 (k := 4) (by decide) zw_609 rfl hn_v0 hk_v0 d_Rd_statement_18 (fun _ _ _ => rfl) hF (fun x4 hF => ?_)
    refine zi_bipush (v := 100) C d_Rd_statement_21 (by decide) ?_
    refine zi_icmp_lt (tgt := 28) C d_Rd_statement_23 (by decide) hF (fun hF => ?_) (fun hF => ?_)
    · refine zi_aload_n C d_Rd_statement_28 rfl 2 rfl ?_
      refine zi_iload_n C d_Rd_statement_29 rfl 1 rfl ?_
      obtain ⟨r5, S1, M1, hqr5, h1, h2, h3, h4, hF⟩ := zzcallA_e hF
      refine zi_callAV (n := 1) (S1 := S1) (M1 := M1) (res := some (zzrf bs r5)) (As := [.int r1]) (st := []) C E hm (c_Rd_begun (out := (r5, S1, M1)) (zzE.hA E hm) hAb hXs (fun U h => (hnx U h).1) hqr5 ⟨h1, h2⟩ hn_v0 hk_v0) h1 h2 h3 h4 zw_610 zw_367 (by decide +kernel) ⟨by show _ ≤ fr + 1; omega, by show _ ≤ lo + 60; omega⟩ rfl (Nat.le_of_ble_eq_true rfl) zw_611 zw_612 zw_613 zc_7.1 hn_v0 hk_v0 rfl d_Rd_statement_30 (fun hm ho => ?_)
      clear h1 h2 h3 h4
      generalize S1 = S at hF hm ho ⊢
      generalize M1 = M at hF ⊢
      refine zz_eq (lv' := [(3, .ref (adK r2)), (2, .int r1), (0, .ref (bs + v0)), (1, .int v1)]) (st' := [zzrf bs r5]) rfl rfl ?_
      refine zi_astoreO (lv' := [(4, zzrf bs r5), (3, .ref (adK r2)), (2, .int r1), (0, .ref (bs + v0)), (1, .int v1)]) C d_Rd_statement_33 (by decide) rfl ?_
      refine zi_aload_n C d_Rd_statement_35 rfl 3 rfl ?_
      refine zi_dup C d_Rd_statement_36 rfl ?_
      obtain ⟨hh, hF⟩ := zzck_e hF
      obtain ⟨hn_v0, hk_v0⟩ := of_decide_eq_true hh
      refine zi_getI C zc_7 (k := 4) (by decide) zw_609 rfl hn_v0 hk_v0 d_Rd_statement_37 (fun _ _ _ => rfl) hF (fun x6 hF => ?_)
      refine zi_iconst (v := 1) C d_Rd_statement_40 (by decide) ?_
      refine zi_iadd C d_Rd_statement_41 hF (fun x7 hF => ?_)
      refine zi_putI C zc_7 (k := 4) (by decide) zw_609 rfl (Or.inl rfl) hn_v0 hk_v0 d_Rd_statement_42 rfl hF (fun M hF => ?_)
      refine zi_aload_n C d_Rd_statement_45 rfl 3 rfl ?_
      refine zi_dup C d_Rd_statement_46 rfl ?_
      refine zi_getI C zc_7 (k := 2) (by decide) zw_362 rfl hn_v0 hk_v0 d_Rd_statement_47 (fun _ _ _ => rfl) hF (fun x8 hF => ?_)
      refine zi_iconst (v := 1) C d_Rd_statement_50 (by decide) ?_
      refine zi_iadd C d_Rd_statement_51 hF (fun x9 hF => ?_)
      refine zi_putI C zc_7 (k := 2) (by decide) zw_362 rfl (Or.inl rfl) hn_v0 hk_v0 d_Rd_statement_52 rfl hF (fun M hF => ?_)
      refine zi_iconst (v := 0) C d_Rd_statement_55 (by decide) ?_
      refine zi_istore (lv' := [(5, .int (0 : Int32)), (4, zzrf bs r5), (3, .ref (adK r2)), (2, .int r1), (0, .ref (bs + v0)), (1, .int v1)]) C d_Rd_statement_56 (by decide) (by cases r5 <;> rfl) ?_
      refine zz_sub [4, 5, 2, 1, 0] (lv' := [(0, .ref (bs + v0)), (1, .int v1), (3, .ref (adK r2)), (4, zzrf bs r5), (5, .int (0 : Int32))]) rfl ?_
      exact g_Rd_statement_58 C hlocks hr hin E hAb hXs hnx hfr hlo hc_Rd_block hc_Rd_statement hc_Rd_part hc_Rd_enclosed  _ _ _ v0 v1 r2 r5 (0 : Int32) hn_v0 hk_v0 hm ho hF
    · refine zi_null C d_Rd_statement_26 ?_
      cases hF
      exact zi_aret C hlocks hr (Or.inl ⟨_, rfl⟩) (Or.inl rfl) d_Rd_statement_27 rfl rfl rfl rfl
