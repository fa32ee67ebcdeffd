def F_Rd_ranked_39_b (S : zzS) (k_Rd_ranked : zzM → Nat → Int32 → Int32 → Option (Int32 × zzM)) (k_Rd_atom : zzM → Nat → Int32 → Option (Int32 × zzM)) (k39 : zzM → Nat → Int32 → Int32 → Int32 → Int32 → Option (Int32 × zzM)) (M : zzM) (v0 : Nat) (v1 : Int32) (v2 : Int32) (v3 : Int32) (v4 : Int32) : Option (Int32 × zzM) := if v3 ≤ v4 then (some ((1 : Int32), M)) else (zzcall (F_Rd_peek S M v0) fun r1 M => zzcall (F_Rd_joins S M v1 r1) fun r2 M => if r2 = 0 then (some ((1 : Int32), M)) else (zzlet (zzI M v0 2) fun x3 => zzlet (x3 + (1 : Int32)) fun x4 => zzlet (zzsI M v0 2 x4) fun M => zzlet (v1 + (1 : Int32)) fun x5 => zzcall (k_Rd_ranked M v0 x5 v2) fun r6 M => if r6 = 0 then (some ((0 : Int32), M)) else (zzcall (F_Rd_emit S M v0 r1 (0 : Int32)) fun r7 M => if r7 = 0 then (some ((0 : Int32), M)) else (zzlet (v4 + (1 : Int32)) fun x8 => k39 M v0 v1 v2 v3 x8))))
def F_Rd_ranked_39 (S : zzS) (k_Rd_ranked : zzM → Nat → Int32 → Int32 → Option (Int32 × zzM)) (k_Rd_atom : zzM → Nat → Int32 → Option (Int32 × zzM))  (n : Nat) : zzM → Nat → Int32 → Int32 → Int32 → Int32 → Option (Int32 × zzM) := Nat.rec (fun _ _ _ _ _ _ => none) (fun _ k => F_Rd_ranked_39_b S k_Rd_ranked k_Rd_atom  k) n
set_option maxHeartbeats 4000000 in
set_option maxRecDepth 100000 in
theorem g_Rd_ranked_39_b {p : Program} {l : Launch} {e : Env} {s : State} {m : MethodId} {args : Array Value} {below : List Frame} {meth : Method} {c : Code} {D : zzD} {bs : Nat} {A : Nat → Prop} {S : zzS} {hz : Nat} {out : Int32 × zzM} {k_Rd_ranked : zzM → Nat → Int32 → Int32 → Option (Int32 × zzM)} {k_Rd_atom : zzM → Nat → Int32 → Option (Int32 × zzM)} {fr lo : Nat} (C : zzC p s m args c prog_5_method_14_code "BoardScript$Reader" 6 D) (hlocks : meth.locks = false) (hr : meth.sig.returnType = (some .boolean)) (hin : meth.name = "ranked") (hfr : 12 ≤ fr) (hlo : 600 ≤ lo) (hc_Rd_ranked : ∀ {M : zzM} {hz : Nat} {out : Int32 × zzM} {v0 : Nat} {v1 : Int32} {v2 : Int32}, k_Rd_ranked M v0 v1 v2 = some out → v0 < S.2.1 → zzk S v0 = 17 → Met l y_Rd_ranked (Cond.code y_Rd_ranked prog_5_method_14_code 6 (some .boolean) :: zzW) { frames := fr, cells := 0, slots := 0, locals := lo } (zzPc D bs A S M hz [.ref (bs + v0), .int v1, .int v2]) (zzQc D bs A S out.2 hz (some (.int out.1))) 0 0 A) (hc_Rd_atom : ∀ {M : zzM} {hz : Nat} {out : Int32 × zzM} {v0 : Nat} {v1 : Int32}, k_Rd_atom M v0 v1 = some out → v0 < S.2.1 → zzk S v0 = 17 → Met l y_Rd_atom (Cond.code y_Rd_atom prog_5_method_16_code 4 (some .boolean) :: zzW) { frames := fr, cells := 0, slots := 0, locals := lo } (zzPc D bs A S M hz [.ref (bs + v0), .int v1]) (zzQc D bs A S out.2 hz (some (.int out.1))) 0 0 A) {k39 : zzM → Nat → Int32 → Int32 → Int32 → Int32 → Option (Int32 × zzM)} (hk39 : ∀ (M : zzM) (v0 : Nat) (v1 : Int32) (v2 : Int32) (v3 : Int32) (v4 : Int32) (hn_v0 : v0 < S.2.1) (hk_v0 : zzk S v0 = 17), k39 M v0 v1 v2 v3 v4 = some out → zzB p l e { frames := fr + 1, cells := 0, slots := 0, locals := lo + 60 } s m args below meth c 6 D bs A (MQ below (zzQc D bs A S out.2 hz (some (.int out.1))) args s 0 0 A) 0 0 S M hz 39 [(0, .ref (bs + v0)), (1, .int v1), (2, .int v2), (3, .int v3), (4, .int v4)] []) (M : zzM) (v0 : Nat) (v1 : Int32) (v2 : Int32) (v3 : Int32) (v4 : Int32) (hn_v0 : v0 < S.2.1) (hk_v0 : zzk S v0 = 17) (hF : F_Rd_ranked_39_b S k_Rd_ranked k_Rd_atom k39 M v0 v1 v2 v3 v4 = some out) : zzB p l e { frames := fr + 1, cells := 0, slots := 0, locals := lo + 60 } s m args below meth c 6 D bs A (MQ below (zzQc D bs A S out.2 hz (some (.int out.1))) args s 0 0 A) 0 0 S M hz 39 [(0, .ref (bs + v0)), (1, .int v1), (2, .int v2), (3, .int v3), (4, .int v4)] [] := by
  unfold F_Rd_ranked_39_b at hF
  refine zi_iload C d_Rd_ranked_39 4 rfl ?_
  refine zi_iload_n C d_Rd_ranked_41 rfl 3 rfl ?_
  refine zi_icmp_ge (tgt := 101) C d_Rd_ranked_42 (by decide) hF (fun hF => ?_) (fun hF => ?_)
  · refine zi_iconst (v := 1) C d_Rd_ranked_101 (by decide) ?_
    exact zi_zret C hlocks hr (by decide +kernel) d_Rd_ranked_102 (by cases hF; rfl) rfl (by cases hF; rfl) rfl
  · refine zi_aload_n C d_Rd_ranked_45 rfl 0 rfl ?_
    obtain ⟨r1, M, hqr1, hF⟩ := zzcall_e hF
    refine zi_callV_i (M2 := M) (r := r1) (n := 0) (As := []) (st := []) C (c_Rd_peek hqr1 hn_v0 hk_v0) zw_366 zw_367 (by decide +kernel) ⟨by show _ ≤ fr + 1; omega, by show _ ≤ lo + 60; omega⟩ rfl (Nat.le_of_ble_eq_true rfl) ⟨Nat.le_of_ble_eq_true rfl, Nat.le_of_ble_eq_true rfl⟩ zw_368 zw_369 zw_370 zc_7.1 hn_v0 hk_v0 rfl d_Rd_ranked_46 ?_
    refine zi_istore (lv' := [(5, .int r1), (0, .ref (bs + v0)), (1, .int v1), (2, .int v2), (3, .int v3), (4, .int v4)]) C d_Rd_ranked_49 (by decide) rfl ?_
    refine zi_iload_n C d_Rd_ranked_51 rfl 2 rfl ?_
    refine zi_iload C d_Rd_ranked_52 0 rfl ?_
    obtain ⟨r2, M, hqr2, hF⟩ := zzcall_e hF
    refine zi_callS_i (M2 := M) (r := r2) (n := 2) (As := [.int v1, .int r1]) (st := []) C (c_Rd_joins hqr2 ) zw_417 zw_367 (by decide +kernel) ⟨by show _ ≤ fr + 1; omega, by show _ ≤ lo + 60; omega⟩ rfl (Nat.le_of_ble_eq_true rfl) ⟨Nat.le_of_ble_eq_true rfl, Nat.le_of_ble_eq_true rfl⟩ zw_418 zw_419 rfl d_Rd_ranked_54 ?_
    refine zi_if_ne (tgt := 62) C d_Rd_ranked_57 (by decide) hF (fun hF => ?_) (fun hF => ?_)
    · refine zi_aload_n C d_Rd_ranked_62 rfl 1 rfl ?_
      refine zi_dup C d_Rd_ranked_63 rfl ?_
      refine zi_getI C zc_7 (k := 2) (by decide) zw_362 rfl hn_v0 hk_v0 d_Rd_ranked_64 (fun _ _ _ => rfl) hF (fun x3 hF => ?_)
      refine zi_iconst (v := 1) C d_Rd_ranked_67 (by decide) ?_
      refine zi_iadd C d_Rd_ranked_68 hF (fun x4 hF => ?_)
      refine zi_putI C zc_7 (k := 2) (by decide) zw_362 rfl (Or.inl rfl) hn_v0 hk_v0 d_Rd_ranked_69 rfl hF (fun M hF => ?_)
      refine zi_aload_n C d_Rd_ranked_72 rfl 1 rfl ?_
      refine zi_iload_n C d_Rd_ranked_73 rfl 2 rfl ?_
      refine zi_iconst (v := 1) C d_Rd_ranked_74 (by decide) ?_
      refine zi_iadd C d_Rd_ranked_75 hF (fun x5 hF => ?_)
      refine zi_iload_n C d_Rd_ranked_76 rfl 3 rfl ?_
      obtain ⟨r6, M, hqr6, hF⟩ := zzcall_e hF
      refine zi_callV_i (M2 := M) (r := r6) (n := 2) (As := [.int x5, .int v2]) (st := []) C (hc_Rd_ranked hqr6 hn_v0 hk_v0) zw_409 zw_367 (by decide +kernel) ⟨Nat.le_refl _, by show _ ≤ lo + 60; omega⟩ rfl (Nat.le_of_ble_eq_true rfl) ⟨Nat.le_of_ble_eq_true rfl, Nat.le_of_ble_eq_true rfl⟩ zw_410 zw_411 zw_412 zc_7.1 hn_v0 hk_v0 rfl d_Rd_ranked_77 ?_
      refine zi_if_eq (tgt := 93) C d_Rd_ranked_80 (by decide) hF (fun hF => ?_) (fun hF => ?_)
      · refine zi_iconst (v := 0) C d_Rd_ranked_93 (by decide) ?_
        exact zi_zret C hlocks hr (by decide +kernel) d_Rd_ranked_94 (by cases hF; rfl) rfl (by cases hF; rfl) rfl
      · refine zi_aload_n C d_Rd_ranked_83 rfl 1 rfl ?_
        refine zi_iload C d_Rd_ranked_84 0 rfl ?_
        refine zi_iconst (v := 0) C d_Rd_ranked_86 (by decide) ?_
        obtain ⟨r7, M, hqr7, hF⟩ := zzcall_e hF
        refine zi_callV_i (M2 := M) (r := r7) (n := 2) (As := [.int r1, .int (0 : Int32)]) (st := []) C (c_Rd_emit hqr7 hn_v0 hk_v0) zw_420 zw_367 (by decide +kernel) ⟨by show _ ≤ fr + 1; omega, by show _ ≤ lo + 60; omega⟩ rfl (Nat.le_of_ble_eq_true rfl) ⟨Nat.le_of_ble_eq_true rfl, Nat.le_of_ble_eq_true rfl⟩ zw_421 zw_422 zw_423 zc_7.1 hn_v0 hk_v0 rfl d_Rd_ranked_87 ?_
        refine zi_if_ne (tgt := 95) C d_Rd_ranked_90 (by decide) hF (fun hF => ?_) (fun hF => ?_)
        · refine zi_iinc (j := 5) (v0 := 1) C d_Rd_ranked_95 rfl (by decide) (by decide) hF (fun x8 => [(4, .int x8), (5, .int r1), (0, .ref (bs + v0)), (1, .int v1), (2, .int v2), (3, .int v3)]) (fun _ => rfl) (fun x8 hF => ?_)
          refine zi_goto (tgt := 39) C d_Rd_ranked_98 (by decide) ?_
          refine zz_sub [2, 3, 4, 5, 0] (lv' := [(0, .ref (bs + v0)), (1, .int v1), (2, .int v2), (3, .int v3), (4, .int x8)]) rfl ?_
          exact hk39 _ v0 v1 v2 v3 x8 hn_v0 hk_v0 hF
        · refine zi_iconst (v := 0) C d_Rd_ranked_93 (by decide) ?_
          exact zi_zret C hlocks hr (by decide +kernel) d_Rd_ranked_94 (by cases hF; rfl) rfl (by cases hF; rfl) rfl
    · refine zi_iconst (v := 1) C d_Rd_ranked_60 (by decide) ?_
      exact zi_zret C hlocks hr (by decide +kernel) d_Rd_ranked_61 (by cases hF; rfl) rfl (by cases hF; rfl) rfl
set_option maxHeartbeats 4000000 in
set_option maxRecDepth 100000 in
theorem g_Rd_ranked_39 {p : Program} {l : Launch} {e : Env} {s : State} {m : MethodId} {args : Array Value} {below : List Frame} {meth : Method} {c : Code} {D : zzD} {bs : Nat} {A : Nat → Prop} {S : zzS} {hz : Nat} {out : Int32 × zzM} {k_Rd_ranked : zzM → Nat → Int32 → Int32 → Option (Int32 × zzM)} {k_Rd_atom : zzM → Nat → Int32 → Option (Int32 × zzM)} {fr lo : Nat} (C : zzC p s m args c prog_5_method_14_code "BoardScript$Reader" 6 D) (hlocks : meth.locks = false) (hr : meth.sig.returnType = (some .boolean)) (hin : meth.name = "ranked") (hfr : 12 ≤ fr) (hlo : 600 ≤ lo) (hc_Rd_ranked : ∀ {M : zzM} {hz : Nat} {out : Int32 × zzM} {v0 : Nat} {v1 : Int32} {v2 : Int32}, k_Rd_ranked M v0 v1 v2 = some out → v0 < S.2.1 → zzk S v0 = 17 → Met l y_Rd_ranked (Cond.code y_Rd_ranked prog_5_method_14_code 6 (some .boolean) :: zzW) { frames := fr, cells := 0, slots := 0, locals := lo } (zzPc D bs A S M hz [.ref (bs + v0), .int v1, .int v2]) (zzQc D bs A S out.2 hz (some (.int out.1))) 0 0 A) (hc_Rd_atom : ∀ {M : zzM} {hz : Nat} {out : Int32 × zzM} {v0 : Nat} {v1 : Int32}, k_Rd_atom M v0 v1 = some out → v0 < S.2.1 → zzk S v0 = 17 → Met l y_Rd_atom (Cond.code y_Rd_atom prog_5_method_16_code 4 (some .boolean) :: zzW) { frames := fr, cells := 0, slots := 0, locals := lo } (zzPc D bs A S M hz [.ref (bs + v0), .int v1]) (zzQc D bs A S out.2 hz (some (.int out.1))) 0 0 A)   : ∀ (n : Nat) (M : zzM) (v0 : Nat) (v1 : Int32) (v2 : Int32) (v3 : Int32) (v4 : Int32) (hn_v0 : v0 < S.2.1) (hk_v0 : zzk S v0 = 17) (hF : F_Rd_ranked_39 S k_Rd_ranked k_Rd_atom  n M v0 v1 v2 v3 v4 = some out), zzB p l e { frames := fr + 1, cells := 0, slots := 0, locals := lo + 60 } s m args below meth c 6 D bs A (MQ below (zzQc D bs A S out.2 hz (some (.int out.1))) args s 0 0 A) 0 0 S M hz 39 [(0, .ref (bs + v0)), (1, .int v1), (2, .int v2), (3, .int v3), (4, .int v4)] [] := by
  intro n
  induction n with
  | zero => intro M v0 v1 v2 v3 v4 hn_v0 hk_v0 hF; cases hF
  | succ n ih => intro M v0 v1 v2 v3 v4 hn_v0 hk_v0 hF; exact g_Rd_ranked_39_b C hlocks hr hin hfr hlo hc_Rd_ranked hc_Rd_atom  ih M v0 v1 v2 v3 v4 hn_v0 hk_v0 hF
def F_Rd_ranked (S : zzS) (k_Rd_ranked : zzM → Nat → Int32 → Int32 → Option (Int32 × zzM)) (k_Rd_atom : zzM → Nat → Int32 → Option (Int32 × zzM)) (M : zzM) (v0 : Nat) (v1 : Int32) (v2 : Int32) : Option (Int32 × zzM) := if v1 ≤ (2 : Int32) then (zzlet (v1 + (1 : Int32)) fun x1 => zzcall (k_Rd_ranked M v0 x1 v2) fun r2 M => if r2 = 0 then (some ((0 : Int32), M)) else (if v1 = 0 then (F_Rd_ranked_39 S k_Rd_ranked k_Rd_atom  2000 M v0 v1 v2 (1 : Int32) (0 : Int32)) else (F_Rd_ranked_39 S k_Rd_ranked k_Rd_atom  2000 M v0 v1 v2 (400 : Int32) (0 : Int32)))) else (zzcall (k_Rd_atom M v0 v2) fun r3 M => zzck (zzokZ r3) (some (r3, M)))
set_option maxHeartbeats 4000000 in
set_option maxRecDepth 100000 in
theorem c_Rd_ranked {l : Launch} {D : zzD} {bs : Nat} {A : Nat → Prop} {S : zzS} {M : zzM} {hz : Nat} {out : Int32 × zzM} {v0 : Nat} {v1 : Int32} {v2 : Int32} {k_Rd_ranked : zzM → Nat → Int32 → Int32 → Option (Int32 × zzM)} {k_Rd_atom : zzM → Nat → Int32 → Option (Int32 × zzM)} {fr lo : Nat} (hfr : 12 ≤ fr) (hlo : 600 ≤ lo) (hc_Rd_ranked : ∀ {M : zzM} {hz : Nat} {out : Int32 × zzM} {v0 : Nat} {v1 : Int32} {v2 : Int32}, k_Rd_ranked M v0 v1 v2 = some out → v0 < S.2.1 → zzk S v0 = 17 → Met l y_Rd_ranked (Cond.code y_Rd_ranked prog_5_method_14_code 6 (some .boolean) :: zzW) { frames := fr, cells := 0, slots := 0, locals := lo } (zzPc D bs A S M hz [.ref (bs + v0), .int v1, .int v2]) (zzQc D bs A S out.2 hz (some (.int out.1))) 0 0 A) (hc_Rd_atom : ∀ {M : zzM} {hz : Nat} {out : Int32 × zzM} {v0 : Nat} {v1 : Int32}, k_Rd_atom M v0 v1 = some out → v0 < S.2.1 → zzk S v0 = 17 → Met l y_Rd_atom (Cond.code y_Rd_atom prog_5_method_16_code 4 (some .boolean) :: zzW) { frames := fr, cells := 0, slots := 0, locals := lo } (zzPc D bs A S M hz [.ref (bs + v0), .int v1]) (zzQc D bs A S out.2 hz (some (.int out.1))) 0 0 A) (hF : F_Rd_ranked S k_Rd_ranked k_Rd_atom M v0 v1 v2 = some out) (hn_v0 : v0 < S.2.1) (hk_v0 : zzk S v0 = 17) : Met l y_Rd_ranked (Cond.code y_Rd_ranked prog_5_method_14_code 6 (some .boolean) :: zzW) { frames := fr + 1, cells := 0, slots := 0, locals := lo + 60 } (zzPc D bs A S M hz [.ref (bs + v0), .int v1, .int v2]) (zzQc D bs A S out.2 hz (some (.int out.1))) 0 0 A := by
  refine zz_met [.ref (bs + v0), .int v1, .int v2] (by decide) (Nat.le_of_ble_eq_true rfl) (fun p e s m args below meth c C hr hlocks hin hsz => ?_)
  refine zz_eq (lv' := [(0, .ref (bs + v0)), (1, .int v1), (2, .int v2)]) (st' := []) rfl rfl ?_
  unfold F_Rd_ranked at hF
  refine zi_iload_n C d_Rd_ranked_0 rfl 1 rfl ?_
  refine zi_iconst (v := 2) C d_Rd_ranked_1 (by decide) ?_
  refine zi_icmp_le (tgt := 11) C d_Rd_ranked_2 (by decide) hF (fun hF => ?_) (fun hF => ?_)
  · refine zi_aload_n C d_Rd_ranked_11 rfl 0 rfl ?_
    refine zi_iload_n C d_Rd_ranked_12 rfl 1 rfl ?_
    refine zi_iconst (v := 1) C d_Rd_ranked_13 (by decide) ?_
    refine zi_iadd C d_Rd_ranked_14 hF (fun x1 hF => ?_)
    refine zi_iload_n C d_Rd_ranked_15 rfl 2 rfl ?_
    obtain ⟨r2, M, hqr2, hF⟩ := zzcall_e hF
    refine zi_callV_i (M2 := M) (r := r2) (n := 2) (As := [.int x1, .int v2]) (st := []) C (hc_Rd_ranked hqr2 hn_v0 hk_v0) zw_409 zw_367 (by decide +kernel) ⟨Nat.le_refl _, by show _ ≤ lo + 60; omega⟩ rfl (Nat.le_of_ble_eq_true rfl) ⟨Nat.le_of_ble_eq_true rfl, Nat.le_of_ble_eq_true rfl⟩ zw_410 zw_411 zw_412 zc_7.1 hn_v0 hk_v0 rfl d_Rd_ranked_16 ?_
    refine zi_if_ne (tgt := 24) C d_Rd_ranked_19 (by decide) hF (fun hF => ?_) (fun hF => ?_)
    · refine zi_iload_n C d_Rd_ranked_24 rfl 1 rfl ?_
      refine zi_if_ne (tgt := 32) C d_Rd_ranked_25 (by decide) hF (fun hF => ?_) (fun hF => ?_)
      · refine zi_sipush (v := 400) C d_Rd_ranked_32 (by decide) ?_
        refine zi_istore_n (lv' := [(3, .int (400 : Int32)), (0, .ref (bs + v0)), (1, .int v1), (2, .int v2)]) C d_Rd_ranked_35 rfl (by decide) rfl ?_
        refine zi_iconst (v := 0) C d_Rd_ranked_36 (by decide) ?_
        refine zi_istore (lv' := [(4, .int (0 : Int32)), (3, .int (400 : Int32)), (0, .ref (bs + v0)), (1, .int v1), (2, .int v2)]) C d_Rd_ranked_37 (by decide) rfl ?_
        refine zz_sub [2, 3, 4, 1, 0] (lv' := [(0, .ref (bs + v0)), (1, .int v1), (2, .int v2), (3, .int (400 : Int32)), (4, .int (0 : Int32))]) rfl ?_
        exact g_Rd_ranked_39 C hlocks hr hin hfr hlo hc_Rd_ranked hc_Rd_atom  _ _ v0 v1 v2 (400 : Int32) (0 : Int32) hn_v0 hk_v0 hF
      · refine zi_iconst (v := 1) C d_Rd_ranked_28 (by decide) ?_
        refine zi_goto (tgt := 35) C d_Rd_ranked_29 (by decide) ?_
        refine zi_istore_n (lv' := [(3, .int (1 : Int32)), (0, .ref (bs + v0)), (1, .int v1), (2, .int v2)]) C d_Rd_ranked_35 rfl (by decide) rfl ?_
        refine zi_iconst (v := 0) C d_Rd_ranked_36 (by decide) ?_
        refine zi_istore (lv' := [(4, .int (0 : Int32)), (3, .int (1 : Int32)), (0, .ref (bs + v0)), (1, .int v1), (2, .int v2)]) C d_Rd_ranked_37 (by decide) rfl ?_
        refine zz_sub [2, 3, 4, 1, 0] (lv' := [(0, .ref (bs + v0)), (1, .int v1), (2, .int v2), (3, .int (1 : Int32)), (4, .int (0 : Int32))]) rfl ?_
        exact g_Rd_ranked_39 C hlocks hr hin hfr hlo hc_Rd_ranked hc_Rd_atom  _ _ v0 v1 v2 (1 : Int32) (0 : Int32) hn_v0 hk_v0 hF
    · refine zi_iconst (v := 0) C d_Rd_ranked_22 (by decide) ?_
      exact zi_zret C hlocks hr (by decide +kernel) d_Rd_ranked_23 (by cases hF; rfl) rfl (by cases hF; rfl) rfl
  · refine zi_aload_n C d_Rd_ranked_5 rfl 0 rfl ?_
    refine zi_iload_n C d_Rd_ranked_6 rfl 2 rfl ?_
    obtain ⟨r3, M, hqr3, hF⟩ := zzcall_e hF
    refine zi_callV_i (M2 := M) (r := r3) (n := 1) (As := [.int v2]) (st := []) C (hc_Rd_atom hqr3 hn_v0 hk_v0) zw_413 zw_367 (by decide +kernel) ⟨Nat.le_refl _, by show _ ≤ lo + 60; omega⟩ rfl (Nat.le_of_ble_eq_true rfl) ⟨Nat.le_of_ble_eq_true rfl, Nat.le_of_ble_eq_true rfl⟩ zw_414 zw_415 zw_416 zc_7.1 hn_v0 hk_v0 rfl d_Rd_ranked_7 ?_
    obtain ⟨hok, hF⟩ := zzck_e hF
    exact zi_zret C hlocks hr (zzokZ_n hok).1 d_Rd_ranked_10 (by cases hF; rfl) rfl (by cases hF; rfl) rfl
def F_Rd_atom (S : zzS) (k_Rd_ranked : zzM → Nat → Int32 → Int32 → Option (Int32 × zzM)) (k_Rd_atom : zzM → Nat → Int32 → Option (Int32 × zzM)) (M : zzM) (v0 : Nat) (v1 : Int32) : Option (Int32 × zzM) := zzcall (F_Rd_peek S M v0) fun r1 M => zzcall (F_Rd_isDigit S M r1) fun r2 M => if r2 = 0 then (zzcall (F_Rd_isVariable S M r1) fun r3 M => if r3 = 0 then (if r1 = (35 : Int32) then (zzlet (zzI M v0 2) fun x30 => zzlet (x30 + (1 : Int32)) fun x31 => zzlet (zzsI M v0 2 x31) fun M => zzcall (F_Rd_emit S M v0 (35 : Int32) (0 : Int32)) fun r32 M => zzck (zzokZ r32) (some (r32, M))) else (if v1 < (3 : Int32) then (if r1 = (39 : Int32) then (zzlet (zzI M v0 2) fun x5 => zzlet (x5 + (1 : Int32)) fun x6 => zzlet (zzsI M v0 2 x6) fun M => zzlet (v1 + (1 : Int32)) fun x7 => zzcall (k_Rd_atom M v0 x7) fun r8 M => if r8 = 0 then (some ((0 : Int32), M)) else (zzcall (F_Rd_emit S M v0 (39 : Int32) (0 : Int32)) fun r9 M => if r9 = 0 then (some ((0 : Int32), M)) else (some ((1 : Int32), M)))) else (if r1 = (40 : Int32) then (zzlet (zzI M v0 2) fun x11 => zzlet (x11 + (1 : Int32)) fun x12 => zzlet (zzsI M v0 2 x12) fun M => zzlet (v1 + (1 : Int32)) fun x13 => zzcall (k_Rd_ranked M v0 (0 : Int32) x13) fun r14 M => if r14 = 0 then (some ((0 : Int32), M)) else (zzcall (F_Rd_take S M v0 (41 : Int32)) fun r15 M => if r15 = 0 then (some ((0 : Int32), M)) else (some ((1 : Int32), M)))) else (if r1 = (45 : Int32) then (zzlet (zzI M v0 2) fun x17 => zzlet (x17 + (1 : Int32)) fun x18 => zzlet (zzsI M v0 2 x18) fun M => zzlet (v1 + (1 : Int32)) fun x19 => zzcall (k_Rd_atom M v0 x19) fun r20 M => if r20 = 0 then (some ((0 : Int32), M)) else (zzcall (F_Rd_emit S M v0 (126 : Int32) (0 : Int32)) fun r21 M => if r21 = 0 then (some ((0 : Int32), M)) else (some ((1 : Int32), M)))) else (if r1 = (64 : Int32) then (zzlet (zzI M v0 2) fun x23 => zzlet (x23 + (1 : Int32)) fun x24 => zzlet (zzsI M v0 2 x24) fun M => zzlet (v1 + (1 : Int32)) fun x25 => zzcall (k_Rd_atom M v0 x25) fun r26 M => if r26 = 0 then (some ((0 : Int32), M)) else (zzcall (F_Rd_take S M v0 (58 : Int32)) fun r27 M => if r27 = 0 then (some ((0 : Int32), M)) else (zzcall (F_Rd_fieldDigit S M v0) fun r28 M => if r28 = (-1 : Int32) then (some ((0 : Int32), M)) else (zzcall (F_Rd_emit S M v0 (64 : Int32) r28) fun r29 M => if r29 = 0 then (some ((0 : Int32), M)) else (some ((1 : Int32), M)))))) else (some ((0 : Int32), M)))))) else (some ((0 : Int32), M)))) else (zzlet (zzI M v0 2) fun x33 => zzlet (x33 + (1 : Int32)) fun x34 => zzlet (zzsI M v0 2 x34) fun M => zzlet (r1 - (97 : Int32)) fun x35 => zzcall (F_Rd_emit S M v0 (118 : Int32) x35) fun r36 M => zzck (zzokZ r36) (some (r36, M)))) else (zzcall (F_Rd_number S M v0) fun r37 M => zzcall (F_Rd_emit S M v0 (110 : Int32) r37) fun r38 M => zzck (zzokZ r38) (some (r38, M)))
set_option maxHeartbeats 4000000 in
set_option maxRecDepth 100000 in
theorem c_Rd_atom {l : Launch} {D : zzD} {bs : Nat} {A : Nat → Prop} {S : zzS} {M : zzM} {hz : Nat} {out : Int32 × zzM} {v0 : Nat} {v1 : Int32} {k_Rd_ranked : zzM → Nat → Int32 → Int32 → Option (Int32 × zzM)} {k_Rd_atom : zzM → Nat → Int32 → Option (Int32 × zzM)} {fr lo : Nat} (hfr : 12 ≤ fr) (hlo : 600 ≤ lo) (hc_Rd_ranked : ∀ {M : zzM} {hz : Nat} {out : Int32 × zzM} {v0 : Nat} {v1 : Int32} {v2 : Int32}, k_Rd_ranked M v0 v1 v2 = some out → v0 < S.2.1 → zzk S v0 = 17 → Met l y_Rd_ranked (Cond.code y_Rd_ranked prog_5_method_14_code 6 (some .boolean) :: zzW) { frames := fr, cells := 0, slots := 0, locals := lo } (zzPc D bs A S M hz [.ref (bs + v0), .int v1, .int v2]) (zzQc D bs A S out.2 hz (some (.int out.1))) 0 0 A) (hc_Rd_atom : ∀ {M : zzM} {hz : Nat} {out : Int32 × zzM} {v0 : Nat} {v1 : Int32}, k_Rd_atom M v0 v1 = some out → v0 < S.2.1 → zzk S v0 = 17 → Met l y_Rd_atom (Cond.code y_Rd_atom prog_5_method_16_code 4 (some .boolean) :: zzW) { frames := fr, cells := 0, slots := 0, locals := lo } (zzPc D bs A S M hz [.ref (bs + v0), .int v1]) (zzQc D bs A S out.2 hz (some (.int out.1))) 0 0 A) (hF : F_Rd_atom S k_Rd_ranked k_Rd_atom M v0 v1 = some out) (hn_v0 : v0 < S.2.1) (hk_v0 : zzk S v0 = 17) : Met l y_Rd_atom (Cond.code y_Rd_atom prog_5_method_16_code 4 (some .boolean) :: zzW) { frames := fr + 1, cells := 0, slots := 0, locals := lo + 60 } (zzPc D bs A S M hz [.ref (bs + v0), .int v1]) (zzQc D bs A S out.2 hz (some (.int out.1))) 0 0 A := by
  refine zz_met [.ref (bs + v0), .int v1] (by decide) (Nat.le_of_ble_eq_true rfl) (fun p e s m args below meth c C hr hlocks hin hsz => ?_)
  refine zz_eq (lv' := [(0, .ref (bs + v0)), (1, .int v1)]) (st' := []) rfl rfl ?_
  unfold F_Rd_atom at hF
  refine zi_aload_n C d_Rd_atom_0 rfl 0 rfl ?_
  obtain ⟨r1, M, hqr1, hF⟩ := zzcall_e hF
  refine zi_callV_i (M2 := M) (r := r1) (n := 0) (As := []) (st := []) C (c_Rd_peek hqr1 hn_v0 hk_v0) zw_366 zw_367 (by decide +kernel) ⟨by show _ ≤ fr + 1; omega, by show _ ≤ lo + 60; omega⟩ rfl (Nat.le_of_ble_eq_true rfl) ⟨Nat.le_of_ble_eq_true rfl, Nat.le_of_ble_eq_true rfl⟩ zw_368 zw_369 zw_370 zc_7.1 hn_v0 hk_v0 rfl d_Rd_atom_1 ?_
  refine zi_istore_n (lv' := [(2, .int r1), (0, .ref (bs + v0)), (1, .int v1)]) C d_Rd_atom_4 rfl (by decide) rfl ?_
  refine zi_iload_n C d_Rd_atom_5 rfl 0 rfl ?_
  obtain ⟨r2, M, hqr2, hF⟩ := zzcall_e hF
  refine zi_callS_i (M2 := M) (r := r2) (n := 1) (As := [.int r1]) (st := []) C (c_Rd_isDigit hqr2 ) zw_424 zw_367 (by decide +kernel) ⟨by show _ ≤ fr + 1; omega, by show _ ≤ lo + 60; omega⟩ rfl (Nat.le_of_ble_eq_true rfl) ⟨Nat.le_of_ble_eq_true rfl, Nat.le_of_ble_eq_true rfl⟩ zw_425 zw_426 rfl d_Rd_atom_6 ?_
  refine zi_if_eq (tgt := 23) C d_Rd_atom_9 (by decide) hF (fun hF => ?_) (fun hF => ?_)
  · refine zi_iload_n C d_Rd_atom_23 rfl 0 rfl ?_
    obtain ⟨r3, M, hqr3, hF⟩ := zzcall_e hF
    refine zi_callS_i (M2 := M) (r := r3) (n := 1) (As := [.int r1]) (st := []) C (c_Rd_isVariable hqr3 ) zw_427 zw_367 (by decide +kernel) ⟨by show _ ≤ fr + 1; omega, by show _ ≤ lo + 60; omega⟩ rfl (Nat.le_of_ble_eq_true rfl) ⟨Nat.le_of_ble_eq_true rfl, Nat.le_of_ble_eq_true rfl⟩ zw_428 zw_429 rfl d_Rd_atom_24 ?_
    refine zi_if_eq (tgt := 51) C d_Rd_atom_27 (by decide) hF (fun hF => ?_) (fun hF => ?_)
    · refine zi_iload_n C d_Rd_atom_51 rfl 0 rfl ?_
      refine zi_bipush (v := 35) C d_Rd_atom_52 (by decide) ?_
      refine zi_icmp_ne (tgt := 75) C d_Rd_atom_54 (by decide) hF (fun hF => ?_) (fun hF => ?_)
      · refine zi_iload_n C d_Rd_atom_75 rfl 2 rfl ?_
        refine zi_iconst (v := 3) C d_Rd_atom_76 (by decide) ?_
        refine zi_icmp_lt (tgt := 82) C d_Rd_atom_77 (by decide) hF (fun hF => ?_) (fun hF => ?_)
        · refine zi_iload_n C d_Rd_atom_82 rfl 0 rfl ?_
          by_cases hs4 : r1 = (39 : Int32)
          · rw [if_pos hs4] at hF
            refine zi_lookup C d_Rd_atom_83 (by decide) 113 196 (by rw [hs4]; decide +kernel) (by decide) ?_
            refine zi_aload_n C d_Rd_atom_196 rfl 1 rfl ?_
            refine zi_dup C d_Rd_atom_197 rfl ?_
            refine zi_getI C zc_7 (k := 2) (by decide) zw_362 rfl hn_v0 hk_v0 d_Rd_atom_198 (fun _ _ _ => rfl) hF (fun x5 hF => ?_)
            refine zi_iconst (v := 1) C d_Rd_atom_201 (by decide) ?_
            refine zi_iadd C d_Rd_atom_202 hF (fun x6 hF => ?_)
            refine zi_putI C zc_7 (k := 2) (by decide) zw_362 rfl (Or.inl rfl) hn_v0 hk_v0 d_Rd_atom_203 rfl hF (fun M hF => ?_)
            refine zi_aload_n C d_Rd_atom_206 rfl 1 rfl ?_
            refine zi_iload_n C d_Rd_atom_207 rfl 2 rfl ?_
            refine zi_iconst (v := 1) C d_Rd_atom_208 (by decide) ?_
            refine zi_iadd C d_Rd_atom_209 hF (fun x7 hF => ?_)
            obtain ⟨r8, M, hqr8, hF⟩ := zzcall_e hF
            refine zi_callV_i (M2 := M) (r := r8) (n := 1) (As := [.int x7]) (st := []) C (hc_Rd_atom hqr8 hn_v0 hk_v0) zw_413 zw_367 (by decide +kernel) ⟨Nat.le_refl _, by show _ ≤ lo + 60; omega⟩ rfl (Nat.le_of_ble_eq_true rfl) ⟨Nat.le_of_ble_eq_true rfl, Nat.le_of_ble_eq_true rfl⟩ zw_414 zw_415 zw_416 zc_7.1 hn_v0 hk_v0 rfl d_Rd_atom_210 ?_
            refine zi_if_eq (tgt := 230) C d_Rd_atom_213 (by decide) hF (fun hF => ?_) (fun hF => ?_)
            · refine zi_iconst (v := 0) C d_Rd_atom_230 (by decide) ?_
              exact zi_zret C hlocks hr (by decide +kernel) d_Rd_atom_231 (by cases hF; rfl) rfl (by cases hF; rfl) rfl
            · refine zi_aload_n C d_Rd_atom_216 rfl 1 rfl ?_
              refine zi_bipush (v := 39) C d_Rd_atom_217 (by decide) ?_
              refine zi_iconst (v := 0) C d_Rd_atom_219 (by decide) ?_
              obtain ⟨r9, M, hqr9, hF⟩ := zzcall_e hF
              refine zi_callV_i (M2 := M) (r := r9) (n := 2) (As := [.int (39 : Int32), .int (0 : Int32)]) (st := []) C (c_Rd_emit hqr9 hn_v0 hk_v0) zw_420 zw_367 (by decide +kernel) ⟨by show _ ≤ fr + 1; omega, by show _ ≤ lo + 60; omega⟩ rfl (Nat.le_of_ble_eq_true rfl) ⟨Nat.le_of_ble_eq_true rfl, Nat.le_of_ble_eq_true rfl⟩ zw_421 zw_422 zw_423 zc_7.1 hn_v0 hk_v0 rfl d_Rd_atom_220 ?_
              refine zi_if_eq (tgt := 230) C d_Rd_atom_223 (by decide) hF (fun hF => ?_) (fun hF => ?_)
              · refine zi_iconst (v := 0) C d_Rd_atom_230 (by decide) ?_
                exact zi_zret C hlocks hr (by decide +kernel) d_Rd_atom_231 (by cases hF; rfl) rfl (by cases hF; rfl) rfl
              · refine zi_iconst (v := 1) C d_Rd_atom_226 (by decide) ?_
                refine zi_goto (tgt := 231) C d_Rd_atom_227 (by decide) ?_
                exact zi_zret C hlocks hr (by decide +kernel) d_Rd_atom_231 (by cases hF; rfl) rfl (by cases hF; rfl) rfl
          · rw [if_neg hs4] at hF
            by_cases hs10 : r1 = (40 : Int32)
            · rw [if_pos hs10] at hF
              refine zi_lookup C d_Rd_atom_83 (by decide) 41 124 (by rw [hs10]; decide +kernel) (by decide) ?_
              refine zi_aload_n C d_Rd_atom_124 rfl 1 rfl ?_
              refine zi_dup C d_Rd_atom_125 rfl ?_
              refine zi_getI C zc_7 (k := 2) (by decide) zw_362 rfl hn_v0 hk_v0 d_Rd_atom_126 (fun _ _ _ => rfl) hF (fun x11 hF => ?_)
              refine zi_iconst (v := 1) C d_Rd_atom_129 (by decide) ?_
              refine zi_iadd C d_Rd_atom_130 hF (fun x12 hF => ?_)
              refine zi_putI C zc_7 (k := 2) (by decide) zw_362 rfl (Or.inl rfl) hn_v0 hk_v0 d_Rd_atom_131 rfl hF (fun M hF => ?_)
              refine zi_aload_n C d_Rd_atom_134 rfl 1 rfl ?_
              refine zi_iconst (v := 0) C d_Rd_atom_135 (by decide) ?_
              refine zi_iload_n C d_Rd_atom_136 rfl 2 rfl ?_
              refine zi_iconst (v := 1) C d_Rd_atom_137 (by decide) ?_
              refine zi_iadd C d_Rd_atom_138 hF (fun x13 hF => ?_)
              obtain ⟨r14, M, hqr14, hF⟩ := zzcall_e hF
              refine zi_callV_i (M2 := M) (r := r14) (n := 2) (As := [.int (0 : Int32), .int x13]) (st := []) C (hc_Rd_ranked hqr14 hn_v0 hk_v0) zw_409 zw_367 (by decide +kernel) ⟨Nat.le_refl _, by show _ ≤ lo + 60; omega⟩ rfl (Nat.le_of_ble_eq_true rfl) ⟨Nat.le_of_ble_eq_true rfl, Nat.le_of_ble_eq_true rfl⟩ zw_410 zw_411 zw_412 zc_7.1 hn_v0 hk_v0 rfl d_Rd_atom_139 ?_
              refine zi_if_eq (tgt := 158) C d_Rd_atom_142 (by decide) hF (fun hF => ?_) (fun hF => ?_)
              · refine zi_iconst (v := 0) C d_Rd_atom_158 (by decide) ?_
                exact zi_zret C hlocks hr (by decide +kernel) d_Rd_atom_159 (by cases hF; rfl) rfl (by cases hF; rfl) rfl
              · refine zi_aload_n C d_Rd_atom_145 rfl 1 rfl ?_
                refine zi_bipush (v := 41) C d_Rd_atom_146 (by decide) ?_
                obtain ⟨r15, M, hqr15, hF⟩ := zzcall_e hF
                refine zi_callV_i (M2 := M) (r := r15) (n := 1) (As := [.int (41 : Int32)]) (st := []) C (c_Rd_take hqr15 hn_v0 hk_v0) zw_430 zw_367 (by decide +kernel) ⟨by show _ ≤ fr + 1; omega, by show _ ≤ lo + 60; omega⟩ rfl (Nat.le_of_ble_eq_true rfl) ⟨Nat.le_of_ble_eq_true rfl, Nat.le_of_ble_eq_true rfl⟩ zw_431 zw_432 zw_433 zc_7.1 hn_v0 hk_v0 rfl d_Rd_atom_148 ?_
                refine zi_if_eq (tgt := 158) C d_Rd_atom_151 (by decide) hF (fun hF => ?_) (fun hF => ?_)
                · refine zi_iconst (v := 0) C d_Rd_atom_158 (by decide) ?_
                  exact zi_zret C hlocks hr (by decide +kernel) d_Rd_atom_159 (by cases hF; rfl) rfl (by cases hF; rfl) rfl
                · refine zi_iconst (v := 1) C d_Rd_atom_154 (by decide) ?_
                  refine zi_goto (tgt := 159) C d_Rd_atom_155 (by decide) ?_
                  exact zi_zret C hlocks hr (by decide +kernel) d_Rd_atom_159 (by cases hF; rfl) rfl (by cases hF; rfl) rfl
            · rw [if_neg hs10] at hF
              by_cases hs16 : r1 = (45 : Int32)
              · rw [if_pos hs16] at hF
                refine zi_lookup C d_Rd_atom_83 (by decide) 77 160 (by rw [hs16]; decide +kernel) (by decide) ?_
                refine zi_aload_n C d_Rd_atom_160 rfl 1 rfl ?_
                refine zi_dup C d_Rd_atom_161 rfl ?_
                refine zi_getI C zc_7 (k := 2) (by decide) zw_362 rfl hn_v0 hk_v0 d_Rd_atom_162 (fun _ _ _ => rfl) hF (fun x17 hF => ?_)
                refine zi_iconst (v := 1) C d_Rd_atom_165 (by decide) ?_
                refine zi_iadd C d_Rd_atom_166 hF (fun x18 hF => ?_)
                refine zi_putI C zc_7 (k := 2) (by decide) zw_362 rfl (Or.inl rfl) hn_v0 hk_v0 d_Rd_atom_167 rfl hF (fun M hF => ?_)
                refine zi_aload_n C d_Rd_atom_170 rfl 1 rfl ?_
                refine zi_iload_n C d_Rd_atom_171 rfl 2 rfl ?_
                refine zi_iconst (v := 1) C d_Rd_atom_172 (by decide) ?_
                refine zi_iadd C d_Rd_atom_173 hF (fun x19 hF => ?_)
                obtain ⟨r20, M, hqr20, hF⟩ := zzcall_e hF
                refine zi_callV_i (M2 := M) (r := r20) (n := 1) (As := [.int x19]) (st := []) C (hc_Rd_atom hqr20 hn_v0 hk_v0) zw_413 zw_367 (by decide +kernel) ⟨Nat.le_refl _, by show _ ≤ lo + 60; omega⟩ rfl (Nat.le_of_ble_eq_true rfl) ⟨Nat.le_of_ble_eq_true rfl, Nat.le_of_ble_eq_true rfl⟩ zw_414 zw_415 zw_416 zc_7.1 hn_v0 hk_v0 rfl d_Rd_atom_174 ?_
                refine zi_if_eq (tgt := 194) C d_Rd_atom_177 (by decide) hF (fun hF => ?_) (fun hF => ?_)
                · refine zi_iconst (v := 0) C d_Rd_atom_194 (by decide) ?_
                  exact zi_zret C hlocks hr (by decide +kernel) d_Rd_atom_195 (by cases hF; rfl) rfl (by cases hF; rfl) rfl
                · refine zi_aload_n C d_Rd_atom_180 rfl 1 rfl ?_
                  refine zi_bipush (v := 126) C d_Rd_atom_181 (by decide) ?_
                  refine zi_iconst (v := 0) C d_Rd_atom_183 (by decide) ?_
                  obtain ⟨r21, M, hqr21, hF⟩ := zzcall_e hF
                  refine zi_callV_i (M2 := M) (r := r21) (n := 2) (As := [.int (126 : Int32), .int (0 : Int32)]) (st := []) C (c_Rd_emit hqr21 hn_v0 hk_v0) zw_420 zw_367 (by decide +kernel) ⟨by show _ ≤ fr + 1; omega, by show _ ≤ lo + 60; omega⟩ rfl (Nat.le_of_ble_eq_true rfl) ⟨Nat.le_of_ble_eq_true rfl, Nat.le_of_ble_eq_true rfl⟩ zw_421 zw_422 zw_423 zc_7.1 hn_v0 hk_v0 rfl d_Rd_atom_184 ?_
                  refine zi_if_eq (tgt := 194) C d_Rd_atom_187 (by decide) hF (fun hF => ?_) (fun hF => ?_)
                  · refine zi_iconst (v := 0) C d_Rd_atom_194 (by decide) ?_
                    exact zi_zret C hlocks hr (by decide +kernel) d_Rd_atom_195 (by cases hF; rfl) rfl (by cases hF; rfl) rfl
                  · refine zi_iconst (v := 1) C d_Rd_atom_190 (by decide) ?_
                    refine zi_goto (tgt := 195) C d_Rd_atom_191 (by decide) ?_
                    exact zi_zret C hlocks hr (by decide +kernel) d_Rd_atom_195 (by cases hF; rfl) rfl (by cases hF; rfl) rfl
              · rw [if_neg hs16] at hF
                by_cases hs22 : r1 = (64 : Int32)
                · rw [if_pos hs22] at hF
                  refine zi_lookup C d_Rd_atom_83 (by decide) 149 232 (by rw [hs22]; decide +kernel) (by decide) ?_
                  refine zi_aload_n C d_Rd_atom_232 rfl 1 rfl ?_
                  refine zi_dup C d_Rd_atom_233 rfl ?_
                  refine zi_getI C zc_7 (k := 2) (by decide) zw_362 rfl hn_v0 hk_v0 d_Rd_atom_234 (fun _ _ _ => rfl) hF (fun x23 hF => ?_)
                  refine zi_iconst (v := 1) C d_Rd_atom_237 (by decide) ?_
                  refine zi_iadd C d_Rd_atom_238 hF (fun x24 hF => ?_)
                  refine zi_putI C zc_7 (k := 2) (by decide) zw_362 rfl (Or.inl rfl) hn_v0 hk_v0 d_Rd_atom_239 rfl hF (fun M hF => ?_)
                  refine zi_aload_n C d_Rd_atom_242 rfl 1 rfl ?_
                  refine zi_iload_n C d_Rd_atom_243 rfl 2 rfl ?_
                  refine zi_iconst (v := 1) C d_Rd_atom_244 (by decide) ?_
                  refine zi_iadd C d_Rd_atom_245 hF (fun x25 hF => ?_)
                  obtain ⟨r26, M, hqr26, hF⟩ := zzcall_e hF
                  refine zi_callV_i (M2 := M) (r := r26) (n := 1) (As := [.int x25]) (st := []) C (hc_Rd_atom hqr26 hn_v0 hk_v0) zw_413 zw_367 (by decide +kernel) ⟨Nat.le_refl _, by show _ ≤ lo + 60; omega⟩ rfl (Nat.le_of_ble_eq_true rfl) ⟨Nat.le_of_ble_eq_true rfl, Nat.le_of_ble_eq_true rfl⟩ zw_414 zw_415 zw_416 zc_7.1 hn_v0 hk_v0 rfl d_Rd_atom_246 ?_
                  refine zi_if_eq (tgt := 261) C d_Rd_atom_249 (by decide) hF (fun hF => ?_) (fun hF => ?_)
                  · refine zi_iconst (v := 0) C d_Rd_atom_261 (by decide) ?_
                    exact zi_zret C hlocks hr (by decide +kernel) d_Rd_atom_262 (by cases hF; rfl) rfl (by cases hF; rfl) rfl
                  · refine zi_aload_n C d_Rd_atom_252 rfl 1 rfl ?_
                    refine zi_bipush (v := 58) C d_Rd_atom_253 (by decide) ?_
                    obtain ⟨r27, M, hqr27, hF⟩ := zzcall_e hF
                    refine zi_callV_i (M2 := M) (r := r27) (n := 1) (As := [.int (58 : Int32)]) (st := []) C (c_Rd_take hqr27 hn_v0 hk_v0) zw_430 zw_367 (by decide +kernel) ⟨by show _ ≤ fr + 1; omega, by show _ ≤ lo + 60; omega⟩ rfl (Nat.le_of_ble_eq_true rfl) ⟨Nat.le_of_ble_eq_true rfl, Nat.le_of_ble_eq_true rfl⟩ zw_431 zw_432 zw_433 zc_7.1 hn_v0 hk_v0 rfl d_Rd_atom_255 ?_
                    refine zi_if_ne (tgt := 263) C d_Rd_atom_258 (by decide) hF (fun hF => ?_) (fun hF => ?_)
                    · refine zi_aload_n C d_Rd_atom_263 rfl 1 rfl ?_
                      obtain ⟨r28, M, hqr28, hF⟩ := zzcall_e hF
                      refine zi_callV_i (M2 := M) (r := r28) (n := 0) (As := []) (st := []) C (c_Rd_fieldDigit hqr28 hn_v0 hk_v0) zw_434 zw_367 (by decide +kernel) ⟨by show _ ≤ fr + 1; omega, by show _ ≤ lo + 60; omega⟩ rfl (Nat.le_of_ble_eq_true rfl) ⟨Nat.le_of_ble_eq_true rfl, Nat.le_of_ble_eq_true rfl⟩ zw_435 zw_436 zw_437 zc_7.1 hn_v0 hk_v0 rfl d_Rd_atom_264 ?_
                      refine zi_istore_n (lv' := [(3, .int r28), (2, .int r1), (0, .ref (bs + v0)), (1, .int v1)]) C d_Rd_atom_267 rfl (by decide) rfl ?_
                      refine zi_iload_n C d_Rd_atom_268 rfl 0 rfl ?_
                      refine zi_iconst (v := -1) C d_Rd_atom_269 (by decide) ?_
                      refine zi_icmp_eq (tgt := 287) C d_Rd_atom_270 (by decide) hF (fun hF => ?_) (fun hF => ?_)
                      · refine zi_iconst (v := 0) C d_Rd_atom_287 (by decide) ?_
                        exact zi_zret C hlocks hr (by decide +kernel) d_Rd_atom_288 (by cases hF; rfl) rfl (by cases hF; rfl) rfl
                      · refine zi_aload_n C d_Rd_atom_273 rfl 2 rfl ?_
                        refine zi_bipush (v := 64) C d_Rd_atom_274 (by decide) ?_
                        refine zi_iload_n C d_Rd_atom_276 rfl 0 rfl ?_
                        obtain ⟨r29, M, hqr29, hF⟩ := zzcall_e hF
                        refine zi_callV_i (M2 := M) (r := r29) (n := 2) (As := [.int (64 : Int32), .int r28]) (st := []) C (c_Rd_emit hqr29 hn_v0 hk_v0) zw_420 zw_367 (by decide +kernel) ⟨by show _ ≤ fr + 1; omega, by show _ ≤ lo + 60; omega⟩ rfl (Nat.le_of_ble_eq_true rfl) ⟨Nat.le_of_ble_eq_true rfl, Nat.le_of_ble_eq_true rfl⟩ zw_421 zw_422 zw_423 zc_7.1 hn_v0 hk_v0 rfl d_Rd_atom_277 ?_
                        refine zi_if_eq (tgt := 287) C d_Rd_atom_280 (by decide) hF (fun hF => ?_) (fun hF => ?_)
                        · refine zi_iconst (v := 0) C d_Rd_atom_287 (by decide) ?_
                          exact zi_zret C hlocks hr (by decide +kernel) d_Rd_atom_288 (by cases hF; rfl) rfl (by cases hF; rfl) rfl
                        · refine zi_iconst (v := 1) C d_Rd_atom_283 (by decide) ?_
                          refine zi_goto (tgt := 288) C d_Rd_atom_284 (by decide) ?_
                          exact zi_zret C hlocks hr (by decide +kernel) d_Rd_atom_288 (by cases hF; rfl) rfl (by cases hF; rfl) rfl
                    · refine zi_iconst (v := 0) C d_Rd_atom_261 (by decide) ?_
                      exact zi_zret C hlocks hr (by decide +kernel) d_Rd_atom_262 (by cases hF; rfl) rfl (by cases hF; rfl) rfl
                · rw [if_neg hs22] at hF
                  refine zi_lookup C d_Rd_atom_83 (by decide) 206 289 ((lv_osw hs4 (by decide)).trans ((lv_osw hs10 (by decide)).trans ((lv_osw hs16 (by decide)).trans ((lv_osw hs22 (by decide)).trans (rfl))))) (by decide) ?_
                  refine zi_iconst (v := 0) C d_Rd_atom_289 (by decide) ?_
                  exact zi_zret C hlocks hr (by decide +kernel) d_Rd_atom_290 (by cases hF; rfl) rfl (by cases hF; rfl) rfl
        · refine zi_iconst (v := 0) C d_Rd_atom_80 (by decide) ?_
          exact zi_zret C hlocks hr (by decide +kernel) d_Rd_atom_81 (by cases hF; rfl) rfl (by cases hF; rfl) rfl
      · refine zi_aload_n C d_Rd_atom_57 rfl 1 rfl ?_
        refine zi_dup C d_Rd_atom_58 rfl ?_
        refine zi_getI C zc_7 (k := 2) (by decide) zw_362 rfl hn_v0 hk_v0 d_Rd_atom_59 (fun _ _ _ => rfl) hF (fun x30 hF => ?_)
        refine zi_iconst (v := 1) C d_Rd_atom_62 (by decide) ?_
        refine zi_iadd C d_Rd_atom_63 hF (fun x31 hF => ?_)
        refine zi_putI C zc_7 (k := 2) (by decide) zw_362 rfl (Or.inl rfl) hn_v0 hk_v0 d_Rd_atom_64 rfl hF (fun M hF => ?_)
        refine zi_aload_n C d_Rd_atom_67 rfl 1 rfl ?_
        refine zi_bipush (v := 35) C d_Rd_atom_68 (by decide) ?_
        refine zi_iconst (v := 0) C d_Rd_atom_70 (by decide) ?_
        obtain ⟨r32, M, hqr32, hF⟩ := zzcall_e hF
        refine zi_callV_i (M2 := M) (r := r32) (n := 2) (As := [.int (35 : Int32), .int (0 : Int32)]) (st := []) C (c_Rd_emit hqr32 hn_v0 hk_v0) zw_420 zw_367 (by decide +kernel) ⟨by show _ ≤ fr + 1; omega, by show _ ≤ lo + 60; omega⟩ rfl (Nat.le_of_ble_eq_true rfl) ⟨Nat.le_of_ble_eq_true rfl, Nat.le_of_ble_eq_true rfl⟩ zw_421 zw_422 zw_423 zc_7.1 hn_v0 hk_v0 rfl d_Rd_atom_71 ?_
        obtain ⟨hok, hF⟩ := zzck_e hF
        exact zi_zret C hlocks hr (zzokZ_n hok).1 d_Rd_atom_74 (by cases hF; rfl) rfl (by cases hF; rfl) rfl
    · refine zi_aload_n C d_Rd_atom_30 rfl 1 rfl ?_
      refine zi_dup C d_Rd_atom_31 rfl ?_
      refine zi_getI C zc_7 (k := 2) (by decide) zw_362 rfl hn_v0 hk_v0 d_Rd_atom_32 (fun _ _ _ => rfl) hF (fun x33 hF => ?_)
      refine zi_iconst (v := 1) C d_Rd_atom_35 (by decide) ?_
      refine zi_iadd C d_Rd_atom_36 hF (fun x34 hF => ?_)
      refine zi_putI C zc_7 (k := 2) (by decide) zw_362 rfl (Or.inl rfl) hn_v0 hk_v0 d_Rd_atom_37 rfl hF (fun M hF => ?_)
      refine zi_aload_n C d_Rd_atom_40 rfl 1 rfl ?_
      refine zi_bipush (v := 118) C d_Rd_atom_41 (by decide) ?_
      refine zi_iload_n C d_Rd_atom_43 rfl 0 rfl ?_
      refine zi_bipush (v := 97) C d_Rd_atom_44 (by decide) ?_
      refine zi_isub C d_Rd_atom_46 hF (fun x35 hF => ?_)
      obtain ⟨r36, M, hqr36, hF⟩ := zzcall_e hF
      refine zi_callV_i (M2 := M) (r := r36) (n := 2) (As := [.int (118 : Int32), .int x35]) (st := []) C (c_Rd_emit hqr36 hn_v0 hk_v0) zw_420 zw_367 (by decide +kernel) ⟨by show _ ≤ fr + 1; omega, by show _ ≤ lo + 60; omega⟩ rfl (Nat.le_of_ble_eq_true rfl) ⟨Nat.le_of_ble_eq_true rfl, Nat.le_of_ble_eq_true rfl⟩ zw_421 zw_422 zw_423 zc_7.1 hn_v0 hk_v0 rfl d_Rd_atom_47 ?_
      obtain ⟨hok, hF⟩ := zzck_e hF
      exact zi_zret C hlocks hr (zzokZ_n hok).1 d_Rd_atom_50 (by cases hF; rfl) rfl (by cases hF; rfl) rfl
  · refine zi_aload_n C d_Rd_atom_12 rfl 1 rfl ?_
    refine zi_bipush (v := 110) C d_Rd_atom_13 (by decide) ?_
    refine zi_aload_n C d_Rd_atom_15 rfl 1 rfl ?_
    obtain ⟨r37, M, hqr37, hF⟩ := zzcall_e hF
    refine zi_callV_i (M2 := M) (r := r37) (n := 0) (As := []) (st := [.int (110 : Int32), .ref (bs + v0)]) C (c_Rd_number hqr37 hn_v0 hk_v0) zw_438 zw_367 (by decide +kernel) ⟨by show _ ≤ fr + 1; omega, by show _ ≤ lo + 60; omega⟩ rfl (Nat.le_of_ble_eq_true rfl) ⟨Nat.le_of_ble_eq_true rfl, Nat.le_of_ble_eq_true rfl⟩ zw_439 zw_440 zw_441 zc_7.1 hn_v0 hk_v0 rfl d_Rd_atom_16 ?_
    obtain ⟨r38, M, hqr38, hF⟩ := zzcall_e hF
    refine zi_callV_i (M2 := M) (r := r38) (n := 2) (As := [.int (110 : Int32), .int r37]) (st := []) C (c_Rd_emit hqr38 hn_v0 hk_v0) zw_420 zw_367 (by decide +kernel) ⟨by show _ ≤ fr + 1; omega, by show _ ≤ lo + 60; omega⟩ rfl (Nat.le_of_ble_eq_true rfl) ⟨Nat.le_of_ble_eq_true rfl, Nat.le_of_ble_eq_true rfl⟩ zw_421 zw_422 zw_423 zc_7.1 hn_v0 hk_v0 rfl d_Rd_atom_19 ?_
    obtain ⟨hok, hF⟩ := zzck_e hF
    exact zi_zret C hlocks hr (zzokZ_n hok).1 d_Rd_atom_22 (by cases hF; rfl) rfl (by cases hF; rfl) rfl
def FG_R (S : zzS) (n : Nat) : (zzM → Nat → Int32 → Int32 → Option (Int32 × zzM)) × (zzM → Nat → Int32 → Option (Int32 × zzM)) := Nat.rec ((fun _ _ _ _ => none), (fun _ _ _ => none)) (fun _ r => (F_Rd_ranked S (r.1) (r.2), F_Rd_atom S (r.1) (r.2))) n
def FD_Rd_ranked (S : zzS) (n : Nat) : zzM → Nat → Int32 → Int32 → Option (Int32 × zzM) := (FG_R S n).1
def FD_Rd_atom (S : zzS) (n : Nat) : zzM → Nat → Int32 → Option (Int32 × zzM) := (FG_R S n).2
set_option maxHeartbeats 4000000 in
set_option maxRecDepth 100000 in
theorem cG_R {l : Launch} {D : zzD} {bs : Nat} {A : Nat → Prop} {S : zzS} : ∀ d : Nat, (∀ {M : zzM} {hz : Nat} {out : Int32 × zzM} {v0 : Nat} {v1 : Int32} {v2 : Int32}, FD_Rd_ranked S d M v0 v1 v2 = some out → v0 < S.2.1 → zzk S v0 = 17 → Met l y_Rd_ranked (Cond.code y_Rd_ranked prog_5_method_14_code 6 (some .boolean) :: zzW) { frames := (zzfr 12 d), cells := 0, slots := 0, locals := (zzlo 600 d) } (zzPc D bs A S M hz [.ref (bs + v0), .int v1, .int v2]) (zzQc D bs A S out.2 hz (some (.int out.1))) 0 0 A) ∧ (∀ {M : zzM} {hz : Nat} {out : Int32 × zzM} {v0 : Nat} {v1 : Int32}, FD_Rd_atom S d M v0 v1 = some out → v0 < S.2.1 → zzk S v0 = 17 → Met l y_Rd_atom (Cond.code y_Rd_atom prog_5_method_16_code 4 (some .boolean) :: zzW) { frames := (zzfr 12 d), cells := 0, slots := 0, locals := (zzlo 600 d) } (zzPc D bs A S M hz [.ref (bs + v0), .int v1]) (zzQc D bs A S out.2 hz (some (.int out.1))) 0 0 A) := by
  intro d
  induction d with
  | zero => exact ⟨(fun h => by cases h), (fun h => by cases h)⟩
  | succ d ih =>
    obtain ⟨i0, i1⟩ := ih
    exact ⟨(fun h => c_Rd_ranked (zzfr_ge _ d) (zzlo_ge _ d) i0 i1 h), (fun h => c_Rd_atom (zzfr_ge _ d) (zzlo_ge _ d) i0 i1 h)⟩
