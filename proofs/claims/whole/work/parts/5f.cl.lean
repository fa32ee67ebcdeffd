def F_Wk_walked_62 (S : zzS)   (M : zzM) (v0 : Nat) (w0 : Int32) : Option (Int32 × zzM) := if w0 = (2 : Int32) then (zzref S 16 (zzR M v0 2) fun b1 => zzcall (F_Rp_note S M b1 (0 : Int32) none (0 : Int32)) fun r2 M => some (w0, M)) else (some (w0, M))
set_option maxHeartbeats 4000000 in
set_option maxRecDepth 100000 in
theorem g_Wk_walked_62 {p : Program} {l : Launch} {e : Env} {s : State} {m : MethodId} {args : Array Value} {below : List Frame} {meth : Method} {c : Code} {D : zzD} {bs : Nat} {A : Nat → Prop} {S : zzS} {hz : Nat} {out : Int32 × zzM}  (C : zzC p s m args c prog_10_method_2_code "BoardScript$Walk" 5 D) (hlocks : meth.locks = false) (hr : meth.sig.returnType = (some .int)) (hin : meth.name = "walked")    (M : zzM) (v0 : Nat) (w0 : Int32) (hn_v0 : v0 < S.2.1) (hk_v0 : zzk S v0 = 18) (hF : F_Wk_walked_62 S   M v0 w0 = some out) : zzB p l e { frames := 73, cells := 0, slots := 0, locals := 4225 } s m args below meth c 5 D bs A (MQ below (zzQc D bs A S out.2 hz (some (.int out.1))) args s 0 0 A) 0 0 S M hz 62 [(0, .ref (bs + v0))] [.int w0] := by
  unfold F_Wk_walked_62 at hF
  refine zi_istore (lv' := [(4, .int w0), (0, .ref (bs + v0))]) C d_Wk_walked_62 (by decide) rfl ?_
  refine zi_iload C d_Wk_walked_64 0 rfl ?_
  refine zi_iconst (v := 2) C d_Wk_walked_66 (by decide) ?_
  refine zi_icmp_ne (tgt := 80) C d_Wk_walked_67 (by decide) hF (fun hF => ?_) (fun hF => ?_)
  · refine zi_iload C d_Wk_walked_80 0 rfl ?_
    exact zi_iret C hlocks hr d_Wk_walked_82 (by cases hF; rfl) rfl (by cases hF; rfl) rfl
  · refine zi_aload_n C d_Wk_walked_70 rfl 1 rfl ?_
    refine zi_getR C zc_8 (k := 2) (by decide) zw_379 rfl hn_v0 hk_v0 d_Wk_walked_71 (fun _ _ _ => rfl) hF (fun b1 hn_b1 hk_b1 hF => ?_)
    refine zi_iconst (v := 0) C d_Wk_walked_74 (by decide) ?_
    refine zi_null C d_Wk_walked_75 ?_
    refine zi_iconst (v := 0) C d_Wk_walked_76 (by decide) ?_
    obtain ⟨r2, M, hqr2, hF⟩ := zzcall_e hF
    refine zi_callV_v (M2 := M) (n := 3) (As := [.int (0 : Int32), .null, .int (0 : Int32)]) (st := []) C (c_Rp_note hqr2 hn_b1 hk_b1) zw_335 zw_259 (by decide +kernel) ⟨Nat.le_of_ble_eq_true rfl, Nat.le_of_ble_eq_true rfl⟩ rfl (Nat.le_of_ble_eq_true rfl) ⟨Nat.le_of_ble_eq_true rfl, Nat.le_of_ble_eq_true rfl⟩ zw_382 zw_337 zw_338 zc_6.1 hn_b1 hk_b1 rfl d_Wk_walked_77 ?_
    refine zi_iload C d_Wk_walked_80 0 rfl ?_
    exact zi_iret C hlocks hr d_Wk_walked_82 (by cases hF; rfl) rfl (by cases hF; rfl) rfl
def F_Wk_walked (S : zzS)  (M : zzM) (v0 : Nat) (v1 : Option Nat) (v2 : Int32) (v3 : Int32) : Option (Int32 × zzM) := zzlet (zzsR M v0 3 v1) fun M => zzlet (zzsI M v0 4 v2) fun M => zzlet (zzsI M v0 5 v3) fun M => zzlet (zzsI M v0 6 (0 : Int32)) fun M => zzref S 15 (zzR M v0 1) fun b1 => zzref S 2 (zzR M b1 1) fun b2 => zzcall (F_Ar_fill S M (some b2) (0 : Int64)) fun r3 M => zzref S 16 (zzR M v0 2) fun b4 => zzcall (F_Rp_forget S M b4) fun r5 M => zzlet (zzR M v0 3) fun r7 => zzopt S 11 r7 (F_Wk_walked_62 S   M v0 (0 : Int32)) (fun b8 => zzlet (zzR M v0 3) fun r10 => zzopt S 11 r10 (none) (fun b11 => zzref S 12 (zzR M b11 0) fun b12 => zzcall (FD_Wk_block S 60 M v0 (some b12) (0 : Int32) (0 : Int32)) fun r13 M => F_Wk_walked_62 S   M v0 r13))
set_option maxHeartbeats 4000000 in
set_option maxRecDepth 100000 in
theorem c_Wk_walked {l : Launch} {D : zzD} {bs : Nat} {A : Nat → Prop} {S : zzS} {M : zzM} {hz : Nat} {out : Int32 × zzM} {v0 : Nat} {v1 : Option Nat} {v2 : Int32} {v3 : Int32}   (hF : F_Wk_walked S  M v0 v1 v2 v3 = some out) (hn_v0 : v0 < S.2.1) (hk_v0 : zzk S v0 = 18) : Met l y_Wk_walked (Cond.code y_Wk_walked prog_10_method_2_code 5 (some .int) :: zzW) { frames := 73, cells := 0, slots := 0, locals := 4225 } (zzPc D bs A S M hz [.ref (bs + v0), zzrf bs v1, .int v2, .int v3]) (zzQc D bs A S out.2 hz (some (.int out.1))) 0 0 A := by
  refine zz_met [.ref (bs + v0), zzrf bs v1, .int v2, .int v3] (by decide) (by cases v1 <;> exact Nat.le_of_ble_eq_true rfl) (fun p e s m args below meth c C hr hlocks hin hsz => ?_)
  refine zz_eq (lv' := [(0, .ref (bs + v0)), (1, zzrf bs v1), (2, .int v2), (3, .int v3)]) (st' := []) (by cases v1 <;> rfl) rfl ?_
  unfold F_Wk_walked at hF
  refine zi_aload_n C d_Wk_walked_0 rfl 0 rfl ?_
  refine zi_aload_nO C d_Wk_walked_1 rfl 1 rfl ?_
  refine zi_putO C zc_8 (k := 3) (by decide) zw_514 rfl (Or.inl rfl) hn_v0 hk_v0 d_Wk_walked_2 (Or.inl ⟨_, rfl⟩) hF (fun M hF => ?_)
  refine zi_aload_n C d_Wk_walked_5 rfl 0 rfl ?_
  refine zi_iload_n C d_Wk_walked_6 rfl 2 rfl ?_
  refine zi_putI C zc_8 (k := 4) (by decide) zw_381 rfl (Or.inl rfl) hn_v0 hk_v0 d_Wk_walked_7 rfl hF (fun M hF => ?_)
  refine zi_aload_n C d_Wk_walked_10 rfl 0 rfl ?_
  refine zi_iload_n C d_Wk_walked_11 rfl 3 rfl ?_
  refine zi_putI C zc_8 (k := 5) (by decide) zw_503 rfl (Or.inl rfl) hn_v0 hk_v0 d_Wk_walked_12 rfl hF (fun M hF => ?_)
  refine zi_aload_n C d_Wk_walked_15 rfl 0 rfl ?_
  refine zi_iconst (v := 0) C d_Wk_walked_16 (by decide) ?_
  refine zi_putI C zc_8 (k := 6) (by decide) zw_498 rfl (Or.inl rfl) hn_v0 hk_v0 d_Wk_walked_17 rfl hF (fun M hF => ?_)
  refine zi_aload_n C d_Wk_walked_20 rfl 0 rfl ?_
  refine zi_getR C zc_8 (k := 1) (by decide) zw_383 rfl hn_v0 hk_v0 d_Wk_walked_21 (fun _ _ _ => rfl) hF (fun b1 hn_b1 hk_b1 hF => ?_)
  refine zi_getR C zc_5 (k := 1) (by decide) zw_399 rfl hn_b1 hk_b1 d_Wk_walked_24 (fun _ _ _ => rfl) hF (fun b2 hn_b2 hk_b2 hF => ?_)
  refine zi_lconst (v := 0) C d_Wk_walked_27 (by decide) ?_
  obtain ⟨r3, M, hqr3, hF⟩ := zzcall_e hF
  refine zi_callS_v (M2 := M) (n := 2) (As := [.ref (bs + b2), .long (0 : Int64)]) (st := []) C (c_Ar_fill hqr3 ) zw_317 zw_318 (by decide +kernel) ⟨Nat.le_of_ble_eq_true rfl, Nat.le_of_ble_eq_true rfl⟩ rfl (Nat.le_of_ble_eq_true rfl) ⟨Nat.le_of_ble_eq_true rfl, Nat.le_of_ble_eq_true rfl⟩ zw_520 zw_320 rfl d_Wk_walked_28 ?_
  refine zi_aload_n C d_Wk_walked_31 rfl 0 rfl ?_
  refine zi_getR C zc_8 (k := 2) (by decide) zw_379 rfl hn_v0 hk_v0 d_Wk_walked_32 (fun _ _ _ => rfl) hF (fun b4 hn_b4 hk_b4 hF => ?_)
  obtain ⟨r5, M, hqr5, hF⟩ := zzcall_e hF
  refine zi_callV_v (M2 := M) (n := 0) (As := []) (st := []) C (c_Rp_forget hqr5 hn_b4 hk_b4) zw_345 zw_259 (by decide +kernel) ⟨Nat.le_of_ble_eq_true rfl, Nat.le_of_ble_eq_true rfl⟩ rfl (Nat.le_of_ble_eq_true rfl) ⟨Nat.le_of_ble_eq_true rfl, Nat.le_of_ble_eq_true rfl⟩ zw_521 zw_347 zw_348 zc_6.1 hn_b4 hk_b4 rfl d_Wk_walked_35 ?_
  refine zi_aload_n C d_Wk_walked_38 rfl 0 rfl ?_
  refine zi_getQ C zc_8 (k := 3) (by decide) zw_514 rfl hn_v0 hk_v0 d_Wk_walked_39 (fun _ _ _ => rfl) hF (fun r7 hF => ?_)
  rcases zzopt_e hF with ⟨hv0, hF⟩ | ⟨b8, hv0, hn_b8, hk_b8, hF⟩
  · refine zz_eq (lv' := [(0, .ref (bs + v0)), (1, zzrf bs v1), (2, .int v2), (3, .int v3)]) (st' := [.null]) (by first | rfl | (rw [hv0]; rfl) | (rw [hv0]; done)) (by first | rfl | (rw [hv0]; rfl) | (rw [hv0]; done)) ?_
    refine zi_ifnonnullN C d_Wk_walked_42 ?_
    refine zi_iconst (v := 0) C d_Wk_walked_45 (by decide) ?_
    refine zi_goto (tgt := 62) C d_Wk_walked_46 (by decide) ?_
    refine zz_sub [0] (lv' := [(0, .ref (bs + v0))]) rfl ?_
    exact g_Wk_walked_62 C hlocks hr hin   _ v0 (0 : Int32) hn_v0 hk_v0 hF
  · refine zz_eq (lv' := [(0, .ref (bs + v0)), (1, zzrf bs v1), (2, .int v2), (3, .int v3)]) (st' := [.ref (bs + b8)]) (by first | rfl | (rw [hv0]; rfl) | (rw [hv0]; done)) (by first | rfl | (rw [hv0]; rfl) | (rw [hv0]; done)) ?_
    refine zi_ifnonnull (tgt := 49) C d_Wk_walked_42 (by decide) ?_
    refine zi_aload_n C d_Wk_walked_49 rfl 0 rfl ?_
    refine zi_aload_n C d_Wk_walked_50 rfl 0 rfl ?_
    refine zi_getQ C zc_8 (k := 3) (by decide) zw_514 rfl hn_v0 hk_v0 d_Wk_walked_51 (fun _ _ _ => rfl) hF (fun r10 hF => ?_)
    rcases zzopt_e hF with ⟨hv0, hF⟩ | ⟨b11, hv0, hn_b11, hk_b11, hF⟩
    · refine zz_eq (lv' := [(0, .ref (bs + v0)), (1, zzrf bs v1), (2, .int v2), (3, .int v3)]) (st' := [.null, .ref (bs + v0)]) (by first | rfl | (rw [hv0]; rfl) | (rw [hv0]; done)) (by first | rfl | (rw [hv0]; rfl) | (rw [hv0]; done)) ?_
      cases hF
    · refine zz_eq (lv' := [(0, .ref (bs + v0)), (1, zzrf bs v1), (2, .int v2), (3, .int v3)]) (st' := [.ref (bs + b11), .ref (bs + v0)]) (by first | rfl | (rw [hv0]; rfl) | (rw [hv0]; done)) (by first | rfl | (rw [hv0]; rfl) | (rw [hv0]; done)) ?_
      refine zi_getR C zc_1 (k := 0) (by decide) zw_522 rfl hn_b11 hk_b11 d_Wk_walked_54 (fun _ _ _ => rfl) hF (fun b12 hn_b12 hk_b12 hF => ?_)
      refine zi_iconst (v := 0) C d_Wk_walked_57 (by decide) ?_
      refine zi_iconst (v := 0) C d_Wk_walked_58 (by decide) ?_
      obtain ⟨r13, M, hqr13, hF⟩ := zzcall_e hF
      refine zi_callV_i (M2 := M) (r := r13) (n := 3) (As := [.ref (bs + b12), .int (0 : Int32), .int (0 : Int32)]) (st := []) C ((cG_W 60).1 hqr13 hn_v0 hk_v0) zw_493 zw_393 (by decide +kernel) ⟨Nat.le_of_ble_eq_true rfl, Nat.le_of_ble_eq_true rfl⟩ rfl (Nat.le_of_ble_eq_true rfl) ⟨Nat.le_of_ble_eq_true rfl, Nat.le_of_ble_eq_true rfl⟩ zw_494 zw_495 zw_496 zc_8.1 hn_v0 hk_v0 rfl d_Wk_walked_59 ?_
      refine zz_sub [0] (lv' := [(0, .ref (bs + v0))]) rfl ?_
      exact g_Wk_walked_62 C hlocks hr hin   _ v0 r13 hn_v0 hk_v0 hF
