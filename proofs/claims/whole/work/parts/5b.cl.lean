def F_Bs_steps (S : zzS)  (M : zzM) (v0 : Nat) : Option (Int64 × zzM) := zzref S 16 (zzR M v0 7) fun b1 => zzlet (zzI M b1 8) fun x2 => zzlet ((x2).toInt64) fun x3 => some (x3, M)
set_option maxHeartbeats 4000000 in
set_option maxRecDepth 100000 in
theorem c_Bs_steps {l : Launch} {D : zzD} {bs : Nat} {A : Nat → Prop} {S : zzS} {M : zzM} {hz : Nat} {out : Int64 × zzM} {v0 : Nat}   (hF : F_Bs_steps S  M v0 = some out) (hn_v0 : v0 < S.2.1) (hk_v0 : zzk S v0 = 10) : Met l y_Bs_steps (Cond.code y_Bs_steps prog_1_method_14_code 1 (some .long) :: zzW) { frames := 0, cells := 0, slots := 0, locals := 0 } (zzPc D bs A S M hz [.ref (bs + v0)]) (zzQc D bs A S out.2 hz (some (.long out.1))) 0 0 A := by
  refine zz_met [.ref (bs + v0)] (by decide) (Nat.le_of_ble_eq_true rfl) (fun p e s m args below meth c C hr hlocks hin hsz => ?_)
  refine zz_eq (lv' := [(0, .ref (bs + v0))]) (st' := []) rfl rfl ?_
  unfold F_Bs_steps at hF
  refine zi_aload_n C d_Bs_steps_0 rfl 0 rfl ?_
  refine zi_getR C zc_0 (k := 7) (by decide) zw_257 rfl hn_v0 hk_v0 d_Bs_steps_1 (fun _ _ _ => rfl) hF (fun b1 hn_b1 hk_b1 hF => ?_)
  refine zi_getI C zc_6 (k := 8) (by decide) zw_313 rfl hn_b1 hk_b1 d_Bs_steps_4 (fun _ _ _ => rfl) hF (fun x2 hF => ?_)
  refine zi_i2l C d_Bs_steps_7 hF (fun x3 hF => ?_)
  exact zi_lret C hlocks hr d_Bs_steps_8 (by cases hF; rfl) rfl (by cases hF; rfl) rfl
def F_Bs_failAt_9 (S : zzS)   (M : zzM) (v0 : Nat) (w0 : Int32) : Option (Int32 × zzM) := zzlet (zzI M v0 2) fun x1 => if w0 = x1 then (zzlet (zzsI M v0 2 w0) fun M => some ((0 : Int32), M)) else (zzlet (zzsI M v0 2 w0) fun M => some ((1 : Int32), M))
set_option maxHeartbeats 4000000 in
set_option maxRecDepth 100000 in
theorem g_Bs_failAt_9 {p : Program} {l : Launch} {e : Env} {s : State} {m : MethodId} {args : Array Value} {below : List Frame} {meth : Method} {c : Code} {D : zzD} {bs : Nat} {A : Nat → Prop} {S : zzS} {hz : Nat} {out : Int32 × zzM}  (C : zzC p s m args c prog_1_method_15_code "BoardScript" 4 D) (hlocks : meth.locks = false) (hr : meth.sig.returnType = (some .boolean)) (hin : meth.name = "failAt")    (M : zzM) (v0 : Nat) (w0 : Int32) (hn_v0 : v0 < S.2.1) (hk_v0 : zzk S v0 = 10) (hF : F_Bs_failAt_9 S   M v0 w0 = some out) : zzB p l e { frames := 0, cells := 0, slots := 0, locals := 0 } s m args below meth c 4 D bs A (MQ below (zzQc D bs A S out.2 hz (some (.int out.1))) args s 0 0 A) 0 0 S M hz 9 [(0, .ref (bs + v0))] [.int w0] := by
  unfold F_Bs_failAt_9 at hF
  refine zi_istore_n (lv' := [(2, .int w0), (0, .ref (bs + v0))]) C d_Bs_failAt_9 rfl (by decide) rfl ?_
  refine zi_iload_n C d_Bs_failAt_10 rfl 0 rfl ?_
  refine zi_aload_n C d_Bs_failAt_11 rfl 1 rfl ?_
  refine zi_getI C zc_0 (k := 2) (by decide) zw_314 rfl hn_v0 hk_v0 d_Bs_failAt_12 (fun _ _ _ => rfl) hF (fun x1 hF => ?_)
  refine zi_icmp_eq (tgt := 22) C d_Bs_failAt_15 (by decide) hF (fun hF => ?_) (fun hF => ?_)
  · refine zi_iconst (v := 0) C d_Bs_failAt_22 (by decide) ?_
    refine zi_istore_n (lv' := [(3, .int (0 : Int32)), (2, .int w0), (0, .ref (bs + v0))]) C d_Bs_failAt_23 rfl (by decide) rfl ?_
    refine zi_aload_n C d_Bs_failAt_24 rfl 2 rfl ?_
    refine zi_iload_n C d_Bs_failAt_25 rfl 1 rfl ?_
    refine zi_putI C zc_0 (k := 2) (by decide) zw_314 rfl (Or.inl rfl) hn_v0 hk_v0 d_Bs_failAt_26 rfl hF (fun M hF => ?_)
    refine zi_iload_n C d_Bs_failAt_29 rfl 0 rfl ?_
    exact zi_zret C hlocks hr (by decide +kernel) d_Bs_failAt_30 (by cases hF; rfl) rfl (by cases hF; rfl) rfl
  · refine zi_iconst (v := 1) C d_Bs_failAt_18 (by decide) ?_
    refine zi_goto (tgt := 23) C d_Bs_failAt_19 (by decide) ?_
    refine zi_istore_n (lv' := [(3, .int (1 : Int32)), (2, .int w0), (0, .ref (bs + v0))]) C d_Bs_failAt_23 rfl (by decide) rfl ?_
    refine zi_aload_n C d_Bs_failAt_24 rfl 2 rfl ?_
    refine zi_iload_n C d_Bs_failAt_25 rfl 1 rfl ?_
    refine zi_putI C zc_0 (k := 2) (by decide) zw_314 rfl (Or.inl rfl) hn_v0 hk_v0 d_Bs_failAt_26 rfl hF (fun M hF => ?_)
    refine zi_iload_n C d_Bs_failAt_29 rfl 0 rfl ?_
    exact zi_zret C hlocks hr (by decide +kernel) d_Bs_failAt_30 (by cases hF; rfl) rfl (by cases hF; rfl) rfl
def F_Bs_failAt (S : zzS)  (M : zzM) (v0 : Nat) (v1 : Int32) : Option (Int32 × zzM) := if 0 ≤ v1 then (F_Bs_failAt_9 S   M v0 v1) else (F_Bs_failAt_9 S   M v0 (-1 : Int32))
set_option maxHeartbeats 4000000 in
set_option maxRecDepth 100000 in
theorem c_Bs_failAt {l : Launch} {D : zzD} {bs : Nat} {A : Nat → Prop} {S : zzS} {M : zzM} {hz : Nat} {out : Int32 × zzM} {v0 : Nat} {v1 : Int32}   (hF : F_Bs_failAt S  M v0 v1 = some out) (hn_v0 : v0 < S.2.1) (hk_v0 : zzk S v0 = 10) : Met l y_Bs_failAt (Cond.code y_Bs_failAt prog_1_method_15_code 4 (some .boolean) :: zzW) { frames := 0, cells := 0, slots := 0, locals := 0 } (zzPc D bs A S M hz [.ref (bs + v0), .int v1]) (zzQc D bs A S out.2 hz (some (.int out.1))) 0 0 A := by
  refine zz_met [.ref (bs + v0), .int v1] (by decide) (Nat.le_of_ble_eq_true rfl) (fun p e s m args below meth c C hr hlocks hin hsz => ?_)
  refine zz_eq (lv' := [(0, .ref (bs + v0)), (1, .int v1)]) (st' := []) rfl rfl ?_
  unfold F_Bs_failAt at hF
  refine zi_iload_n C d_Bs_failAt_0 rfl 1 rfl ?_
  refine zi_if_ge (tgt := 8) C d_Bs_failAt_1 (by decide) hF (fun hF => ?_) (fun hF => ?_)
  · refine zi_iload_n C d_Bs_failAt_8 rfl 1 rfl ?_
    refine zz_sub [0] (lv' := [(0, .ref (bs + v0))]) rfl ?_
    exact g_Bs_failAt_9 C hlocks hr hin   _ v0 v1 hn_v0 hk_v0 hF
  · refine zi_iconst (v := -1) C d_Bs_failAt_4 (by decide) ?_
    refine zi_goto (tgt := 9) C d_Bs_failAt_5 (by decide) ?_
    refine zz_sub [0] (lv' := [(0, .ref (bs + v0))]) rfl ?_
    exact g_Bs_failAt_9 C hlocks hr hin   _ v0 (-1 : Int32) hn_v0 hk_v0 hF
def F_Ar_fill_6_b (S : zzS)  (k6 : zzM → Nat → Int64 → Int32 → Int32 → Option (Unit × zzM)) (M : zzM) (v0 : Nat) (v1 : Int64) (v3 : Int32) (v4 : Int32) : Option (Unit × zzM) := if v4 ≤ v3 then (some ((), M)) else (zzix S v0 v3 (zzlet (zzsL M v0 (v3).toNatClampNeg v1) fun M => zzlet (v3 + (1 : Int32)) fun x1 => k6 M v0 v1 x1 v4))
def F_Ar_fill_6 (S : zzS)   (n : Nat) : zzM → Nat → Int64 → Int32 → Int32 → Option (Unit × zzM) := Nat.rec (fun _ _ _ _ _ => none) (fun _ k => F_Ar_fill_6_b S   k) n
set_option maxHeartbeats 4000000 in
set_option maxRecDepth 100000 in
theorem g_Ar_fill_6_b {p : Program} {l : Launch} {e : Env} {s : State} {m : MethodId} {args : Array Value} {below : List Frame} {meth : Method} {c : Code} {D : zzD} {bs : Nat} {A : Nat → Prop} {S : zzS} {hz : Nat} {out : Unit × zzM}  (C : zzC p s m args c prog_24_method_101_code "java/util/Arrays" 5 D) (hlocks : meth.locks = false) (hr : meth.sig.returnType = none) (hin : meth.name = "fill")  {k6 : zzM → Nat → Int64 → Int32 → Int32 → Option (Unit × zzM)} (hk6 : ∀ (M : zzM) (v0 : Nat) (v1 : Int64) (v3 : Int32) (v4 : Int32) (hn_v0 : v0 < S.2.1) (hk_v0 : zzk S v0 = 2), k6 M v0 v1 v3 v4 = some out → zzB p l e { frames := 0, cells := 0, slots := 0, locals := 0 } s m args below meth c 5 D bs A (MQ below (zzQc D bs A S out.2 hz none) args s 0 0 A) 0 0 S M hz 6 [(0, .ref (bs + v0)), (1, .long v1), (3, .int v3), (4, .int v4)] []) (M : zzM) (v0 : Nat) (v1 : Int64) (v3 : Int32) (v4 : Int32) (hn_v0 : v0 < S.2.1) (hk_v0 : zzk S v0 = 2) (hF : F_Ar_fill_6_b S  k6 M v0 v1 v3 v4 = some out) : zzB p l e { frames := 0, cells := 0, slots := 0, locals := 0 } s m args below meth c 5 D bs A (MQ below (zzQc D bs A S out.2 hz none) args s 0 0 A) 0 0 S M hz 6 [(0, .ref (bs + v0)), (1, .long v1), (3, .int v3), (4, .int v4)] [] := by
  unfold F_Ar_fill_6_b at hF
  refine zi_iload_n C d_Ar_fill_6 rfl 2 rfl ?_
  refine zi_iload C d_Ar_fill_7 3 rfl ?_
  refine zi_icmp_ge (tgt := 22) C d_Ar_fill_9 (by decide) hF (fun hF => ?_) (fun hF => ?_)
  · exact zi_vret C hlocks hr d_Ar_fill_22 rfl rfl (by cases hF; rfl) rfl
  · refine zi_aload_n C d_Ar_fill_12 rfl 0 rfl ?_
    refine zi_iload_n C d_Ar_fill_13 rfl 2 rfl ?_
    refine zi_lload_n C d_Ar_fill_14 rfl 1 rfl ?_
    refine zi_last C hn_v0 hk_v0 d_Ar_fill_15 hF (fun M hF => ?_)
    refine zi_iinc (j := 2) (v0 := 1) C d_Ar_fill_16 rfl (by decide) (by decide) hF (fun x1 => [(3, .int x1), (0, .ref (bs + v0)), (1, .long v1), (4, .int v4)]) (fun _ => rfl) (fun x1 hF => ?_)
    refine zi_goto (tgt := 6) C d_Ar_fill_19 (by decide) ?_
    refine zz_sub [1, 2, 0, 3] (lv' := [(0, .ref (bs + v0)), (1, .long v1), (3, .int x1), (4, .int v4)]) rfl ?_
    exact hk6 _ v0 v1 x1 v4 hn_v0 hk_v0 hF
set_option maxHeartbeats 4000000 in
set_option maxRecDepth 100000 in
theorem g_Ar_fill_6 {p : Program} {l : Launch} {e : Env} {s : State} {m : MethodId} {args : Array Value} {below : List Frame} {meth : Method} {c : Code} {D : zzD} {bs : Nat} {A : Nat → Prop} {S : zzS} {hz : Nat} {out : Unit × zzM}  (C : zzC p s m args c prog_24_method_101_code "java/util/Arrays" 5 D) (hlocks : meth.locks = false) (hr : meth.sig.returnType = none) (hin : meth.name = "fill")    : ∀ (n : Nat) (M : zzM) (v0 : Nat) (v1 : Int64) (v3 : Int32) (v4 : Int32) (hn_v0 : v0 < S.2.1) (hk_v0 : zzk S v0 = 2) (hF : F_Ar_fill_6 S   n M v0 v1 v3 v4 = some out), zzB p l e { frames := 0, cells := 0, slots := 0, locals := 0 } s m args below meth c 5 D bs A (MQ below (zzQc D bs A S out.2 hz none) args s 0 0 A) 0 0 S M hz 6 [(0, .ref (bs + v0)), (1, .long v1), (3, .int v3), (4, .int v4)] [] := by
  intro n
  induction n with
  | zero => intro M v0 v1 v3 v4 hn_v0 hk_v0 hF; cases hF
  | succ n ih => intro M v0 v1 v3 v4 hn_v0 hk_v0 hF; exact g_Ar_fill_6_b C hlocks hr hin   ih M v0 v1 v3 v4 hn_v0 hk_v0 hF
def F_Ar_fill (S : zzS)  (M : zzM) (v0 : Option Nat) (v1 : Int64) : Option (Unit × zzM) := zzopt S 2 v0 (none) (fun b1 => zzlet (Int32.ofNat (zzn S b1)) fun x2 => F_Ar_fill_6 S   2000 M b1 v1 (0 : Int32) x2)
set_option maxHeartbeats 4000000 in
set_option maxRecDepth 100000 in
theorem c_Ar_fill {l : Launch} {D : zzD} {bs : Nat} {A : Nat → Prop} {S : zzS} {M : zzM} {hz : Nat} {out : Unit × zzM} {v0 : Option Nat} {v1 : Int64}   (hF : F_Ar_fill S  M v0 v1 = some out)  : Met l y_Ar_fill (Cond.code y_Ar_fill prog_24_method_101_code 5 none :: zzW) { frames := 0, cells := 0, slots := 0, locals := 0 } (zzPc D bs A S M hz [zzrf bs v0, .long v1]) (zzQc D bs A S out.2 hz none) 0 0 A := by
  refine zz_met [zzrf bs v0, .long v1] (by decide) (by cases v0 <;> exact Nat.le_of_ble_eq_true rfl) (fun p e s m args below meth c C hr hlocks hin hsz => ?_)
  refine zz_eq (lv' := [(0, zzrf bs v0), (1, .long v1)]) (st' := []) (by cases v0 <;> rfl) rfl ?_
  unfold F_Ar_fill at hF
  refine zi_iconst (v := 0) C d_Ar_fill_0 (by decide) ?_
  refine zi_istore_n (lv' := [(3, .int (0 : Int32)), (0, zzrf bs v0), (1, .long v1)]) C d_Ar_fill_1 rfl (by decide) rfl ?_
  refine zi_aload_nO C d_Ar_fill_2 rfl 1 rfl ?_
  rcases zzopt_e hF with ⟨hv0, hF⟩ | ⟨b1, hv0, hn_b1, hk_b1, hF⟩
  · refine zz_eq (lv' := [(3, .int (0 : Int32)), (0, .null), (1, .long v1)]) (st' := [.null]) (by first | rfl | (rw [hv0]; rfl) | (rw [hv0]; done)) (by first | rfl | (rw [hv0]; rfl) | (rw [hv0]; done)) ?_
    cases hF
  · refine zz_eq (lv' := [(3, .int (0 : Int32)), (0, .ref (bs + b1)), (1, .long v1)]) (st' := [.ref (bs + b1)]) (by first | rfl | (rw [hv0]; rfl) | (rw [hv0]; done)) (by first | rfl | (rw [hv0]; rfl) | (rw [hv0]; done)) ?_
    refine zi_alen C hn_b1 hk_b1 (by decide) (by decide) d_Ar_fill_3 hF (fun x2 hF => ?_)
    refine zi_istore (lv' := [(4, .int x2), (3, .int (0 : Int32)), (0, .ref (bs + b1)), (1, .long v1)]) C d_Ar_fill_4 (by decide) rfl ?_
    refine zz_sub [2, 3, 1, 0] (lv' := [(0, .ref (bs + b1)), (1, .long v1), (3, .int (0 : Int32)), (4, .int x2)]) rfl ?_
    exact g_Ar_fill_6 C hlocks hr hin   _ _ b1 v1 (0 : Int32) x2 hn_b1 hk_b1 hF
def F_Bd_resize (S : zzS)  (M : zzM) (v0 : Nat) (v1 : Int64) : Option (Int32 × zzM) := zzlet (lg_cmp v1 (0 : Int64)) fun x1 => if x1 < 0 then (some ((0 : Int32), M)) else (zzlet (lg_cmp v1 (20 : Int64)) fun x2 => if x2 ≤ 0 then (zzlet ((v1).toInt32) fun x3 => zzlet (zzsI M v0 3 x3) fun M => zzref S 2 (zzR M v0 2) fun b4 => zzcall (F_Ar_fill S M (some b4) (0 : Int64)) fun r5 M => some ((1 : Int32), M)) else (some ((0 : Int32), M)))
set_option maxHeartbeats 4000000 in
set_option maxRecDepth 100000 in
theorem c_Bd_resize {l : Launch} {D : zzD} {bs : Nat} {A : Nat → Prop} {S : zzS} {M : zzM} {hz : Nat} {out : Int32 × zzM} {v0 : Nat} {v1 : Int64}   (hF : F_Bd_resize S  M v0 v1 = some out) (hn_v0 : v0 < S.2.1) (hk_v0 : zzk S v0 = 14) : Met l y_Bd_resize (Cond.code y_Bd_resize prog_3_method_5_code 3 (some .boolean) :: zzW) { frames := 3, cells := 0, slots := 0, locals := 120 } (zzPc D bs A S M hz [.ref (bs + v0), .long v1]) (zzQc D bs A S out.2 hz (some (.int out.1))) 0 0 A := by
  refine zz_met [.ref (bs + v0), .long v1] (by decide) (Nat.le_of_ble_eq_true rfl) (fun p e s m args below meth c C hr hlocks hin hsz => ?_)
  refine zz_eq (lv' := [(0, .ref (bs + v0)), (1, .long v1)]) (st' := []) rfl rfl ?_
  unfold F_Bd_resize at hF
  refine zi_lload_n C d_Bd_resize_0 rfl 1 rfl ?_
  refine zi_lconst (v := 0) C d_Bd_resize_1 (by decide) ?_
  refine zi_lcmp C d_Bd_resize_2 hF (fun x1 hF => ?_)
  refine zi_if_lt (tgt := 14) C d_Bd_resize_3 (by decide) hF (fun hF => ?_) (fun hF => ?_)
  · refine zi_iconst (v := 0) C d_Bd_resize_14 (by decide) ?_
    exact zi_zret C hlocks hr (by decide +kernel) d_Bd_resize_15 (by cases hF; rfl) rfl (by cases hF; rfl) rfl
  · refine zi_lload_n C d_Bd_resize_6 rfl 1 rfl ?_
    refine zi_ldc2 (v := 20) C zw_315 d_Bd_resize_7 ?_
    refine zi_lcmp C d_Bd_resize_10 hF (fun x2 hF => ?_)
    refine zi_if_le (tgt := 16) C d_Bd_resize_11 (by decide) hF (fun hF => ?_) (fun hF => ?_)
    · refine zi_aload_n C d_Bd_resize_16 rfl 0 rfl ?_
      refine zi_lload_n C d_Bd_resize_17 rfl 1 rfl ?_
      refine zi_l2i C d_Bd_resize_18 hF (fun x3 hF => ?_)
      refine zi_putI C zc_4 (k := 3) (by decide) zw_269 rfl (Or.inl rfl) hn_v0 hk_v0 d_Bd_resize_19 rfl hF (fun M hF => ?_)
      refine zi_aload_n C d_Bd_resize_22 rfl 0 rfl ?_
      refine zi_getR C zc_4 (k := 2) (by decide) zw_316 rfl hn_v0 hk_v0 d_Bd_resize_23 (fun _ _ _ => rfl) hF (fun b4 hn_b4 hk_b4 hF => ?_)
      refine zi_lconst (v := 0) C d_Bd_resize_26 (by decide) ?_
      obtain ⟨r5, M, hqr5, hF⟩ := zzcall_e hF
      refine zi_callS_v (M2 := M) (n := 2) (As := [.ref (bs + b4), .long (0 : Int64)]) (st := []) C (c_Ar_fill hqr5 ) zw_317 zw_318 (by decide +kernel) ⟨Nat.le_of_ble_eq_true rfl, Nat.le_of_ble_eq_true rfl⟩ rfl (Nat.le_of_ble_eq_true rfl) ⟨Nat.le_of_ble_eq_true rfl, Nat.le_of_ble_eq_true rfl⟩ zw_319 zw_320 rfl d_Bd_resize_27 ?_
      refine zi_iconst (v := 1) C d_Bd_resize_30 (by decide) ?_
      exact zi_zret C hlocks hr (by decide +kernel) d_Bd_resize_31 (by cases hF; rfl) rfl (by cases hF; rfl) rfl
    · refine zi_iconst (v := 0) C d_Bd_resize_14 (by decide) ?_
      exact zi_zret C hlocks hr (by decide +kernel) d_Bd_resize_15 (by cases hF; rfl) rfl (by cases hF; rfl) rfl
def F_Bs_list (S : zzS)  (M : zzM) (v0 : Nat) (v1 : Int32) : Option (Int32 × zzM) := zzref S 14 (zzR M v0 5) fun b1 => zzlet ((v1).toInt64) fun x2 => zzcall (F_Bd_resize S M b1 x2) fun r3 M => if r3 = 0 then (some ((3 : Int32), M)) else (some ((0 : Int32), M))
set_option maxHeartbeats 4000000 in
set_option maxRecDepth 100000 in
theorem c_Bs_list {l : Launch} {D : zzD} {bs : Nat} {A : Nat → Prop} {S : zzS} {M : zzM} {hz : Nat} {out : Int32 × zzM} {v0 : Nat} {v1 : Int32}   (hF : F_Bs_list S  M v0 v1 = some out) (hn_v0 : v0 < S.2.1) (hk_v0 : zzk S v0 = 10) : Met l y_Bs_list (Cond.code y_Bs_list prog_1_method_16_code 2 (some .int) :: zzW) { frames := 4, cells := 0, slots := 0, locals := 142 } (zzPc D bs A S M hz [.ref (bs + v0), .int v1]) (zzQc D bs A S out.2 hz (some (.int out.1))) 0 0 A := by
  refine zz_met [.ref (bs + v0), .int v1] (by decide) (Nat.le_of_ble_eq_true rfl) (fun p e s m args below meth c C hr hlocks hin hsz => ?_)
  refine zz_eq (lv' := [(0, .ref (bs + v0)), (1, .int v1)]) (st' := []) rfl rfl ?_
  unfold F_Bs_list at hF
  refine zi_aload_n C d_Bs_list_0 rfl 0 rfl ?_
  refine zi_getR C zc_0 (k := 5) (by decide) zw_250 rfl hn_v0 hk_v0 d_Bs_list_1 (fun _ _ _ => rfl) hF (fun b1 hn_b1 hk_b1 hF => ?_)
  refine zi_iload_n C d_Bs_list_4 rfl 1 rfl ?_
  refine zi_i2l C d_Bs_list_5 hF (fun x2 hF => ?_)
  obtain ⟨r3, M, hqr3, hF⟩ := zzcall_e hF
  refine zi_callV_i (M2 := M) (r := r3) (n := 1) (As := [.long x2]) (st := []) C (c_Bd_resize hqr3 hn_b1 hk_b1) zw_321 zw_252 (by decide +kernel) ⟨Nat.le_of_ble_eq_true rfl, Nat.le_of_ble_eq_true rfl⟩ rfl (Nat.le_of_ble_eq_true rfl) ⟨Nat.le_of_ble_eq_true rfl, Nat.le_of_ble_eq_true rfl⟩ zw_322 zw_323 zw_324 zc_4.1 hn_b1 hk_b1 rfl d_Bs_list_6 ?_
  refine zi_if_eq (tgt := 16) C d_Bs_list_9 (by decide) hF (fun hF => ?_) (fun hF => ?_)
  · refine zi_iconst (v := 3) C d_Bs_list_16 (by decide) ?_
    exact zi_iret C hlocks hr d_Bs_list_17 (by cases hF; rfl) rfl (by cases hF; rfl) rfl
  · refine zi_iconst (v := 0) C d_Bs_list_12 (by decide) ?_
    refine zi_goto (tgt := 17) C d_Bs_list_13 (by decide) ?_
    exact zi_iret C hlocks hr d_Bs_list_17 (by cases hF; rfl) rfl (by cases hF; rfl) rfl
def F_Bs_line (S : zzS)  (M : zzM) (v0 : Nat) : Option (Int32 × zzM) := zzref S 16 (zzR M v0 7) fun b1 => zzlet (zzR M b1 10) fun r3 => zzopt S 13 r3 (some ((0 : Int32), M)) (fun b4 => zzref S 16 (zzR M v0 7) fun b5 => zzlet (zzR M b5 10) fun r7 => zzopt S 13 r7 (none) (fun b8 => zzlet (zzI M b8 2) fun x9 => some (x9, M)))
set_option maxHeartbeats 4000000 in
set_option maxRecDepth 100000 in
theorem c_Bs_line {l : Launch} {D : zzD} {bs : Nat} {A : Nat → Prop} {S : zzS} {M : zzM} {hz : Nat} {out : Int32 × zzM} {v0 : Nat}   (hF : F_Bs_line S  M v0 = some out) (hn_v0 : v0 < S.2.1) (hk_v0 : zzk S v0 = 10) : Met l y_Bs_line (Cond.code y_Bs_line prog_1_method_17_code 1 (some .int) :: zzW) { frames := 0, cells := 0, slots := 0, locals := 0 } (zzPc D bs A S M hz [.ref (bs + v0)]) (zzQc D bs A S out.2 hz (some (.int out.1))) 0 0 A := by
  refine zz_met [.ref (bs + v0)] (by decide) (Nat.le_of_ble_eq_true rfl) (fun p e s m args below meth c C hr hlocks hin hsz => ?_)
  refine zz_eq (lv' := [(0, .ref (bs + v0))]) (st' := []) rfl rfl ?_
  unfold F_Bs_line at hF
  refine zi_aload_n C d_Bs_line_0 rfl 0 rfl ?_
  refine zi_getR C zc_0 (k := 7) (by decide) zw_257 rfl hn_v0 hk_v0 d_Bs_line_1 (fun _ _ _ => rfl) hF (fun b1 hn_b1 hk_b1 hF => ?_)
  refine zi_getQ C zc_6 (k := 10) (by decide) zw_325 rfl hn_b1 hk_b1 d_Bs_line_4 (fun _ _ _ => rfl) hF (fun r3 hF => ?_)
  rcases zzopt_e hF with ⟨hv0, hF⟩ | ⟨b4, hv0, hn_b4, hk_b4, hF⟩
  · refine zz_eq (lv' := [(0, .ref (bs + v0))]) (st' := [.null]) (by first | rfl | (rw [hv0]; rfl) | (rw [hv0]; done)) (by first | rfl | (rw [hv0]; rfl) | (rw [hv0]; done)) ?_
    refine zi_ifnonnullN C d_Bs_line_7 ?_
    refine zi_iconst (v := 0) C d_Bs_line_10 (by decide) ?_
    refine zi_goto (tgt := 24) C d_Bs_line_11 (by decide) ?_
    exact zi_iret C hlocks hr d_Bs_line_24 (by cases hF; rfl) rfl (by cases hF; rfl) rfl
  · refine zz_eq (lv' := [(0, .ref (bs + v0))]) (st' := [.ref (bs + b4)]) (by first | rfl | (rw [hv0]; rfl) | (rw [hv0]; done)) (by first | rfl | (rw [hv0]; rfl) | (rw [hv0]; done)) ?_
    refine zi_ifnonnull (tgt := 14) C d_Bs_line_7 (by decide) ?_
    refine zi_aload_n C d_Bs_line_14 rfl 0 rfl ?_
    refine zi_getR C zc_0 (k := 7) (by decide) zw_257 rfl hn_v0 hk_v0 d_Bs_line_15 (fun _ _ _ => rfl) hF (fun b5 hn_b5 hk_b5 hF => ?_)
    refine zi_getQ C zc_6 (k := 10) (by decide) zw_325 rfl hn_b5 hk_b5 d_Bs_line_18 (fun _ _ _ => rfl) hF (fun r7 hF => ?_)
    rcases zzopt_e hF with ⟨hv0, hF⟩ | ⟨b8, hv0, hn_b8, hk_b8, hF⟩
    · refine zz_eq (lv' := [(0, .ref (bs + v0))]) (st' := [.null]) (by first | rfl | (rw [hv0]; rfl) | (rw [hv0]; done)) (by first | rfl | (rw [hv0]; rfl) | (rw [hv0]; done)) ?_
      cases hF
    · refine zz_eq (lv' := [(0, .ref (bs + v0))]) (st' := [.ref (bs + b8)]) (by first | rfl | (rw [hv0]; rfl) | (rw [hv0]; done)) (by first | rfl | (rw [hv0]; rfl) | (rw [hv0]; done)) ?_
      refine zi_getI C zc_3 (k := 2) (by decide) zw_326 rfl hn_b8 hk_b8 d_Bs_line_21 (fun _ _ _ => rfl) hF (fun x9 hF => ?_)
      exact zi_iret C hlocks hr d_Bs_line_24 (by cases hF; rfl) rfl (by cases hF; rfl) rfl
def F_Bd_empty (S : zzS)  (M : zzM) (v0 : Nat) : Option (Unit × zzM) := zzlet (zzsI M v0 1 (0 : Int32)) fun M => zzlet (zzsI M v0 3 (0 : Int32)) fun M => some ((), M)
set_option maxHeartbeats 4000000 in
set_option maxRecDepth 100000 in
theorem c_Bd_empty {l : Launch} {D : zzD} {bs : Nat} {A : Nat → Prop} {S : zzS} {M : zzM} {hz : Nat} {out : Unit × zzM} {v0 : Nat}   (hF : F_Bd_empty S  M v0 = some out) (hn_v0 : v0 < S.2.1) (hk_v0 : zzk S v0 = 14) : Met l y_Bd_empty (Cond.code y_Bd_empty prog_3_method_8_code 1 none :: zzW) { frames := 0, cells := 0, slots := 0, locals := 0 } (zzPc D bs A S M hz [.ref (bs + v0)]) (zzQc D bs A S out.2 hz none) 0 0 A := by
  refine zz_met [.ref (bs + v0)] (by decide) (Nat.le_of_ble_eq_true rfl) (fun p e s m args below meth c C hr hlocks hin hsz => ?_)
  refine zz_eq (lv' := [(0, .ref (bs + v0))]) (st' := []) rfl rfl ?_
  unfold F_Bd_empty at hF
  refine zi_aload_n C d_Bd_empty_0 rfl 0 rfl ?_
  refine zi_iconst (v := 0) C d_Bd_empty_1 (by decide) ?_
  refine zi_putI C zc_4 (k := 1) (by decide) zw_248 rfl (Or.inl rfl) hn_v0 hk_v0 d_Bd_empty_2 rfl hF (fun M hF => ?_)
  refine zi_aload_n C d_Bd_empty_5 rfl 0 rfl ?_
  refine zi_iconst (v := 0) C d_Bd_empty_6 (by decide) ?_
  refine zi_putI C zc_4 (k := 3) (by decide) zw_269 rfl (Or.inl rfl) hn_v0 hk_v0 d_Bd_empty_7 rfl hF (fun M hF => ?_)
  exact zi_vret C hlocks hr d_Bd_empty_10 rfl rfl (by cases hF; rfl) rfl
def F_Rp_note (S : zzS)  (M : zzM) (v0 : Nat) (v1 : Int32) (v2 : Option Nat) (v3 : Int32) : Option (Unit × zzM) := zzlet (zzsI M v0 9 v1) fun M => zzlet (zzsR M v0 10 v2) fun M => zzlet (zzsI M v0 11 v3) fun M => some ((), M)
set_option maxHeartbeats 4000000 in
set_option maxRecDepth 100000 in
theorem c_Rp_note {l : Launch} {D : zzD} {bs : Nat} {A : Nat → Prop} {S : zzS} {M : zzM} {hz : Nat} {out : Unit × zzM} {v0 : Nat} {v1 : Int32} {v2 : Option Nat} {v3 : Int32}   (hF : F_Rp_note S  M v0 v1 v2 v3 = some out) (hn_v0 : v0 < S.2.1) (hk_v0 : zzk S v0 = 16) : Met l y_Rp_note (Cond.code y_Rp_note prog_7_method_3_code 4 none :: zzW) { frames := 0, cells := 0, slots := 0, locals := 0 } (zzPc D bs A S M hz [.ref (bs + v0), .int v1, zzrf bs v2, .int v3]) (zzQc D bs A S out.2 hz none) 0 0 A := by
  refine zz_met [.ref (bs + v0), .int v1, zzrf bs v2, .int v3] (by decide) (by cases v2 <;> exact Nat.le_of_ble_eq_true rfl) (fun p e s m args below meth c C hr hlocks hin hsz => ?_)
  refine zz_eq (lv' := [(0, .ref (bs + v0)), (1, .int v1), (2, zzrf bs v2), (3, .int v3)]) (st' := []) (by cases v2 <;> rfl) rfl ?_
  unfold F_Rp_note at hF
  refine zi_aload_n C d_Rp_note_0 rfl 0 rfl ?_
  refine zi_iload_n C d_Rp_note_1 rfl 1 rfl ?_
  refine zi_putI C zc_6 (k := 9) (by decide) zw_327 rfl (Or.inl rfl) hn_v0 hk_v0 d_Rp_note_2 rfl hF (fun M hF => ?_)
  refine zi_aload_n C d_Rp_note_5 rfl 0 rfl ?_
  refine zi_aload_nO C d_Rp_note_6 rfl 2 rfl ?_
  refine zi_putO C zc_6 (k := 10) (by decide) zw_328 rfl (Or.inl rfl) hn_v0 hk_v0 d_Rp_note_7 (Or.inl ⟨_, rfl⟩) hF (fun M hF => ?_)
  refine zi_aload_n C d_Rp_note_10 rfl 0 rfl ?_
  refine zi_iload_n C d_Rp_note_11 rfl 3 rfl ?_
  refine zi_putI C zc_6 (k := 11) (by decide) zw_329 rfl (Or.inl rfl) hn_v0 hk_v0 d_Rp_note_12 rfl hF (fun M hF => ?_)
  exact zi_vret C hlocks hr d_Rp_note_15 rfl rfl (by cases hF; rfl) rfl
def F_Rp_forget (S : zzS)  (M : zzM) (v0 : Nat) : Option (Unit × zzM) := zzlet (zzsI M v0 1 (0 : Int32)) fun M => zzlet (zzsI M v0 3 (0 : Int32)) fun M => zzlet (zzsI M v0 5 (0 : Int32)) fun M => zzlet (zzsI M v0 6 (0 : Int32)) fun M => zzck (zzokZ (0 : Int32)) (zzlet (zzsI M v0 7 (0 : Int32)) fun M => zzlet (zzsI M v0 8 (0 : Int32)) fun M => zzcall (F_Rp_note S M v0 (0 : Int32) none (0 : Int32)) fun r1 M => some ((), M))
set_option maxHeartbeats 4000000 in
set_option maxRecDepth 100000 in
theorem c_Rp_forget {l : Launch} {D : zzD} {bs : Nat} {A : Nat → Prop} {S : zzS} {M : zzM} {hz : Nat} {out : Unit × zzM} {v0 : Nat}   (hF : F_Rp_forget S  M v0 = some out) (hn_v0 : v0 < S.2.1) (hk_v0 : zzk S v0 = 16) : Met l y_Rp_forget (Cond.code y_Rp_forget prog_7_method_2_code 1 none :: zzW) { frames := 1, cells := 0, slots := 0, locals := 23 } (zzPc D bs A S M hz [.ref (bs + v0)]) (zzQc D bs A S out.2 hz none) 0 0 A := by
  refine zz_met [.ref (bs + v0)] (by decide) (Nat.le_of_ble_eq_true rfl) (fun p e s m args below meth c C hr hlocks hin hsz => ?_)
  refine zz_eq (lv' := [(0, .ref (bs + v0))]) (st' := []) rfl rfl ?_
  unfold F_Rp_forget at hF
  refine zi_aload_n C d_Rp_forget_0 rfl 0 rfl ?_
  refine zi_iconst (v := 0) C d_Rp_forget_1 (by decide) ?_
  refine zi_putI C zc_6 (k := 1) (by decide) zw_330 rfl (Or.inl rfl) hn_v0 hk_v0 d_Rp_forget_2 rfl hF (fun M hF => ?_)
  refine zi_aload_n C d_Rp_forget_5 rfl 0 rfl ?_
  refine zi_iconst (v := 0) C d_Rp_forget_6 (by decide) ?_
  refine zi_putI C zc_6 (k := 3) (by decide) zw_331 rfl (Or.inl rfl) hn_v0 hk_v0 d_Rp_forget_7 rfl hF (fun M hF => ?_)
  refine zi_aload_n C d_Rp_forget_10 rfl 0 rfl ?_
  refine zi_iconst (v := 0) C d_Rp_forget_11 (by decide) ?_
  refine zi_putI C zc_6 (k := 5) (by decide) zw_332 rfl (Or.inl rfl) hn_v0 hk_v0 d_Rp_forget_12 rfl hF (fun M hF => ?_)
  refine zi_aload_n C d_Rp_forget_15 rfl 0 rfl ?_
  refine zi_iconst (v := 0) C d_Rp_forget_16 (by decide) ?_
  refine zi_putI C zc_6 (k := 6) (by decide) zw_256 rfl (Or.inl rfl) hn_v0 hk_v0 d_Rp_forget_17 rfl hF (fun M hF => ?_)
  refine zi_aload_n C d_Rp_forget_20 rfl 0 rfl ?_
  refine zi_iconst (v := 0) C d_Rp_forget_21 (by decide) ?_
  refine zi_putZ C zc_6 (k := 7) (by decide) zw_333 rfl (Or.inl rfl) hn_v0 hk_v0 d_Rp_forget_22 rfl hF (fun M hF => ?_)
  refine zi_aload_n C d_Rp_forget_25 rfl 0 rfl ?_
  refine zi_iconst (v := 0) C d_Rp_forget_26 (by decide) ?_
  refine zi_putI C zc_6 (k := 8) (by decide) zw_334 rfl (Or.inl rfl) hn_v0 hk_v0 d_Rp_forget_27 rfl hF (fun M hF => ?_)
  refine zi_aload_n C d_Rp_forget_30 rfl 0 rfl ?_
  refine zi_iconst (v := 0) C d_Rp_forget_31 (by decide) ?_
  refine zi_null C d_Rp_forget_32 ?_
  refine zi_iconst (v := 0) C d_Rp_forget_33 (by decide) ?_
  obtain ⟨r1, M, hqr1, hF⟩ := zzcall_e hF
  refine zi_callV_v (M2 := M) (n := 3) (As := [.int (0 : Int32), .null, .int (0 : Int32)]) (st := []) C (c_Rp_note hqr1 hn_v0 hk_v0) zw_335 zw_259 (by decide +kernel) ⟨Nat.le_of_ble_eq_true rfl, Nat.le_of_ble_eq_true rfl⟩ rfl (Nat.le_of_ble_eq_true rfl) ⟨Nat.le_of_ble_eq_true rfl, Nat.le_of_ble_eq_true rfl⟩ zw_336 zw_337 zw_338 zc_6.1 hn_v0 hk_v0 rfl d_Rp_forget_34 ?_
  exact zi_vret C hlocks hr d_Rp_forget_37 rfl rfl (by cases hF; rfl) rfl
def F_Bs_clear (S : zzS)  (M : zzM) (v0 : Nat) : Option (Unit × zzM) := zzlet (zzsI M v0 1 (0 : Int32)) fun M => zzlet (zzsI M v0 2 (-1 : Int32)) fun M => zzref S 11 (zzR M v0 3) fun b1 => zzlet (zzsR M v0 4 (some b1)) fun M => zzref S 14 (zzR M v0 5) fun b2 => zzcall (F_Bd_empty S M b2) fun r3 M => zzref S 16 (zzR M v0 7) fun b4 => zzcall (F_Rp_forget S M b4) fun r5 M => some ((), M)
set_option maxHeartbeats 4000000 in
set_option maxRecDepth 100000 in
theorem c_Bs_clear {l : Launch} {D : zzD} {bs : Nat} {A : Nat → Prop} {S : zzS} {M : zzM} {hz : Nat} {out : Unit × zzM} {v0 : Nat}   (hF : F_Bs_clear S  M v0 = some out) (hn_v0 : v0 < S.2.1) (hk_v0 : zzk S v0 = 10) : Met l y_Bs_clear (Cond.code y_Bs_clear prog_1_method_18_code 1 none :: zzW) { frames := 2, cells := 0, slots := 0, locals := 43 } (zzPc D bs A S M hz [.ref (bs + v0)]) (zzQc D bs A S out.2 hz none) 0 0 A := by
  refine zz_met [.ref (bs + v0)] (by decide) (Nat.le_of_ble_eq_true rfl) (fun p e s m args below meth c C hr hlocks hin hsz => ?_)
  refine zz_eq (lv' := [(0, .ref (bs + v0))]) (st' := []) rfl rfl ?_
  unfold F_Bs_clear at hF
  refine zi_aload_n C d_Bs_clear_0 rfl 0 rfl ?_
  refine zi_iconst (v := 0) C d_Bs_clear_1 (by decide) ?_
  refine zi_putI C zc_0 (k := 1) (by decide) zw_246 rfl (Or.inl rfl) hn_v0 hk_v0 d_Bs_clear_2 rfl hF (fun M hF => ?_)
  refine zi_aload_n C d_Bs_clear_5 rfl 0 rfl ?_
  refine zi_iconst (v := -1) C d_Bs_clear_6 (by decide) ?_
  refine zi_putI C zc_0 (k := 2) (by decide) zw_314 rfl (Or.inl rfl) hn_v0 hk_v0 d_Bs_clear_7 rfl hF (fun M hF => ?_)
  refine zi_aload_n C d_Bs_clear_10 rfl 0 rfl ?_
  refine zi_aload_n C d_Bs_clear_11 rfl 0 rfl ?_
  refine zi_getR C zc_0 (k := 3) (by decide) zw_339 rfl hn_v0 hk_v0 d_Bs_clear_12 (fun _ _ _ => rfl) hF (fun b1 hn_b1 hk_b1 hF => ?_)
  refine zi_putR C zc_0 (k := 4) (by decide) zw_340 rfl (Or.inl rfl) hn_v0 hk_v0 d_Bs_clear_15 (Or.inl ⟨_, rfl⟩) hF (fun M hF => ?_)
  refine zi_aload_n C d_Bs_clear_18 rfl 0 rfl ?_
  refine zi_getR C zc_0 (k := 5) (by decide) zw_250 rfl hn_v0 hk_v0 d_Bs_clear_19 (fun _ _ _ => rfl) hF (fun b2 hn_b2 hk_b2 hF => ?_)
  obtain ⟨r3, M, hqr3, hF⟩ := zzcall_e hF
  refine zi_callV_v (M2 := M) (n := 0) (As := []) (st := []) C (c_Bd_empty hqr3 hn_b2 hk_b2) zw_341 zw_252 (by decide +kernel) ⟨Nat.le_of_ble_eq_true rfl, Nat.le_of_ble_eq_true rfl⟩ rfl (Nat.le_of_ble_eq_true rfl) ⟨Nat.le_of_ble_eq_true rfl, Nat.le_of_ble_eq_true rfl⟩ zw_342 zw_343 zw_344 zc_4.1 hn_b2 hk_b2 rfl d_Bs_clear_22 ?_
  refine zi_aload_n C d_Bs_clear_25 rfl 0 rfl ?_
  refine zi_getR C zc_0 (k := 7) (by decide) zw_257 rfl hn_v0 hk_v0 d_Bs_clear_26 (fun _ _ _ => rfl) hF (fun b4 hn_b4 hk_b4 hF => ?_)
  obtain ⟨r5, M, hqr5, hF⟩ := zzcall_e hF
  refine zi_callV_v (M2 := M) (n := 0) (As := []) (st := []) C (c_Rp_forget hqr5 hn_b4 hk_b4) zw_345 zw_259 (by decide +kernel) ⟨Nat.le_of_ble_eq_true rfl, Nat.le_of_ble_eq_true rfl⟩ rfl (Nat.le_of_ble_eq_true rfl) ⟨Nat.le_of_ble_eq_true rfl, Nat.le_of_ble_eq_true rfl⟩ zw_346 zw_347 zw_348 zc_6.1 hn_b4 hk_b4 rfl d_Bs_clear_29 ?_
  exact zi_vret C hlocks hr d_Bs_clear_32 rfl rfl (by cases hF; rfl) rfl
def F_Sc_function (S : zzS)  (M : zzM) (v0 : Nat) (v1 : Int32) : Option (Option Nat × zzM) := if v1 < 0 then (some (none, M)) else (zzref S 4 (zzR M v0 1) fun b1 => zzlet (Int32.ofNat (zzn S b1)) fun x2 => if v1 < x2 then (zzref S 4 (zzR M v0 1) fun b3 => zzix S b3 v1 (zzlet (zzR M b3 (v1).toNatClampNeg) fun r5 => some (r5, M))) else (some (none, M)))
set_option maxHeartbeats 4000000 in
set_option maxRecDepth 100000 in
theorem c_Sc_function {l : Launch} {D : zzD} {bs : Nat} {A : Nat → Prop} {S : zzS} {M : zzM} {hz : Nat} {out : Option Nat × zzM} {v0 : Nat} {v1 : Int32}   (hF : F_Sc_function S  M v0 v1 = some out) (hn_v0 : v0 < S.2.1) (hk_v0 : zzk S v0 = 11) : Met l y_Sc_function (Cond.code y_Sc_function prog_8_method_2_code 2 (some (.object "BoardScript$Statement")) :: zzW) { frames := 0, cells := 0, slots := 0, locals := 0 } (zzPc D bs A S M hz [.ref (bs + v0), .int v1]) (zzQc D bs A S out.2 hz (some (zzrf bs out.1))) 0 0 A := by
  refine zz_met [.ref (bs + v0), .int v1] (by decide) (Nat.le_of_ble_eq_true rfl) (fun p e s m args below meth c C hr hlocks hin hsz => ?_)
  refine zz_eq (lv' := [(0, .ref (bs + v0)), (1, .int v1)]) (st' := []) rfl rfl ?_
  unfold F_Sc_function at hF
  refine zi_iload_n C d_Sc_function_0 rfl 1 rfl ?_
  refine zi_if_lt (tgt := 13) C d_Sc_function_1 (by decide) hF (fun hF => ?_) (fun hF => ?_)
  · refine zi_null C d_Sc_function_13 ?_
    refine zi_goto (tgt := 23) C d_Sc_function_14 (by decide) ?_
    exact zi_aret C hlocks hr (Or.inl ⟨_, rfl⟩) (Or.inl rfl) d_Sc_function_23 (by cases hF; rfl) rfl (by cases hF; rfl) rfl
  · refine zi_iload_n C d_Sc_function_4 rfl 1 rfl ?_
    refine zi_aload_n C d_Sc_function_5 rfl 0 rfl ?_
    refine zi_getR C zc_1 (k := 1) (by decide) zw_349 rfl hn_v0 hk_v0 d_Sc_function_6 (fun _ _ _ => rfl) hF (fun b1 hn_b1 hk_b1 hF => ?_)
    refine zi_alen C hn_b1 hk_b1 (by decide) (by decide) d_Sc_function_9 hF (fun x2 hF => ?_)
    refine zi_icmp_lt (tgt := 17) C d_Sc_function_10 (by decide) hF (fun hF => ?_) (fun hF => ?_)
    · refine zi_aload_n C d_Sc_function_17 rfl 0 rfl ?_
      refine zi_getR C zc_1 (k := 1) (by decide) zw_349 rfl hn_v0 hk_v0 d_Sc_function_18 (fun _ _ _ => rfl) hF (fun b3 hn_b3 hk_b3 hF => ?_)
      refine zi_iload_n C d_Sc_function_21 rfl 1 rfl ?_
      refine zi_aald4Q C hn_b3 hk_b3 d_Sc_function_22 hF (fun r5 hF => ?_)
      exact zi_aret C hlocks hr (Or.inl ⟨_, rfl⟩) (by cases r5; exact Or.inl rfl; exact Or.inr ⟨_, rfl⟩) d_Sc_function_23 (by cases hF; rfl) rfl (by cases hF; rfl) rfl
    · refine zi_null C d_Sc_function_13 ?_
      refine zi_goto (tgt := 23) C d_Sc_function_14 (by decide) ?_
      exact zi_aret C hlocks hr (Or.inl ⟨_, rfl⟩) (Or.inl rfl) d_Sc_function_23 (by cases hF; rfl) rfl (by cases hF; rfl) rfl
def F_Bl_append (S : zzS)  (M : zzM) (v0 : Nat) (v1 : Option Nat) : Option (Unit × zzM) := zzlet (zzR M v0 1) fun r2 => zzopt S 13 r2 (zzlet (zzsR M v0 0 v1) fun M => zzlet (zzsR M v0 1 v1) fun M => some ((), M)) (fun b3 => zzlet (zzR M v0 1) fun r5 => zzopt S 13 r5 (none) (fun b6 => zzlet (zzsR M b6 8 v1) fun M => zzlet (zzsR M v0 1 v1) fun M => some ((), M)))
set_option maxHeartbeats 4000000 in
set_option maxRecDepth 100000 in
theorem c_Bl_append {l : Launch} {D : zzD} {bs : Nat} {A : Nat → Prop} {S : zzS} {M : zzM} {hz : Nat} {out : Unit × zzM} {v0 : Nat} {v1 : Option Nat}   (hF : F_Bl_append S  M v0 v1 = some out) (hn_v0 : v0 < S.2.1) (hk_v0 : zzk S v0 = 12) : Met l y_Bl_append (Cond.code y_Bl_append prog_2_method_2_code 2 none :: zzW) { frames := 0, cells := 0, slots := 0, locals := 0 } (zzPc D bs A S M hz [.ref (bs + v0), zzrf bs v1]) (zzQc D bs A S out.2 hz none) 0 0 A := by
  refine zz_met [.ref (bs + v0), zzrf bs v1] (by decide) (by cases v1 <;> exact Nat.le_of_ble_eq_true rfl) (fun p e s m args below meth c C hr hlocks hin hsz => ?_)
  refine zz_eq (lv' := [(0, .ref (bs + v0)), (1, zzrf bs v1)]) (st' := []) (by cases v1 <;> rfl) rfl ?_
  unfold F_Bl_append at hF
  refine zi_aload_n C d_Bl_append_0 rfl 0 rfl ?_
  refine zi_getQ C zc_2 (k := 1) (by decide) zw_350 rfl hn_v0 hk_v0 d_Bl_append_1 (fun _ _ _ => rfl) hF (fun r2 hF => ?_)
  rcases zzopt_e hF with ⟨hv0, hF⟩ | ⟨b3, hv0, hn_b3, hk_b3, hF⟩
  · refine zz_eq (lv' := [(0, .ref (bs + v0)), (1, zzrf bs v1)]) (st' := [.null]) (by first | rfl | (rw [hv0]; rfl) | (rw [hv0]; done)) (by first | rfl | (rw [hv0]; rfl) | (rw [hv0]; done)) ?_
    refine zi_ifnonnullN C d_Bl_append_4 ?_
    refine zi_aload_n C d_Bl_append_7 rfl 0 rfl ?_
    refine zi_aload_nO C d_Bl_append_8 rfl 1 rfl ?_
    refine zi_putO C zc_2 (k := 0) (by decide) zw_351 rfl (Or.inl rfl) hn_v0 hk_v0 d_Bl_append_9 (Or.inl ⟨_, rfl⟩) hF (fun M hF => ?_)
    refine zi_goto (tgt := 23) C d_Bl_append_12 (by decide) ?_
    refine zi_aload_n C d_Bl_append_23 rfl 0 rfl ?_
    refine zi_aload_nO C d_Bl_append_24 rfl 1 rfl ?_
    refine zi_putO C zc_2 (k := 1) (by decide) zw_350 rfl (Or.inl rfl) hn_v0 hk_v0 d_Bl_append_25 (Or.inl ⟨_, rfl⟩) hF (fun M hF => ?_)
    exact zi_vret C hlocks hr d_Bl_append_28 rfl rfl (by cases hF; rfl) rfl
  · refine zz_eq (lv' := [(0, .ref (bs + v0)), (1, zzrf bs v1)]) (st' := [.ref (bs + b3)]) (by first | rfl | (rw [hv0]; rfl) | (rw [hv0]; done)) (by first | rfl | (rw [hv0]; rfl) | (rw [hv0]; done)) ?_
    refine zi_ifnonnull (tgt := 15) C d_Bl_append_4 (by decide) ?_
    refine zi_aload_n C d_Bl_append_15 rfl 0 rfl ?_
    refine zi_getQ C zc_2 (k := 1) (by decide) zw_350 rfl hn_v0 hk_v0 d_Bl_append_16 (fun _ _ _ => rfl) hF (fun r5 hF => ?_)
    refine zi_aload_nO C d_Bl_append_19 rfl 1 rfl ?_
    rcases zzopt_e hF with ⟨hv0, hF⟩ | ⟨b6, hv0, hn_b6, hk_b6, hF⟩
    · refine zz_eq (lv' := [(0, .ref (bs + v0)), (1, zzrf bs v1)]) (st' := [zzrf bs v1, .null]) (by first | rfl | (rw [hv0]; rfl) | (rw [hv0]; done)) (by first | rfl | (rw [hv0]; rfl) | (rw [hv0]; done)) ?_
      cases hF
    · refine zz_eq (lv' := [(0, .ref (bs + v0)), (1, zzrf bs v1)]) (st' := [zzrf bs v1, .ref (bs + b6)]) (by first | rfl | (rw [hv0]; rfl) | (rw [hv0]; done)) (by first | rfl | (rw [hv0]; rfl) | (rw [hv0]; done)) ?_
      refine zi_putO C zc_3 (k := 8) (by decide) zw_352 rfl (Or.inl rfl) hn_b6 hk_b6 d_Bl_append_20 (Or.inl ⟨_, rfl⟩) hF (fun M hF => ?_)
      refine zi_aload_n C d_Bl_append_23 rfl 0 rfl ?_
      refine zi_aload_nO C d_Bl_append_24 rfl 1 rfl ?_
      refine zi_putO C zc_2 (k := 1) (by decide) zw_350 rfl (Or.inl rfl) hn_v0 hk_v0 d_Bl_append_25 (Or.inl ⟨_, rfl⟩) hF (fun M hF => ?_)
      exact zi_vret C hlocks hr d_Bl_append_28 rfl rfl (by cases hF; rfl) rfl
def F_Bd_keep (S : zzS)  (M : zzM) (v0 : Nat) (v1 : Int32) : Option (Unit × zzM) := if v1 < 0 then (some ((), M)) else (if (6 : Int32) ≤ v1 then (some ((), M)) else (zzref S 1 (zzR M v0 5) fun b1 => zzlet (zzI M v0 1) fun x2 => zzix S b1 v1 (zzlet (zzsI M b1 (v1).toNatClampNeg x2) fun M => zzref S 2 (zzR M v0 0) fun b3 => zzref S 5 (zzR M v0 4) fun b4 => zzix S b4 v1 (zzref S 2 (zzR M b4 (v1).toNatClampNeg) fun b5 => zzref S 2 (zzR M v0 0) fun b6 => zzlet (Int32.ofNat (zzn S b6)) fun x7 => zzck (zzcpok S b3 (0 : Int32) b5 (0 : Int32) x7) (zzlet (zzcpL M b3 ((0 : Int32)).toNatClampNeg b5 ((0 : Int32)).toNatClampNeg (x7).toNatClampNeg) fun M => some ((), M))))))
set_option maxHeartbeats 4000000 in
set_option maxRecDepth 100000 in
theorem c_Bd_keep {l : Launch} {D : zzD} {bs : Nat} {A : Nat → Prop} {S : zzS} {M : zzM} {hz : Nat} {out : Unit × zzM} {v0 : Nat} {v1 : Int32}   (hF : F_Bd_keep S  M v0 v1 = some out) (hn_v0 : v0 < S.2.1) (hk_v0 : zzk S v0 = 14) : Met l y_Bd_keep (Cond.code y_Bd_keep prog_3_method_6_code 2 none :: zzW) { frames := 3, cells := 0, slots := 0, locals := 120 } (zzPc D bs A S M hz [.ref (bs + v0), .int v1]) (zzQc D bs A S out.2 hz none) 0 0 A := by
  refine zz_met [.ref (bs + v0), .int v1] (by decide) (Nat.le_of_ble_eq_true rfl) (fun p e s m args below meth c C hr hlocks hin hsz => ?_)
  refine zz_eq (lv' := [(0, .ref (bs + v0)), (1, .int v1)]) (st' := []) rfl rfl ?_
  unfold F_Bd_keep at hF
  refine zi_iload_n C d_Bd_keep_0 rfl 1 rfl ?_
  refine zi_if_lt (tgt := 40) C d_Bd_keep_1 (by decide) hF (fun hF => ?_) (fun hF => ?_)
  · exact zi_vret C hlocks hr d_Bd_keep_40 rfl rfl (by cases hF; rfl) rfl
  · refine zi_iload_n C d_Bd_keep_4 rfl 1 rfl ?_
    refine zi_bipush (v := 6) C d_Bd_keep_5 (by decide) ?_
    refine zi_icmp_ge (tgt := 40) C d_Bd_keep_7 (by decide) hF (fun hF => ?_) (fun hF => ?_)
    · exact zi_vret C hlocks hr d_Bd_keep_40 rfl rfl (by cases hF; rfl) rfl
    · refine zi_aload_n C d_Bd_keep_10 rfl 0 rfl ?_
      refine zi_getR C zc_4 (k := 5) (by decide) zw_353 rfl hn_v0 hk_v0 d_Bd_keep_11 (fun _ _ _ => rfl) hF (fun b1 hn_b1 hk_b1 hF => ?_)
      refine zi_iload_n C d_Bd_keep_14 rfl 1 rfl ?_
      refine zi_aload_n C d_Bd_keep_15 rfl 0 rfl ?_
      refine zi_getI C zc_4 (k := 1) (by decide) zw_248 rfl hn_v0 hk_v0 d_Bd_keep_16 (fun _ _ _ => rfl) hF (fun x2 hF => ?_)
      refine zi_iast C hn_b1 hk_b1 d_Bd_keep_19 hF (fun M hF => ?_)
      refine zi_aload_n C d_Bd_keep_20 rfl 0 rfl ?_
      refine zi_getR C zc_4 (k := 0) (by decide) zw_249 rfl hn_v0 hk_v0 d_Bd_keep_21 (fun _ _ _ => rfl) hF (fun b3 hn_b3 hk_b3 hF => ?_)
      refine zi_iconst (v := 0) C d_Bd_keep_24 (by decide) ?_
      refine zi_aload_n C d_Bd_keep_25 rfl 0 rfl ?_
      refine zi_getR C zc_4 (k := 4) (by decide) zw_354 rfl hn_v0 hk_v0 d_Bd_keep_26 (fun _ _ _ => rfl) hF (fun b4 hn_b4 hk_b4 hF => ?_)
      refine zi_iload_n C d_Bd_keep_29 rfl 1 rfl ?_
      refine zi_aald5R C hn_b4 hk_b4 d_Bd_keep_30 hF (fun b5 hn_b5 hk_b5 hF => ?_)
      refine zi_iconst (v := 0) C d_Bd_keep_31 (by decide) ?_
      refine zi_aload_n C d_Bd_keep_32 rfl 0 rfl ?_
      refine zi_getR C zc_4 (k := 0) (by decide) zw_249 rfl hn_v0 hk_v0 d_Bd_keep_33 (fun _ _ _ => rfl) hF (fun b6 hn_b6 hk_b6 hF => ?_)
      refine zi_alen C hn_b6 hk_b6 (by decide) (by decide) d_Bd_keep_36 hF (fun x7 hF => ?_)
      refine zi_acopyL C hn_b3 hk_b3 hn_b5 hk_b5 zw_355 zw_356 zw_357 zw_358 (Nat.le_of_ble_eq_true rfl) (Nat.le_of_ble_eq_true rfl) d_Bd_keep_37 hF (fun M hF => ?_)
      exact zi_vret C hlocks hr d_Bd_keep_40 rfl rfl (by cases hF; rfl) rfl
def F_Bd_putBack (S : zzS)  (M : zzM) (v0 : Nat) (v1 : Int32) : Option (Unit × zzM) := if v1 < 0 then (some ((), M)) else (if (6 : Int32) ≤ v1 then (some ((), M)) else (zzref S 1 (zzR M v0 5) fun b1 => zzix S b1 v1 (zzlet (zzI M b1 (v1).toNatClampNeg) fun x2 => zzlet (zzsI M v0 1 x2) fun M => zzref S 5 (zzR M v0 4) fun b3 => zzix S b3 v1 (zzref S 2 (zzR M b3 (v1).toNatClampNeg) fun b4 => zzref S 2 (zzR M v0 0) fun b5 => zzref S 2 (zzR M v0 0) fun b6 => zzlet (Int32.ofNat (zzn S b6)) fun x7 => zzck (zzcpok S b4 (0 : Int32) b5 (0 : Int32) x7) (zzlet (zzcpL M b4 ((0 : Int32)).toNatClampNeg b5 ((0 : Int32)).toNatClampNeg (x7).toNatClampNeg) fun M => some ((), M))))))
set_option maxHeartbeats 4000000 in
set_option maxRecDepth 100000 in
theorem c_Bd_putBack {l : Launch} {D : zzD} {bs : Nat} {A : Nat → Prop} {S : zzS} {M : zzM} {hz : Nat} {out : Unit × zzM} {v0 : Nat} {v1 : Int32}   (hF : F_Bd_putBack S  M v0 v1 = some out) (hn_v0 : v0 < S.2.1) (hk_v0 : zzk S v0 = 14) : Met l y_Bd_putBack (Cond.code y_Bd_putBack prog_3_method_7_code 2 none :: zzW) { frames := 3, cells := 0, slots := 0, locals := 120 } (zzPc D bs A S M hz [.ref (bs + v0), .int v1]) (zzQc D bs A S out.2 hz none) 0 0 A := by
  refine zz_met [.ref (bs + v0), .int v1] (by decide) (Nat.le_of_ble_eq_true rfl) (fun p e s m args below meth c C hr hlocks hin hsz => ?_)
  refine zz_eq (lv' := [(0, .ref (bs + v0)), (1, .int v1)]) (st' := []) rfl rfl ?_
  unfold F_Bd_putBack at hF
  refine zi_iload_n C d_Bd_putBack_0 rfl 1 rfl ?_
  refine zi_if_lt (tgt := 40) C d_Bd_putBack_1 (by decide) hF (fun hF => ?_) (fun hF => ?_)
  · exact zi_vret C hlocks hr d_Bd_putBack_40 rfl rfl (by cases hF; rfl) rfl
  · refine zi_iload_n C d_Bd_putBack_4 rfl 1 rfl ?_
    refine zi_bipush (v := 6) C d_Bd_putBack_5 (by decide) ?_
    refine zi_icmp_ge (tgt := 40) C d_Bd_putBack_7 (by decide) hF (fun hF => ?_) (fun hF => ?_)
    · exact zi_vret C hlocks hr d_Bd_putBack_40 rfl rfl (by cases hF; rfl) rfl
    · refine zi_aload_n C d_Bd_putBack_10 rfl 0 rfl ?_
      refine zi_aload_n C d_Bd_putBack_11 rfl 0 rfl ?_
      refine zi_getR C zc_4 (k := 5) (by decide) zw_353 rfl hn_v0 hk_v0 d_Bd_putBack_12 (fun _ _ _ => rfl) hF (fun b1 hn_b1 hk_b1 hF => ?_)
      refine zi_iload_n C d_Bd_putBack_15 rfl 1 rfl ?_
      refine zi_iald C hn_b1 hk_b1 d_Bd_putBack_16 hF (fun x2 hF => ?_)
      refine zi_putI C zc_4 (k := 1) (by decide) zw_248 rfl (Or.inl rfl) hn_v0 hk_v0 d_Bd_putBack_17 rfl hF (fun M hF => ?_)
      refine zi_aload_n C d_Bd_putBack_20 rfl 0 rfl ?_
      refine zi_getR C zc_4 (k := 4) (by decide) zw_354 rfl hn_v0 hk_v0 d_Bd_putBack_21 (fun _ _ _ => rfl) hF (fun b3 hn_b3 hk_b3 hF => ?_)
      refine zi_iload_n C d_Bd_putBack_24 rfl 1 rfl ?_
      refine zi_aald5R C hn_b3 hk_b3 d_Bd_putBack_25 hF (fun b4 hn_b4 hk_b4 hF => ?_)
      refine zi_iconst (v := 0) C d_Bd_putBack_26 (by decide) ?_
      refine zi_aload_n C d_Bd_putBack_27 rfl 0 rfl ?_
      refine zi_getR C zc_4 (k := 0) (by decide) zw_249 rfl hn_v0 hk_v0 d_Bd_putBack_28 (fun _ _ _ => rfl) hF (fun b5 hn_b5 hk_b5 hF => ?_)
      refine zi_iconst (v := 0) C d_Bd_putBack_31 (by decide) ?_
      refine zi_aload_n C d_Bd_putBack_32 rfl 0 rfl ?_
      refine zi_getR C zc_4 (k := 0) (by decide) zw_249 rfl hn_v0 hk_v0 d_Bd_putBack_33 (fun _ _ _ => rfl) hF (fun b6 hn_b6 hk_b6 hF => ?_)
      refine zi_alen C hn_b6 hk_b6 (by decide) (by decide) d_Bd_putBack_36 hF (fun x7 hF => ?_)
      refine zi_acopyL C hn_b4 hk_b4 hn_b5 hk_b5 zw_355 zw_356 zw_357 zw_358 (Nat.le_of_ble_eq_true rfl) (Nat.le_of_ble_eq_true rfl) d_Bd_putBack_37 hF (fun M hF => ?_)
      exact zi_vret C hlocks hr d_Bd_putBack_40 rfl rfl (by cases hF; rfl) rfl
def F_Rp_addOutput (S : zzS)  (M : zzM) (v0 : Nat) (v1 : Int32) : Option (Unit × zzM) := zzlet (zzI M v0 1) fun x1 => if (40 : Int32) ≤ x1 then (some ((), M)) else (zzref S 1 (zzR M v0 0) fun b2 => zzlet (zzI M v0 1) fun x3 => zzix S b2 x3 (zzlet (zzsI M b2 (x3).toNatClampNeg v1) fun M => zzlet (zzI M v0 1) fun x4 => zzlet (x4 + (1 : Int32)) fun x5 => zzlet (zzsI M v0 1 x5) fun M => some ((), M)))
set_option maxHeartbeats 4000000 in
set_option maxRecDepth 100000 in
theorem c_Rp_addOutput {l : Launch} {D : zzD} {bs : Nat} {A : Nat → Prop} {S : zzS} {M : zzM} {hz : Nat} {out : Unit × zzM} {v0 : Nat} {v1 : Int32}   (hF : F_Rp_addOutput S  M v0 v1 = some out) (hn_v0 : v0 < S.2.1) (hk_v0 : zzk S v0 = 16) : Met l y_Rp_addOutput (Cond.code y_Rp_addOutput prog_7_method_4_code 2 none :: zzW) { frames := 0, cells := 0, slots := 0, locals := 0 } (zzPc D bs A S M hz [.ref (bs + v0), .int v1]) (zzQc D bs A S out.2 hz none) 0 0 A := by
  refine zz_met [.ref (bs + v0), .int v1] (by decide) (Nat.le_of_ble_eq_true rfl) (fun p e s m args below meth c C hr hlocks hin hsz => ?_)
  refine zz_eq (lv' := [(0, .ref (bs + v0)), (1, .int v1)]) (st' := []) rfl rfl ?_
  unfold F_Rp_addOutput at hF
  refine zi_aload_n C d_Rp_addOutput_0 rfl 0 rfl ?_
  refine zi_getI C zc_6 (k := 1) (by decide) zw_330 rfl hn_v0 hk_v0 d_Rp_addOutput_1 (fun _ _ _ => rfl) hF (fun x1 hF => ?_)
  refine zi_bipush (v := 40) C d_Rp_addOutput_4 (by decide) ?_
  refine zi_icmp_ge (tgt := 29) C d_Rp_addOutput_6 (by decide) hF (fun hF => ?_) (fun hF => ?_)
  · exact zi_vret C hlocks hr d_Rp_addOutput_29 rfl rfl (by cases hF; rfl) rfl
  · refine zi_aload_n C d_Rp_addOutput_9 rfl 0 rfl ?_
    refine zi_getR C zc_6 (k := 0) (by decide) zw_359 rfl hn_v0 hk_v0 d_Rp_addOutput_10 (fun _ _ _ => rfl) hF (fun b2 hn_b2 hk_b2 hF => ?_)
    refine zi_aload_n C d_Rp_addOutput_13 rfl 0 rfl ?_
    refine zi_getI C zc_6 (k := 1) (by decide) zw_330 rfl hn_v0 hk_v0 d_Rp_addOutput_14 (fun _ _ _ => rfl) hF (fun x3 hF => ?_)
    refine zi_iload_n C d_Rp_addOutput_17 rfl 1 rfl ?_
    refine zi_iast C hn_b2 hk_b2 d_Rp_addOutput_18 hF (fun M hF => ?_)
    refine zi_aload_n C d_Rp_addOutput_19 rfl 0 rfl ?_
    refine zi_dup C d_Rp_addOutput_20 rfl ?_
    refine zi_getI C zc_6 (k := 1) (by decide) zw_330 rfl hn_v0 hk_v0 d_Rp_addOutput_21 (fun _ _ _ => rfl) hF (fun x4 hF => ?_)
    refine zi_iconst (v := 1) C d_Rp_addOutput_24 (by decide) ?_
    refine zi_iadd C d_Rp_addOutput_25 hF (fun x5 hF => ?_)
    refine zi_putI C zc_6 (k := 1) (by decide) zw_330 rfl (Or.inl rfl) hn_v0 hk_v0 d_Rp_addOutput_26 rfl hF (fun M hF => ?_)
    exact zi_vret C hlocks hr d_Rp_addOutput_29 rfl rfl (by cases hF; rfl) rfl
def F_Rp_addRule (S : zzS)  (M : zzM) (v0 : Nat) (v1 : Option Nat) : Option (Unit × zzM) := zzlet (zzI M v0 3) fun x1 => if (8 : Int32) ≤ x1 then (some ((), M)) else (zzref S 4 (zzR M v0 2) fun b2 => zzlet (zzI M v0 3) fun x3 => zzopt S 13 v1 (none) (fun b4 => zzix S b2 x3 (zzlet (zzsR M b2 (x3).toNatClampNeg (some b4)) fun M => zzlet (zzI M v0 3) fun x5 => zzlet (x5 + (1 : Int32)) fun x6 => zzlet (zzsI M v0 3 x6) fun M => some ((), M))))
set_option maxHeartbeats 4000000 in
set_option maxRecDepth 100000 in
theorem c_Rp_addRule {l : Launch} {D : zzD} {bs : Nat} {A : Nat → Prop} {S : zzS} {M : zzM} {hz : Nat} {out : Unit × zzM} {v0 : Nat} {v1 : Option Nat}   (hF : F_Rp_addRule S  M v0 v1 = some out) (hn_v0 : v0 < S.2.1) (hk_v0 : zzk S v0 = 16) : Met l y_Rp_addRule (Cond.code y_Rp_addRule prog_7_method_5_code 2 none :: zzW) { frames := 0, cells := 0, slots := 0, locals := 0 } (zzPc D bs A S M hz [.ref (bs + v0), zzrf bs v1]) (zzQc D bs A S out.2 hz none) 0 0 A := by
  refine zz_met [.ref (bs + v0), zzrf bs v1] (by decide) (by cases v1 <;> exact Nat.le_of_ble_eq_true rfl) (fun p e s m args below meth c C hr hlocks hin hsz => ?_)
  refine zz_eq (lv' := [(0, .ref (bs + v0)), (1, zzrf bs v1)]) (st' := []) (by cases v1 <;> rfl) rfl ?_
  unfold F_Rp_addRule at hF
  refine zi_aload_n C d_Rp_addRule_0 rfl 0 rfl ?_
  refine zi_getI C zc_6 (k := 3) (by decide) zw_331 rfl hn_v0 hk_v0 d_Rp_addRule_1 (fun _ _ _ => rfl) hF (fun x1 hF => ?_)
  refine zi_bipush (v := 8) C d_Rp_addRule_4 (by decide) ?_
  refine zi_icmp_ge (tgt := 29) C d_Rp_addRule_6 (by decide) hF (fun hF => ?_) (fun hF => ?_)
  · exact zi_vret C hlocks hr d_Rp_addRule_29 rfl rfl (by cases hF; rfl) rfl
  · refine zi_aload_n C d_Rp_addRule_9 rfl 0 rfl ?_
    refine zi_getR C zc_6 (k := 2) (by decide) zw_360 rfl hn_v0 hk_v0 d_Rp_addRule_10 (fun _ _ _ => rfl) hF (fun b2 hn_b2 hk_b2 hF => ?_)
    refine zi_aload_n C d_Rp_addRule_13 rfl 0 rfl ?_
    refine zi_getI C zc_6 (k := 3) (by decide) zw_331 rfl hn_v0 hk_v0 d_Rp_addRule_14 (fun _ _ _ => rfl) hF (fun x3 hF => ?_)
    refine zi_aload_nO C d_Rp_addRule_17 rfl 1 rfl ?_
    rcases zzopt_e hF with ⟨hv0, hF⟩ | ⟨b4, hv0, hn_b4, hk_b4, hF⟩
    · refine zz_eq (lv' := [(0, .ref (bs + v0)), (1, .null)]) (st' := [.null, .int x3, .ref (bs + b2)]) (by first | rfl | (rw [hv0]; rfl) | (rw [hv0]; done)) (by first | rfl | (rw [hv0]; rfl) | (rw [hv0]; done)) ?_
      cases hF
    · refine zz_eq (lv' := [(0, .ref (bs + v0)), (1, .ref (bs + b4))]) (st' := [.ref (bs + b4), .int x3, .ref (bs + b2)]) (by first | rfl | (rw [hv0]; rfl) | (rw [hv0]; done)) (by first | rfl | (rw [hv0]; rfl) | (rw [hv0]; done)) ?_
      refine zi_aast C hn_b2 hk_b2 zc_3.1 hn_b4 hk_b4 d_Rp_addRule_18 hF (fun M hF => ?_)
      refine zi_aload_n C d_Rp_addRule_19 rfl 0 rfl ?_
      refine zi_dup C d_Rp_addRule_20 rfl ?_
      refine zi_getI C zc_6 (k := 3) (by decide) zw_331 rfl hn_v0 hk_v0 d_Rp_addRule_21 (fun _ _ _ => rfl) hF (fun x5 hF => ?_)
      refine zi_iconst (v := 1) C d_Rp_addRule_24 (by decide) ?_
      refine zi_iadd C d_Rp_addRule_25 hF (fun x6 hF => ?_)
      refine zi_putI C zc_6 (k := 3) (by decide) zw_331 rfl (Or.inl rfl) hn_v0 hk_v0 d_Rp_addRule_26 rfl hF (fun M hF => ?_)
      exact zi_vret C hlocks hr d_Rp_addRule_29 rfl rfl (by cases hF; rfl) rfl
def F_Rp_addClosing (S : zzS)  (M : zzM) (v0 : Nat) (v1 : Int32) : Option (Unit × zzM) := zzlet (zzI M v0 5) fun x1 => if (20 : Int32) ≤ x1 then (some ((), M)) else (zzref S 1 (zzR M v0 4) fun b2 => zzlet (zzI M v0 5) fun x3 => zzix S b2 x3 (zzlet (zzsI M b2 (x3).toNatClampNeg v1) fun M => zzlet (zzI M v0 5) fun x4 => zzlet (x4 + (1 : Int32)) fun x5 => zzlet (zzsI M v0 5 x5) fun M => some ((), M)))
set_option maxHeartbeats 4000000 in
set_option maxRecDepth 100000 in
theorem c_Rp_addClosing {l : Launch} {D : zzD} {bs : Nat} {A : Nat → Prop} {S : zzS} {M : zzM} {hz : Nat} {out : Unit × zzM} {v0 : Nat} {v1 : Int32}   (hF : F_Rp_addClosing S  M v0 v1 = some out) (hn_v0 : v0 < S.2.1) (hk_v0 : zzk S v0 = 16) : Met l y_Rp_addClosing (Cond.code y_Rp_addClosing prog_7_method_6_code 2 none :: zzW) { frames := 0, cells := 0, slots := 0, locals := 0 } (zzPc D bs A S M hz [.ref (bs + v0), .int v1]) (zzQc D bs A S out.2 hz none) 0 0 A := by
  refine zz_met [.ref (bs + v0), .int v1] (by decide) (Nat.le_of_ble_eq_true rfl) (fun p e s m args below meth c C hr hlocks hin hsz => ?_)
  refine zz_eq (lv' := [(0, .ref (bs + v0)), (1, .int v1)]) (st' := []) rfl rfl ?_
  unfold F_Rp_addClosing at hF
  refine zi_aload_n C d_Rp_addClosing_0 rfl 0 rfl ?_
  refine zi_getI C zc_6 (k := 5) (by decide) zw_332 rfl hn_v0 hk_v0 d_Rp_addClosing_1 (fun _ _ _ => rfl) hF (fun x1 hF => ?_)
  refine zi_bipush (v := 20) C d_Rp_addClosing_4 (by decide) ?_
  refine zi_icmp_ge (tgt := 29) C d_Rp_addClosing_6 (by decide) hF (fun hF => ?_) (fun hF => ?_)
  · exact zi_vret C hlocks hr d_Rp_addClosing_29 rfl rfl (by cases hF; rfl) rfl
  · refine zi_aload_n C d_Rp_addClosing_9 rfl 0 rfl ?_
    refine zi_getR C zc_6 (k := 4) (by decide) zw_361 rfl hn_v0 hk_v0 d_Rp_addClosing_10 (fun _ _ _ => rfl) hF (fun b2 hn_b2 hk_b2 hF => ?_)
    refine zi_aload_n C d_Rp_addClosing_13 rfl 0 rfl ?_
    refine zi_getI C zc_6 (k := 5) (by decide) zw_332 rfl hn_v0 hk_v0 d_Rp_addClosing_14 (fun _ _ _ => rfl) hF (fun x3 hF => ?_)
    refine zi_iload_n C d_Rp_addClosing_17 rfl 1 rfl ?_
    refine zi_iast C hn_b2 hk_b2 d_Rp_addClosing_18 hF (fun M hF => ?_)
    refine zi_aload_n C d_Rp_addClosing_19 rfl 0 rfl ?_
    refine zi_dup C d_Rp_addClosing_20 rfl ?_
    refine zi_getI C zc_6 (k := 5) (by decide) zw_332 rfl hn_v0 hk_v0 d_Rp_addClosing_21 (fun _ _ _ => rfl) hF (fun x4 hF => ?_)
    refine zi_iconst (v := 1) C d_Rp_addClosing_24 (by decide) ?_
    refine zi_iadd C d_Rp_addClosing_25 hF (fun x5 hF => ?_)
    refine zi_putI C zc_6 (k := 5) (by decide) zw_332 rfl (Or.inl rfl) hn_v0 hk_v0 d_Rp_addClosing_26 rfl hF (fun M hF => ?_)
    exact zi_vret C hlocks hr d_Rp_addClosing_29 rfl rfl (by cases hF; rfl) rfl
def F_Rd_peek (S : zzS)  (M : zzM) (v0 : Nat) : Option (Int32 × zzM) := zzlet (zzI M v0 2) fun x1 => zzlet (zzI M v0 1) fun x2 => if x2 ≤ x1 then (some ((0 : Int32), M)) else (zzref S 3 (zzR M v0 0) fun b3 => zzlet (zzI M v0 2) fun x4 => zzix S b3 x4 (zzlet (zzI M b3 (x4).toNatClampNeg) fun x5 => zzck (zzokC x5) (some (x5, M))))
set_option maxHeartbeats 4000000 in
set_option maxRecDepth 100000 in
theorem c_Rd_peek {l : Launch} {D : zzD} {bs : Nat} {A : Nat → Prop} {S : zzS} {M : zzM} {hz : Nat} {out : Int32 × zzM} {v0 : Nat}   (hF : F_Rd_peek S  M v0 = some out) (hn_v0 : v0 < S.2.1) (hk_v0 : zzk S v0 = 17) : Met l y_Rd_peek (Cond.code y_Rd_peek prog_5_method_3_code 1 (some .char) :: zzW) { frames := 0, cells := 0, slots := 0, locals := 0 } (zzPc D bs A S M hz [.ref (bs + v0)]) (zzQc D bs A S out.2 hz (some (.int out.1))) 0 0 A := by
  refine zz_met [.ref (bs + v0)] (by decide) (Nat.le_of_ble_eq_true rfl) (fun p e s m args below meth c C hr hlocks hin hsz => ?_)
  refine zz_eq (lv' := [(0, .ref (bs + v0))]) (st' := []) rfl rfl ?_
  unfold F_Rd_peek at hF
  refine zi_aload_n C d_Rd_peek_0 rfl 0 rfl ?_
  refine zi_getI C zc_7 (k := 2) (by decide) zw_362 rfl hn_v0 hk_v0 d_Rd_peek_1 (fun _ _ _ => rfl) hF (fun x1 hF => ?_)
  refine zi_aload_n C d_Rd_peek_4 rfl 0 rfl ?_
  refine zi_getI C zc_7 (k := 1) (by decide) zw_363 rfl hn_v0 hk_v0 d_Rd_peek_5 (fun _ _ _ => rfl) hF (fun x2 hF => ?_)
  refine zi_icmp_ge (tgt := 23) C d_Rd_peek_8 (by decide) hF (fun hF => ?_) (fun hF => ?_)
  · refine zi_iconst (v := 0) C d_Rd_peek_23 (by decide) ?_
    exact zi_zret C hlocks hr (by decide +kernel) d_Rd_peek_24 (by cases hF; rfl) rfl (by cases hF; rfl) rfl
  · refine zi_aload_n C d_Rd_peek_11 rfl 0 rfl ?_
    refine zi_getR C zc_7 (k := 0) (by decide) zw_364 rfl hn_v0 hk_v0 d_Rd_peek_12 (fun _ _ _ => rfl) hF (fun b3 hn_b3 hk_b3 hF => ?_)
    refine zi_aload_n C d_Rd_peek_15 rfl 0 rfl ?_
    refine zi_getI C zc_7 (k := 2) (by decide) zw_362 rfl hn_v0 hk_v0 d_Rd_peek_16 (fun _ _ _ => rfl) hF (fun x4 hF => ?_)
    refine zi_cald C hn_b3 hk_b3 d_Rd_peek_19 hF (fun x5 hF => ?_)
    refine zi_goto (tgt := 24) C d_Rd_peek_20 (by decide) ?_
    obtain ⟨hok, hF⟩ := zzck_e hF
    exact zi_zret C hlocks hr (zzokC_n hok).1 d_Rd_peek_24 (by cases hF; rfl) rfl (by cases hF; rfl) rfl
def F_Rd_take (S : zzS)  (M : zzM) (v0 : Nat) (v1 : Int32) : Option (Int32 × zzM) := zzlet (zzI M v0 2) fun x1 => zzlet (zzI M v0 1) fun x2 => if x2 ≤ x1 then (some ((0 : Int32), M)) else (zzref S 3 (zzR M v0 0) fun b3 => zzlet (zzI M v0 2) fun x4 => zzix S b3 x4 (zzlet (zzI M b3 (x4).toNatClampNeg) fun x5 => if x5 = v1 then (zzlet (zzI M v0 2) fun x6 => zzlet (x6 + (1 : Int32)) fun x7 => zzlet (zzsI M v0 2 x7) fun M => some ((1 : Int32), M)) else (some ((0 : Int32), M))))
set_option maxHeartbeats 4000000 in
set_option maxRecDepth 100000 in
theorem c_Rd_take {l : Launch} {D : zzD} {bs : Nat} {A : Nat → Prop} {S : zzS} {M : zzM} {hz : Nat} {out : Int32 × zzM} {v0 : Nat} {v1 : Int32}   (hF : F_Rd_take S  M v0 v1 = some out) (hn_v0 : v0 < S.2.1) (hk_v0 : zzk S v0 = 17) : Met l y_Rd_take (Cond.code y_Rd_take prog_5_method_4_code 2 (some .boolean) :: zzW) { frames := 0, cells := 0, slots := 0, locals := 0 } (zzPc D bs A S M hz [.ref (bs + v0), .int v1]) (zzQc D bs A S out.2 hz (some (.int out.1))) 0 0 A := by
  refine zz_met [.ref (bs + v0), .int v1] (by decide) (Nat.le_of_ble_eq_true rfl) (fun p e s m args below meth c C hr hlocks hin hsz => ?_)
  refine zz_eq (lv' := [(0, .ref (bs + v0)), (1, .int v1)]) (st' := []) rfl rfl ?_
  unfold F_Rd_take at hF
  refine zi_aload_n C d_Rd_take_0 rfl 0 rfl ?_
  refine zi_getI C zc_7 (k := 2) (by decide) zw_362 rfl hn_v0 hk_v0 d_Rd_take_1 (fun _ _ _ => rfl) hF (fun x1 hF => ?_)
  refine zi_aload_n C d_Rd_take_4 rfl 0 rfl ?_
  refine zi_getI C zc_7 (k := 1) (by decide) zw_363 rfl hn_v0 hk_v0 d_Rd_take_5 (fun _ _ _ => rfl) hF (fun x2 hF => ?_)
  refine zi_icmp_ge (tgt := 24) C d_Rd_take_8 (by decide) hF (fun hF => ?_) (fun hF => ?_)
  · refine zi_iconst (v := 0) C d_Rd_take_24 (by decide) ?_
    exact zi_zret C hlocks hr (by decide +kernel) d_Rd_take_25 (by cases hF; rfl) rfl (by cases hF; rfl) rfl
  · refine zi_aload_n C d_Rd_take_11 rfl 0 rfl ?_
    refine zi_getR C zc_7 (k := 0) (by decide) zw_364 rfl hn_v0 hk_v0 d_Rd_take_12 (fun _ _ _ => rfl) hF (fun b3 hn_b3 hk_b3 hF => ?_)
    refine zi_aload_n C d_Rd_take_15 rfl 0 rfl ?_
    refine zi_getI C zc_7 (k := 2) (by decide) zw_362 rfl hn_v0 hk_v0 d_Rd_take_16 (fun _ _ _ => rfl) hF (fun x4 hF => ?_)
    refine zi_cald C hn_b3 hk_b3 d_Rd_take_19 hF (fun x5 hF => ?_)
    refine zi_iload_n C d_Rd_take_20 rfl 1 rfl ?_
    refine zi_icmp_eq (tgt := 26) C d_Rd_take_21 (by decide) hF (fun hF => ?_) (fun hF => ?_)
    · refine zi_aload_n C d_Rd_take_26 rfl 0 rfl ?_
      refine zi_dup C d_Rd_take_27 rfl ?_
      refine zi_getI C zc_7 (k := 2) (by decide) zw_362 rfl hn_v0 hk_v0 d_Rd_take_28 (fun _ _ _ => rfl) hF (fun x6 hF => ?_)
      refine zi_iconst (v := 1) C d_Rd_take_31 (by decide) ?_
      refine zi_iadd C d_Rd_take_32 hF (fun x7 hF => ?_)
      refine zi_putI C zc_7 (k := 2) (by decide) zw_362 rfl (Or.inl rfl) hn_v0 hk_v0 d_Rd_take_33 rfl hF (fun M hF => ?_)
      refine zi_iconst (v := 1) C d_Rd_take_36 (by decide) ?_
      exact zi_zret C hlocks hr (by decide +kernel) d_Rd_take_37 (by cases hF; rfl) rfl (by cases hF; rfl) rfl
    · refine zi_iconst (v := 0) C d_Rd_take_24 (by decide) ?_
      exact zi_zret C hlocks hr (by decide +kernel) d_Rd_take_25 (by cases hF; rfl) rfl (by cases hF; rfl) rfl
def F_Rd_skipLineFeeds_0_b (S : zzS)  (k0 : zzM → Nat → Option (Unit × zzM)) (M : zzM) (v0 : Nat) : Option (Unit × zzM) := zzlet (zzI M v0 2) fun x1 => zzlet (zzI M v0 1) fun x2 => if x2 ≤ x1 then (some ((), M)) else (zzref S 3 (zzR M v0 0) fun b3 => zzlet (zzI M v0 2) fun x4 => zzix S b3 x4 (zzlet (zzI M b3 (x4).toNatClampNeg) fun x5 => if x5 = (10 : Int32) then (zzlet (zzI M v0 2) fun x6 => zzlet (x6 + (1 : Int32)) fun x7 => zzlet (zzsI M v0 2 x7) fun M => zzlet (zzI M v0 3) fun x8 => zzlet (x8 + (1 : Int32)) fun x9 => zzlet (zzsI M v0 3 x9) fun M => k0 M v0) else (some ((), M))))
def F_Rd_skipLineFeeds_0 (S : zzS)   (n : Nat) : zzM → Nat → Option (Unit × zzM) := Nat.rec (fun _ _ => none) (fun _ k => F_Rd_skipLineFeeds_0_b S   k) n
set_option maxHeartbeats 4000000 in
set_option maxRecDepth 100000 in
theorem g_Rd_skipLineFeeds_0_b {p : Program} {l : Launch} {e : Env} {s : State} {m : MethodId} {args : Array Value} {below : List Frame} {meth : Method} {c : Code} {D : zzD} {bs : Nat} {A : Nat → Prop} {S : zzS} {hz : Nat} {out : Unit × zzM}  (C : zzC p s m args c prog_5_method_5_code "BoardScript$Reader" 1 D) (hlocks : meth.locks = false) (hr : meth.sig.returnType = none) (hin : meth.name = "skipLineFeeds")  {k0 : zzM → Nat → Option (Unit × zzM)} (hk0 : ∀ (M : zzM) (v0 : Nat) (hn_v0 : v0 < S.2.1) (hk_v0 : zzk S v0 = 17), k0 M v0 = some out → zzB p l e { frames := 0, cells := 0, slots := 0, locals := 0 } s m args below meth c 1 D bs A (MQ below (zzQc D bs A S out.2 hz none) args s 0 0 A) 0 0 S M hz 0 [(0, .ref (bs + v0))] []) (M : zzM) (v0 : Nat) (hn_v0 : v0 < S.2.1) (hk_v0 : zzk S v0 = 17) (hF : F_Rd_skipLineFeeds_0_b S  k0 M v0 = some out) : zzB p l e { frames := 0, cells := 0, slots := 0, locals := 0 } s m args below meth c 1 D bs A (MQ below (zzQc D bs A S out.2 hz none) args s 0 0 A) 0 0 S M hz 0 [(0, .ref (bs + v0))] [] := by
  unfold F_Rd_skipLineFeeds_0_b at hF
  refine zi_aload_n C d_Rd_skipLineFeeds_0 rfl 0 rfl ?_
  refine zi_getI C zc_7 (k := 2) (by decide) zw_362 rfl hn_v0 hk_v0 d_Rd_skipLineFeeds_1 (fun _ _ _ => rfl) hF (fun x1 hF => ?_)
  refine zi_aload_n C d_Rd_skipLineFeeds_4 rfl 0 rfl ?_
  refine zi_getI C zc_7 (k := 1) (by decide) zw_363 rfl hn_v0 hk_v0 d_Rd_skipLineFeeds_5 (fun _ _ _ => rfl) hF (fun x2 hF => ?_)
  refine zi_icmp_ge (tgt := 48) C d_Rd_skipLineFeeds_8 (by decide) hF (fun hF => ?_) (fun hF => ?_)
  · exact zi_vret C hlocks hr d_Rd_skipLineFeeds_48 rfl rfl (by cases hF; rfl) rfl
  · refine zi_aload_n C d_Rd_skipLineFeeds_11 rfl 0 rfl ?_
    refine zi_getR C zc_7 (k := 0) (by decide) zw_364 rfl hn_v0 hk_v0 d_Rd_skipLineFeeds_12 (fun _ _ _ => rfl) hF (fun b3 hn_b3 hk_b3 hF => ?_)
    refine zi_aload_n C d_Rd_skipLineFeeds_15 rfl 0 rfl ?_
    refine zi_getI C zc_7 (k := 2) (by decide) zw_362 rfl hn_v0 hk_v0 d_Rd_skipLineFeeds_16 (fun _ _ _ => rfl) hF (fun x4 hF => ?_)
    refine zi_cald C hn_b3 hk_b3 d_Rd_skipLineFeeds_19 hF (fun x5 hF => ?_)
    refine zi_bipush (v := 10) C d_Rd_skipLineFeeds_20 (by decide) ?_
    refine zi_icmp_ne (tgt := 48) C d_Rd_skipLineFeeds_22 (by decide) hF (fun hF => ?_) (fun hF => ?_)
    · exact zi_vret C hlocks hr d_Rd_skipLineFeeds_48 rfl rfl (by cases hF; rfl) rfl
    · refine zi_aload_n C d_Rd_skipLineFeeds_25 rfl 0 rfl ?_
      refine zi_dup C d_Rd_skipLineFeeds_26 rfl ?_
      refine zi_getI C zc_7 (k := 2) (by decide) zw_362 rfl hn_v0 hk_v0 d_Rd_skipLineFeeds_27 (fun _ _ _ => rfl) hF (fun x6 hF => ?_)
      refine zi_iconst (v := 1) C d_Rd_skipLineFeeds_30 (by decide) ?_
      refine zi_iadd C d_Rd_skipLineFeeds_31 hF (fun x7 hF => ?_)
      refine zi_putI C zc_7 (k := 2) (by decide) zw_362 rfl (Or.inl rfl) hn_v0 hk_v0 d_Rd_skipLineFeeds_32 rfl hF (fun M hF => ?_)
      refine zi_aload_n C d_Rd_skipLineFeeds_35 rfl 0 rfl ?_
      refine zi_dup C d_Rd_skipLineFeeds_36 rfl ?_
      refine zi_getI C zc_7 (k := 3) (by decide) zw_365 rfl hn_v0 hk_v0 d_Rd_skipLineFeeds_37 (fun _ _ _ => rfl) hF (fun x8 hF => ?_)
      refine zi_iconst (v := 1) C d_Rd_skipLineFeeds_40 (by decide) ?_
      refine zi_iadd C d_Rd_skipLineFeeds_41 hF (fun x9 hF => ?_)
      refine zi_putI C zc_7 (k := 3) (by decide) zw_365 rfl (Or.inl rfl) hn_v0 hk_v0 d_Rd_skipLineFeeds_42 rfl hF (fun M hF => ?_)
      refine zi_goto (tgt := 0) C d_Rd_skipLineFeeds_45 (by decide) ?_
      refine zz_sub [0] (lv' := [(0, .ref (bs + v0))]) rfl ?_
      exact hk0 _ v0 hn_v0 hk_v0 hF
set_option maxHeartbeats 4000000 in
set_option maxRecDepth 100000 in
theorem g_Rd_skipLineFeeds_0 {p : Program} {l : Launch} {e : Env} {s : State} {m : MethodId} {args : Array Value} {below : List Frame} {meth : Method} {c : Code} {D : zzD} {bs : Nat} {A : Nat → Prop} {S : zzS} {hz : Nat} {out : Unit × zzM}  (C : zzC p s m args c prog_5_method_5_code "BoardScript$Reader" 1 D) (hlocks : meth.locks = false) (hr : meth.sig.returnType = none) (hin : meth.name = "skipLineFeeds")    : ∀ (n : Nat) (M : zzM) (v0 : Nat) (hn_v0 : v0 < S.2.1) (hk_v0 : zzk S v0 = 17) (hF : F_Rd_skipLineFeeds_0 S   n M v0 = some out), zzB p l e { frames := 0, cells := 0, slots := 0, locals := 0 } s m args below meth c 1 D bs A (MQ below (zzQc D bs A S out.2 hz none) args s 0 0 A) 0 0 S M hz 0 [(0, .ref (bs + v0))] [] := by
  intro n
  induction n with
  | zero => intro M v0 hn_v0 hk_v0 hF; cases hF
  | succ n ih => intro M v0 hn_v0 hk_v0 hF; exact g_Rd_skipLineFeeds_0_b C hlocks hr hin   ih M v0 hn_v0 hk_v0 hF
def F_Rd_skipLineFeeds (S : zzS)  (M : zzM) (v0 : Nat) : Option (Unit × zzM) := F_Rd_skipLineFeeds_0 S   2000 M v0
set_option maxHeartbeats 4000000 in
set_option maxRecDepth 100000 in
theorem c_Rd_skipLineFeeds {l : Launch} {D : zzD} {bs : Nat} {A : Nat → Prop} {S : zzS} {M : zzM} {hz : Nat} {out : Unit × zzM} {v0 : Nat}   (hF : F_Rd_skipLineFeeds S  M v0 = some out) (hn_v0 : v0 < S.2.1) (hk_v0 : zzk S v0 = 17) : Met l y_Rd_skipLineFeeds (Cond.code y_Rd_skipLineFeeds prog_5_method_5_code 1 none :: zzW) { frames := 0, cells := 0, slots := 0, locals := 0 } (zzPc D bs A S M hz [.ref (bs + v0)]) (zzQc D bs A S out.2 hz none) 0 0 A := by
  refine zz_met [.ref (bs + v0)] (by decide) (Nat.le_of_ble_eq_true rfl) (fun p e s m args below meth c C hr hlocks hin hsz => ?_)
  refine zz_eq (lv' := [(0, .ref (bs + v0))]) (st' := []) rfl rfl ?_
  unfold F_Rd_skipLineFeeds at hF
  refine zz_sub [0] (lv' := [(0, .ref (bs + v0))]) rfl ?_
  exact g_Rd_skipLineFeeds_0 C hlocks hr hin   _ _ v0 hn_v0 hk_v0 hF
def F_Rd_isFunction (S : zzS)  (M : zzM) (v0 : Int32) : Option (Int32 × zzM) := if v0 < (65 : Int32) then (some ((0 : Int32), M)) else (if (90 : Int32) < v0 then (some ((0 : Int32), M)) else (some ((1 : Int32), M)))
set_option maxHeartbeats 4000000 in
set_option maxRecDepth 100000 in
theorem c_Rd_isFunction {l : Launch} {D : zzD} {bs : Nat} {A : Nat → Prop} {S : zzS} {M : zzM} {hz : Nat} {out : Int32 × zzM} {v0 : Int32}   (hF : F_Rd_isFunction S  M v0 = some out)  : Met l y_Rd_isFunction (Cond.code y_Rd_isFunction prog_5_method_21_code 1 (some .boolean) :: zzW) { frames := 0, cells := 0, slots := 0, locals := 0 } (zzPc D bs A S M hz [.int v0]) (zzQc D bs A S out.2 hz (some (.int out.1))) 0 0 A := by
  refine zz_met [.int v0] (by decide) (Nat.le_of_ble_eq_true rfl) (fun p e s m args below meth c C hr hlocks hin hsz => ?_)
  refine zz_eq (lv' := [(0, .int v0)]) (st' := []) rfl rfl ?_
  unfold F_Rd_isFunction at hF
  refine zi_iload_n C d_Rd_isFunction_0 rfl 0 rfl ?_
  refine zi_bipush (v := 65) C d_Rd_isFunction_1 (by decide) ?_
  refine zi_icmp_lt (tgt := 16) C d_Rd_isFunction_3 (by decide) hF (fun hF => ?_) (fun hF => ?_)
  · refine zi_iconst (v := 0) C d_Rd_isFunction_16 (by decide) ?_
    exact zi_zret C hlocks hr (by decide +kernel) d_Rd_isFunction_17 (by cases hF; rfl) rfl (by cases hF; rfl) rfl
  · refine zi_iload_n C d_Rd_isFunction_6 rfl 0 rfl ?_
    refine zi_bipush (v := 90) C d_Rd_isFunction_7 (by decide) ?_
    refine zi_icmp_gt (tgt := 16) C d_Rd_isFunction_9 (by decide) hF (fun hF => ?_) (fun hF => ?_)
    · refine zi_iconst (v := 0) C d_Rd_isFunction_16 (by decide) ?_
      exact zi_zret C hlocks hr (by decide +kernel) d_Rd_isFunction_17 (by cases hF; rfl) rfl (by cases hF; rfl) rfl
    · refine zi_iconst (v := 1) C d_Rd_isFunction_12 (by decide) ?_
      refine zi_goto (tgt := 17) C d_Rd_isFunction_13 (by decide) ?_
      exact zi_zret C hlocks hr (by decide +kernel) d_Rd_isFunction_17 (by cases hF; rfl) rfl (by cases hF; rfl) rfl
def F_Rd_newFunction (S : zzS)  (M : zzM) (v0 : Nat) (v1 : Option Nat) (v2 : Int32) : Option (Int32 × zzM) := zzcall (F_Rd_peek S M v0) fun r1 M => zzcall (F_Rd_isFunction S M r1) fun r2 M => if r2 = 0 then (some ((0 : Int32), M)) else (zzlet (r1 - (65 : Int32)) fun x3 => zzopt S 13 v1 (none) (fun b4 => zzlet (zzsI M b4 3 x3) fun M => if 0 < v2 then (zzlet (zzI M b4 1) fun x5 => zzlet (zzsI M v0 2 x5) fun M => some ((0 : Int32), M)) else (zzlet (zzI M b4 3) fun x6 => zzref S 4 (zzR M v0 5) fun b7 => zzlet (Int32.ofNat (zzn S b7)) fun x8 => if x8 ≤ x6 then (zzlet (zzI M b4 1) fun x9 => zzlet (zzsI M v0 2 x9) fun M => some ((0 : Int32), M)) else (zzref S 4 (zzR M v0 5) fun b10 => zzlet (zzI M b4 3) fun x11 => zzix S b10 x11 (zzlet (zzR M b10 (x11).toNatClampNeg) fun r13 => zzopt S 13 r13 (zzref S 4 (zzR M v0 5) fun b15 => zzlet (zzI M b4 3) fun x16 => zzix S b15 x16 (zzlet (zzsR M b15 (x16).toNatClampNeg (some b4)) fun M => zzlet (zzI M v0 2) fun x17 => zzlet (x17 + (1 : Int32)) fun x18 => zzlet (zzsI M v0 2 x18) fun M => some ((1 : Int32), M))) (fun b14 => zzlet (zzI M b4 1) fun x19 => zzlet (zzsI M v0 2 x19) fun M => some ((0 : Int32), M)))))))
set_option maxHeartbeats 4000000 in
set_option maxRecDepth 100000 in
theorem c_Rd_newFunction {l : Launch} {D : zzD} {bs : Nat} {A : Nat → Prop} {S : zzS} {M : zzM} {hz : Nat} {out : Int32 × zzM} {v0 : Nat} {v1 : Option Nat} {v2 : Int32}   (hF : F_Rd_newFunction S  M v0 v1 v2 = some out) (hn_v0 : v0 < S.2.1) (hk_v0 : zzk S v0 = 17) : Met l y_Rd_newFunction (Cond.code y_Rd_newFunction prog_5_method_12_code 4 (some .boolean) :: zzW) { frames := 1, cells := 0, slots := 0, locals := 20 } (zzPc D bs A S M hz [.ref (bs + v0), zzrf bs v1, .int v2]) (zzQc D bs A S out.2 hz (some (.int out.1))) 0 0 A := by
  refine zz_met [.ref (bs + v0), zzrf bs v1, .int v2] (by decide) (by cases v1 <;> exact Nat.le_of_ble_eq_true rfl) (fun p e s m args below meth c C hr hlocks hin hsz => ?_)
  refine zz_eq (lv' := [(0, .ref (bs + v0)), (1, zzrf bs v1), (2, .int v2)]) (st' := []) (by cases v1 <;> rfl) rfl ?_
  unfold F_Rd_newFunction at hF
  refine zi_aload_n C d_Rd_newFunction_0 rfl 0 rfl ?_
  obtain ⟨r1, M, hqr1, hF⟩ := zzcall_e hF
  refine zi_callV_i (M2 := M) (r := r1) (n := 0) (As := []) (st := []) C (c_Rd_peek hqr1 hn_v0 hk_v0) zw_366 zw_367 (by decide +kernel) ⟨Nat.le_of_ble_eq_true rfl, Nat.le_of_ble_eq_true rfl⟩ rfl (Nat.le_of_ble_eq_true rfl) ⟨Nat.le_of_ble_eq_true rfl, Nat.le_of_ble_eq_true rfl⟩ zw_368 zw_369 zw_370 zc_7.1 hn_v0 hk_v0 rfl d_Rd_newFunction_1 ?_
  refine zi_istore_n (lv' := [(3, .int r1), (0, .ref (bs + v0)), (1, zzrf bs v1), (2, .int v2)]) C d_Rd_newFunction_4 rfl (by decide) rfl ?_
  refine zi_iload_n C d_Rd_newFunction_5 rfl 0 rfl ?_
  obtain ⟨r2, M, hqr2, hF⟩ := zzcall_e hF
  refine zi_callS_i (M2 := M) (r := r2) (n := 1) (As := [.int r1]) (st := []) C (c_Rd_isFunction hqr2 ) zw_371 zw_367 (by decide +kernel) ⟨Nat.le_of_ble_eq_true rfl, Nat.le_of_ble_eq_true rfl⟩ rfl (Nat.le_of_ble_eq_true rfl) ⟨Nat.le_of_ble_eq_true rfl, Nat.le_of_ble_eq_true rfl⟩ zw_372 zw_373 rfl d_Rd_newFunction_6 ?_
  refine zi_if_ne (tgt := 14) C d_Rd_newFunction_9 (by decide) hF (fun hF => ?_) (fun hF => ?_)
  · refine zi_aload_nO C d_Rd_newFunction_14 rfl 2 rfl ?_
    refine zi_iload_n C d_Rd_newFunction_15 rfl 0 rfl ?_
    refine zi_bipush (v := 65) C d_Rd_newFunction_16 (by decide) ?_
    refine zi_isub C d_Rd_newFunction_18 hF (fun x3 hF => ?_)
    rcases zzopt_e hF with ⟨hv0, hF⟩ | ⟨b4, hv0, hn_b4, hk_b4, hF⟩
    · refine zz_eq (lv' := [(3, .int r1), (0, .ref (bs + v0)), (1, .null), (2, .int v2)]) (st' := [.int x3, .null]) (by first | rfl | (rw [hv0]; rfl) | (rw [hv0]; done)) (by first | rfl | (rw [hv0]; rfl) | (rw [hv0]; done)) ?_
      cases hF
    · refine zz_eq (lv' := [(3, .int r1), (0, .ref (bs + v0)), (1, .ref (bs + b4)), (2, .int v2)]) (st' := [.int x3, .ref (bs + b4)]) (by first | rfl | (rw [hv0]; rfl) | (rw [hv0]; done)) (by first | rfl | (rw [hv0]; rfl) | (rw [hv0]; done)) ?_
      refine zi_putI C zc_3 (k := 3) (by decide) zw_374 rfl (Or.inl rfl) hn_b4 hk_b4 d_Rd_newFunction_19 rfl hF (fun M hF => ?_)
      refine zi_iload_n C d_Rd_newFunction_22 rfl 3 rfl ?_
      refine zi_if_gt (tgt := 50) C d_Rd_newFunction_23 (by decide) hF (fun hF => ?_) (fun hF => ?_)
      · refine zi_aload_n C d_Rd_newFunction_50 rfl 1 rfl ?_
        refine zi_aload_n C d_Rd_newFunction_51 rfl 2 rfl ?_
        refine zi_getI C zc_3 (k := 1) (by decide) zw_375 rfl hn_b4 hk_b4 d_Rd_newFunction_52 (fun _ _ _ => rfl) hF (fun x5 hF => ?_)
        refine zi_putI C zc_7 (k := 2) (by decide) zw_362 rfl (Or.inl rfl) hn_v0 hk_v0 d_Rd_newFunction_55 rfl hF (fun M hF => ?_)
        refine zi_iconst (v := 0) C d_Rd_newFunction_58 (by decide) ?_
        exact zi_zret C hlocks hr (by decide +kernel) d_Rd_newFunction_59 (by cases hF; rfl) rfl (by cases hF; rfl) rfl
      · refine zi_aload_n C d_Rd_newFunction_26 rfl 2 rfl ?_
        refine zi_getI C zc_3 (k := 3) (by decide) zw_374 rfl hn_b4 hk_b4 d_Rd_newFunction_27 (fun _ _ _ => rfl) hF (fun x6 hF => ?_)
        refine zi_aload_n C d_Rd_newFunction_30 rfl 1 rfl ?_
        refine zi_getR C zc_7 (k := 5) (by decide) zw_376 rfl hn_v0 hk_v0 d_Rd_newFunction_31 (fun _ _ _ => rfl) hF (fun b7 hn_b7 hk_b7 hF => ?_)
        refine zi_alen C hn_b7 hk_b7 (by decide) (by decide) d_Rd_newFunction_34 hF (fun x8 hF => ?_)
        refine zi_icmp_ge (tgt := 50) C d_Rd_newFunction_35 (by decide) hF (fun hF => ?_) (fun hF => ?_)
        · refine zi_aload_n C d_Rd_newFunction_50 rfl 1 rfl ?_
          refine zi_aload_n C d_Rd_newFunction_51 rfl 2 rfl ?_
          refine zi_getI C zc_3 (k := 1) (by decide) zw_375 rfl hn_b4 hk_b4 d_Rd_newFunction_52 (fun _ _ _ => rfl) hF (fun x9 hF => ?_)
          refine zi_putI C zc_7 (k := 2) (by decide) zw_362 rfl (Or.inl rfl) hn_v0 hk_v0 d_Rd_newFunction_55 rfl hF (fun M hF => ?_)
          refine zi_iconst (v := 0) C d_Rd_newFunction_58 (by decide) ?_
          exact zi_zret C hlocks hr (by decide +kernel) d_Rd_newFunction_59 (by cases hF; rfl) rfl (by cases hF; rfl) rfl
        · refine zi_aload_n C d_Rd_newFunction_38 rfl 1 rfl ?_
          refine zi_getR C zc_7 (k := 5) (by decide) zw_376 rfl hn_v0 hk_v0 d_Rd_newFunction_39 (fun _ _ _ => rfl) hF (fun b10 hn_b10 hk_b10 hF => ?_)
          refine zi_aload_n C d_Rd_newFunction_42 rfl 2 rfl ?_
          refine zi_getI C zc_3 (k := 3) (by decide) zw_374 rfl hn_b4 hk_b4 d_Rd_newFunction_43 (fun _ _ _ => rfl) hF (fun x11 hF => ?_)
          refine zi_aald4Q C hn_b10 hk_b10 d_Rd_newFunction_46 hF (fun r13 hF => ?_)
          rcases zzopt_e hF with ⟨hv0, hF⟩ | ⟨b14, hv0, hn_b14, hk_b14, hF⟩
          · refine zz_eq (lv' := [(3, .int r1), (0, .ref (bs + v0)), (1, .ref (bs + b4)), (2, .int v2)]) (st' := [.null]) (by first | rfl | (rw [hv0]; rfl) | (rw [hv0]; done)) (by first | rfl | (rw [hv0]; rfl) | (rw [hv0]; done)) ?_
            refine zi_ifnullN (tgt := 60) C d_Rd_newFunction_47 (by decide) ?_
            refine zi_aload_n C d_Rd_newFunction_60 rfl 1 rfl ?_
            refine zi_getR C zc_7 (k := 5) (by decide) zw_376 rfl hn_v0 hk_v0 d_Rd_newFunction_61 (fun _ _ _ => rfl) hF (fun b15 hn_b15 hk_b15 hF => ?_)
            refine zi_aload_n C d_Rd_newFunction_64 rfl 2 rfl ?_
            refine zi_getI C zc_3 (k := 3) (by decide) zw_374 rfl hn_b4 hk_b4 d_Rd_newFunction_65 (fun _ _ _ => rfl) hF (fun x16 hF => ?_)
            refine zi_aload_n C d_Rd_newFunction_68 rfl 2 rfl ?_
            refine zi_aast C hn_b15 hk_b15 zc_3.1 hn_b4 hk_b4 d_Rd_newFunction_69 hF (fun M hF => ?_)
            refine zi_aload_n C d_Rd_newFunction_70 rfl 1 rfl ?_
            refine zi_dup C d_Rd_newFunction_71 rfl ?_
            refine zi_getI C zc_7 (k := 2) (by decide) zw_362 rfl hn_v0 hk_v0 d_Rd_newFunction_72 (fun _ _ _ => rfl) hF (fun x17 hF => ?_)
            refine zi_iconst (v := 1) C d_Rd_newFunction_75 (by decide) ?_
            refine zi_iadd C d_Rd_newFunction_76 hF (fun x18 hF => ?_)
            refine zi_putI C zc_7 (k := 2) (by decide) zw_362 rfl (Or.inl rfl) hn_v0 hk_v0 d_Rd_newFunction_77 rfl hF (fun M hF => ?_)
            refine zi_iconst (v := 1) C d_Rd_newFunction_80 (by decide) ?_
            exact zi_zret C hlocks hr (by decide +kernel) d_Rd_newFunction_81 (by cases hF; rfl) rfl (by cases hF; rfl) rfl
          · refine zz_eq (lv' := [(3, .int r1), (0, .ref (bs + v0)), (1, .ref (bs + b4)), (2, .int v2)]) (st' := [.ref (bs + b14)]) (by first | rfl | (rw [hv0]; rfl) | (rw [hv0]; done)) (by first | rfl | (rw [hv0]; rfl) | (rw [hv0]; done)) ?_
            refine zi_ifnull C d_Rd_newFunction_47 ?_
            refine zi_aload_n C d_Rd_newFunction_50 rfl 1 rfl ?_
            refine zi_aload_n C d_Rd_newFunction_51 rfl 2 rfl ?_
            refine zi_getI C zc_3 (k := 1) (by decide) zw_375 rfl hn_b4 hk_b4 d_Rd_newFunction_52 (fun _ _ _ => rfl) hF (fun x19 hF => ?_)
            refine zi_putI C zc_7 (k := 2) (by decide) zw_362 rfl (Or.inl rfl) hn_v0 hk_v0 d_Rd_newFunction_55 rfl hF (fun M hF => ?_)
            refine zi_iconst (v := 0) C d_Rd_newFunction_58 (by decide) ?_
            exact zi_zret C hlocks hr (by decide +kernel) d_Rd_newFunction_59 (by cases hF; rfl) rfl (by cases hF; rfl) rfl
  · refine zi_iconst (v := 0) C d_Rd_newFunction_12 (by decide) ?_
    exact zi_zret C hlocks hr (by decide +kernel) d_Rd_newFunction_13 (by cases hF; rfl) rfl (by cases hF; rfl) rfl
def F_Rd_fieldDigit_27 (S : zzS)   (M : zzM) (v0 : Nat) (w0 : Int32) : Option (Int32 × zzM) := if w0 < 0 then (some ((-1 : Int32), M)) else (if w0 < (6 : Int32) then (zzlet (zzI M v0 2) fun x1 => zzlet (x1 + (1 : Int32)) fun x2 => zzlet (zzsI M v0 2 x2) fun M => some (w0, M)) else (some ((-1 : Int32), M)))
set_option maxHeartbeats 4000000 in
set_option maxRecDepth 100000 in
theorem g_Rd_fieldDigit_27 {p : Program} {l : Launch} {e : Env} {s : State} {m : MethodId} {args : Array Value} {below : List Frame} {meth : Method} {c : Code} {D : zzD} {bs : Nat} {A : Nat → Prop} {S : zzS} {hz : Nat} {out : Int32 × zzM}  (C : zzC p s m args c prog_5_method_13_code "BoardScript$Reader" 2 D) (hlocks : meth.locks = false) (hr : meth.sig.returnType = (some .int)) (hin : meth.name = "fieldDigit")    (M : zzM) (v0 : Nat) (w0 : Int32) (hn_v0 : v0 < S.2.1) (hk_v0 : zzk S v0 = 17) (hF : F_Rd_fieldDigit_27 S   M v0 w0 = some out) : zzB p l e { frames := 0, cells := 0, slots := 0, locals := 0 } s m args below meth c 2 D bs A (MQ below (zzQc D bs A S out.2 hz (some (.int out.1))) args s 0 0 A) 0 0 S M hz 27 [(0, .ref (bs + v0))] [.int w0] := by
  unfold F_Rd_fieldDigit_27 at hF
  refine zi_istore_n (lv' := [(1, .int w0), (0, .ref (bs + v0))]) C d_Rd_fieldDigit_27 rfl (by decide) rfl ?_
  refine zi_iload_n C d_Rd_fieldDigit_28 rfl 0 rfl ?_
  refine zi_if_lt (tgt := 38) C d_Rd_fieldDigit_29 (by decide) hF (fun hF => ?_) (fun hF => ?_)
  · refine zi_iconst (v := -1) C d_Rd_fieldDigit_38 (by decide) ?_
    exact zi_iret C hlocks hr d_Rd_fieldDigit_39 (by cases hF; rfl) rfl (by cases hF; rfl) rfl
  · refine zi_iload_n C d_Rd_fieldDigit_32 rfl 0 rfl ?_
    refine zi_bipush (v := 6) C d_Rd_fieldDigit_33 (by decide) ?_
    refine zi_icmp_lt (tgt := 40) C d_Rd_fieldDigit_35 (by decide) hF (fun hF => ?_) (fun hF => ?_)
    · refine zi_aload_n C d_Rd_fieldDigit_40 rfl 1 rfl ?_
      refine zi_dup C d_Rd_fieldDigit_41 rfl ?_
      refine zi_getI C zc_7 (k := 2) (by decide) zw_362 rfl hn_v0 hk_v0 d_Rd_fieldDigit_42 (fun _ _ _ => rfl) hF (fun x1 hF => ?_)
      refine zi_iconst (v := 1) C d_Rd_fieldDigit_45 (by decide) ?_
      refine zi_iadd C d_Rd_fieldDigit_46 hF (fun x2 hF => ?_)
      refine zi_putI C zc_7 (k := 2) (by decide) zw_362 rfl (Or.inl rfl) hn_v0 hk_v0 d_Rd_fieldDigit_47 rfl hF (fun M hF => ?_)
      refine zi_iload_n C d_Rd_fieldDigit_50 rfl 0 rfl ?_
      exact zi_iret C hlocks hr d_Rd_fieldDigit_51 (by cases hF; rfl) rfl (by cases hF; rfl) rfl
    · refine zi_iconst (v := -1) C d_Rd_fieldDigit_38 (by decide) ?_
      exact zi_iret C hlocks hr d_Rd_fieldDigit_39 (by cases hF; rfl) rfl (by cases hF; rfl) rfl
def F_Rd_fieldDigit (S : zzS)  (M : zzM) (v0 : Nat) : Option (Int32 × zzM) := zzlet (zzI M v0 2) fun x1 => zzlet (zzI M v0 1) fun x2 => if x2 ≤ x1 then (F_Rd_fieldDigit_27 S   M v0 (-1 : Int32)) else (zzref S 3 (zzR M v0 0) fun b3 => zzlet (zzI M v0 2) fun x4 => zzix S b3 x4 (zzlet (zzI M b3 (x4).toNatClampNeg) fun x5 => zzlet (x5 - (48 : Int32)) fun x6 => F_Rd_fieldDigit_27 S   M v0 x6))
set_option maxHeartbeats 4000000 in
set_option maxRecDepth 100000 in
theorem c_Rd_fieldDigit {l : Launch} {D : zzD} {bs : Nat} {A : Nat → Prop} {S : zzS} {M : zzM} {hz : Nat} {out : Int32 × zzM} {v0 : Nat}   (hF : F_Rd_fieldDigit S  M v0 = some out) (hn_v0 : v0 < S.2.1) (hk_v0 : zzk S v0 = 17) : Met l y_Rd_fieldDigit (Cond.code y_Rd_fieldDigit prog_5_method_13_code 2 (some .int) :: zzW) { frames := 0, cells := 0, slots := 0, locals := 0 } (zzPc D bs A S M hz [.ref (bs + v0)]) (zzQc D bs A S out.2 hz (some (.int out.1))) 0 0 A := by
  refine zz_met [.ref (bs + v0)] (by decide) (Nat.le_of_ble_eq_true rfl) (fun p e s m args below meth c C hr hlocks hin hsz => ?_)
  refine zz_eq (lv' := [(0, .ref (bs + v0))]) (st' := []) rfl rfl ?_
  unfold F_Rd_fieldDigit at hF
  refine zi_aload_n C d_Rd_fieldDigit_0 rfl 0 rfl ?_
  refine zi_getI C zc_7 (k := 2) (by decide) zw_362 rfl hn_v0 hk_v0 d_Rd_fieldDigit_1 (fun _ _ _ => rfl) hF (fun x1 hF => ?_)
  refine zi_aload_n C d_Rd_fieldDigit_4 rfl 0 rfl ?_
  refine zi_getI C zc_7 (k := 1) (by decide) zw_363 rfl hn_v0 hk_v0 d_Rd_fieldDigit_5 (fun _ _ _ => rfl) hF (fun x2 hF => ?_)
  refine zi_icmp_ge (tgt := 26) C d_Rd_fieldDigit_8 (by decide) hF (fun hF => ?_) (fun hF => ?_)
  · refine zi_iconst (v := -1) C d_Rd_fieldDigit_26 (by decide) ?_
    refine zz_sub [0] (lv' := [(0, .ref (bs + v0))]) rfl ?_
    exact g_Rd_fieldDigit_27 C hlocks hr hin   _ v0 (-1 : Int32) hn_v0 hk_v0 hF
  · refine zi_aload_n C d_Rd_fieldDigit_11 rfl 0 rfl ?_
    refine zi_getR C zc_7 (k := 0) (by decide) zw_364 rfl hn_v0 hk_v0 d_Rd_fieldDigit_12 (fun _ _ _ => rfl) hF (fun b3 hn_b3 hk_b3 hF => ?_)
    refine zi_aload_n C d_Rd_fieldDigit_15 rfl 0 rfl ?_
    refine zi_getI C zc_7 (k := 2) (by decide) zw_362 rfl hn_v0 hk_v0 d_Rd_fieldDigit_16 (fun _ _ _ => rfl) hF (fun x4 hF => ?_)
    refine zi_cald C hn_b3 hk_b3 d_Rd_fieldDigit_19 hF (fun x5 hF => ?_)
    refine zi_bipush (v := 48) C d_Rd_fieldDigit_20 (by decide) ?_
    refine zi_isub C d_Rd_fieldDigit_22 hF (fun x6 hF => ?_)
    refine zi_goto (tgt := 27) C d_Rd_fieldDigit_23 (by decide) ?_
    refine zz_sub [0] (lv' := [(0, .ref (bs + v0))]) rfl ?_
    exact g_Rd_fieldDigit_27 C hlocks hr hin   _ v0 x6 hn_v0 hk_v0 hF
def F_Rd_isDigit (S : zzS)  (M : zzM) (v0 : Int32) : Option (Int32 × zzM) := if v0 < (48 : Int32) then (some ((0 : Int32), M)) else (if (57 : Int32) < v0 then (some ((0 : Int32), M)) else (some ((1 : Int32), M)))
set_option maxHeartbeats 4000000 in
set_option maxRecDepth 100000 in
theorem c_Rd_isDigit {l : Launch} {D : zzD} {bs : Nat} {A : Nat → Prop} {S : zzS} {M : zzM} {hz : Nat} {out : Int32 × zzM} {v0 : Int32}   (hF : F_Rd_isDigit S  M v0 = some out)  : Met l y_Rd_isDigit (Cond.code y_Rd_isDigit prog_5_method_19_code 1 (some .boolean) :: zzW) { frames := 0, cells := 0, slots := 0, locals := 0 } (zzPc D bs A S M hz [.int v0]) (zzQc D bs A S out.2 hz (some (.int out.1))) 0 0 A := by
  refine zz_met [.int v0] (by decide) (Nat.le_of_ble_eq_true rfl) (fun p e s m args below meth c C hr hlocks hin hsz => ?_)
  refine zz_eq (lv' := [(0, .int v0)]) (st' := []) rfl rfl ?_
  unfold F_Rd_isDigit at hF
  refine zi_iload_n C d_Rd_isDigit_0 rfl 0 rfl ?_
  refine zi_bipush (v := 48) C d_Rd_isDigit_1 (by decide) ?_
  refine zi_icmp_lt (tgt := 16) C d_Rd_isDigit_3 (by decide) hF (fun hF => ?_) (fun hF => ?_)
  · refine zi_iconst (v := 0) C d_Rd_isDigit_16 (by decide) ?_
    exact zi_zret C hlocks hr (by decide +kernel) d_Rd_isDigit_17 (by cases hF; rfl) rfl (by cases hF; rfl) rfl
  · refine zi_iload_n C d_Rd_isDigit_6 rfl 0 rfl ?_
    refine zi_bipush (v := 57) C d_Rd_isDigit_7 (by decide) ?_
    refine zi_icmp_gt (tgt := 16) C d_Rd_isDigit_9 (by decide) hF (fun hF => ?_) (fun hF => ?_)
    · refine zi_iconst (v := 0) C d_Rd_isDigit_16 (by decide) ?_
      exact zi_zret C hlocks hr (by decide +kernel) d_Rd_isDigit_17 (by cases hF; rfl) rfl (by cases hF; rfl) rfl
    · refine zi_iconst (v := 1) C d_Rd_isDigit_12 (by decide) ?_
      refine zi_goto (tgt := 17) C d_Rd_isDigit_13 (by decide) ?_
      exact zi_zret C hlocks hr (by decide +kernel) d_Rd_isDigit_17 (by cases hF; rfl) rfl (by cases hF; rfl) rfl
