def F_Bs_unit_23 (S : zzS)   (M : zzM) (v0 : Nat) (v1 : Int32) (w0 : Int32) : Option (Int32 × zzM) := if w0 = 0 then (some ((0 : Int32), M)) else (zzlet (zzI M v0 1) fun x1 => if x1 < (400 : Int32) then (zzref S 3 (zzR M v0 0) fun b2 => zzlet (zzI M v0 1) fun x3 => zzlet (((v1).toUInt32 % 65536).toInt32) fun x4 => zzix S b2 x3 (zzck (zzokC x4) (zzlet (zzsI M b2 (x3).toNatClampNeg x4) fun M => zzlet (zzI M v0 1) fun x5 => zzlet (x5 + (1 : Int32)) fun x6 => zzlet (zzsI M v0 1 x6) fun M => some ((1 : Int32), M)))) else (some ((0 : Int32), M)))
set_option maxHeartbeats 4000000 in
set_option maxRecDepth 100000 in
theorem g_Bs_unit_23 {p : Program} {l : Launch} {e : Env} {s : State} {m : MethodId} {args : Array Value} {below : List Frame} {meth : Method} {c : Code} {D : zzD} {bs : Nat} {A : Nat → Prop} {S : zzS} {hz : Nat} {out : Int32 × zzM}  (C : zzC p s m args c prog_1_method_2_code "BoardScript" 3 D) (hlocks : meth.locks = false) (hr : meth.sig.returnType = (some .boolean)) (hin : meth.name = "unit")    (M : zzM) (v0 : Nat) (v1 : Int32) (w0 : Int32) (hn_v0 : v0 < S.2.1) (hk_v0 : zzk S v0 = 10) (hF : F_Bs_unit_23 S   M v0 v1 w0 = some out) : zzB p l e { frames := 0, cells := 0, slots := 0, locals := 0 } s m args below meth c 3 D bs A (MQ below (zzQc D bs A S out.2 hz (some (.int out.1))) args s 0 0 A) 0 0 S M hz 23 [(0, .ref (bs + v0)), (1, .int v1)] [.int w0] := by
  unfold F_Bs_unit_23 at hF
  refine zi_istore_n (lv' := [(2, .int w0), (0, .ref (bs + v0)), (1, .int v1)]) C d_Bs_unit_23 rfl (by decide) rfl ?_
  refine zi_iload_n C d_Bs_unit_24 rfl 0 rfl ?_
  refine zi_if_eq (tgt := 38) C d_Bs_unit_25 (by decide) hF (fun hF => ?_) (fun hF => ?_)
  · refine zi_iconst (v := 0) C d_Bs_unit_38 (by decide) ?_
    exact zi_zret C hlocks hr (by decide +kernel) d_Bs_unit_39 (by cases hF; rfl) rfl (by cases hF; rfl) rfl
  · refine zi_aload_n C d_Bs_unit_28 rfl 1 rfl ?_
    refine zi_getI C zc_0 (k := 1) (by decide) zw_246 rfl hn_v0 hk_v0 d_Bs_unit_29 (fun _ _ _ => rfl) hF (fun x1 hF => ?_)
    refine zi_sipush (v := 400) C d_Bs_unit_32 (by decide) ?_
    refine zi_icmp_lt (tgt := 40) C d_Bs_unit_35 (by decide) hF (fun hF => ?_) (fun hF => ?_)
    · refine zi_aload_n C d_Bs_unit_40 rfl 1 rfl ?_
      refine zi_getR C zc_0 (k := 0) (by decide) zw_247 rfl hn_v0 hk_v0 d_Bs_unit_41 (fun _ _ _ => rfl) hF (fun b2 hn_b2 hk_b2 hF => ?_)
      refine zi_aload_n C d_Bs_unit_44 rfl 1 rfl ?_
      refine zi_getI C zc_0 (k := 1) (by decide) zw_246 rfl hn_v0 hk_v0 d_Bs_unit_45 (fun _ _ _ => rfl) hF (fun x3 hF => ?_)
      refine zi_iload_n C d_Bs_unit_48 rfl 2 rfl ?_
      refine zi_i2c C d_Bs_unit_49 hF (fun x4 hF => ?_)
      refine zi_cast C hn_b2 hk_b2 d_Bs_unit_50 hF (fun M hF => ?_)
      refine zi_aload_n C d_Bs_unit_51 rfl 1 rfl ?_
      refine zi_dup C d_Bs_unit_52 rfl ?_
      refine zi_getI C zc_0 (k := 1) (by decide) zw_246 rfl hn_v0 hk_v0 d_Bs_unit_53 (fun _ _ _ => rfl) hF (fun x5 hF => ?_)
      refine zi_iconst (v := 1) C d_Bs_unit_56 (by decide) ?_
      refine zi_iadd C d_Bs_unit_57 hF (fun x6 hF => ?_)
      refine zi_putI C zc_0 (k := 1) (by decide) zw_246 rfl (Or.inl rfl) hn_v0 hk_v0 d_Bs_unit_58 rfl hF (fun M hF => ?_)
      refine zi_iconst (v := 1) C d_Bs_unit_61 (by decide) ?_
      exact zi_zret C hlocks hr (by decide +kernel) d_Bs_unit_62 (by cases hF; rfl) rfl (by cases hF; rfl) rfl
    · refine zi_iconst (v := 0) C d_Bs_unit_38 (by decide) ?_
      exact zi_zret C hlocks hr (by decide +kernel) d_Bs_unit_39 (by cases hF; rfl) rfl (by cases hF; rfl) rfl
def F_Bs_unit_18 (S : zzS)   (M : zzM) (v0 : Nat) (v1 : Int32) : Option (Int32 × zzM) := F_Bs_unit_23 S   M v0 v1 (1 : Int32)
set_option maxHeartbeats 4000000 in
set_option maxRecDepth 100000 in
theorem g_Bs_unit_18 {p : Program} {l : Launch} {e : Env} {s : State} {m : MethodId} {args : Array Value} {below : List Frame} {meth : Method} {c : Code} {D : zzD} {bs : Nat} {A : Nat → Prop} {S : zzS} {hz : Nat} {out : Int32 × zzM}  (C : zzC p s m args c prog_1_method_2_code "BoardScript" 3 D) (hlocks : meth.locks = false) (hr : meth.sig.returnType = (some .boolean)) (hin : meth.name = "unit")    (M : zzM) (v0 : Nat) (v1 : Int32) (hn_v0 : v0 < S.2.1) (hk_v0 : zzk S v0 = 10) (hF : F_Bs_unit_18 S   M v0 v1 = some out) : zzB p l e { frames := 0, cells := 0, slots := 0, locals := 0 } s m args below meth c 3 D bs A (MQ below (zzQc D bs A S out.2 hz (some (.int out.1))) args s 0 0 A) 0 0 S M hz 18 [(0, .ref (bs + v0)), (1, .int v1)] [] := by
  unfold F_Bs_unit_18 at hF
  refine zi_iconst (v := 1) C d_Bs_unit_18 (by decide) ?_
  refine zi_goto (tgt := 23) C d_Bs_unit_19 (by decide) ?_
  refine zz_sub [0, 1] (lv' := [(0, .ref (bs + v0)), (1, .int v1)]) rfl ?_
  exact g_Bs_unit_23 C hlocks hr hin   _ v0 v1 (1 : Int32) hn_v0 hk_v0 hF
def F_Bs_unit_22 (S : zzS)   (M : zzM) (v0 : Nat) (v1 : Int32) : Option (Int32 × zzM) := F_Bs_unit_23 S   M v0 v1 (0 : Int32)
set_option maxHeartbeats 4000000 in
set_option maxRecDepth 100000 in
theorem g_Bs_unit_22 {p : Program} {l : Launch} {e : Env} {s : State} {m : MethodId} {args : Array Value} {below : List Frame} {meth : Method} {c : Code} {D : zzD} {bs : Nat} {A : Nat → Prop} {S : zzS} {hz : Nat} {out : Int32 × zzM}  (C : zzC p s m args c prog_1_method_2_code "BoardScript" 3 D) (hlocks : meth.locks = false) (hr : meth.sig.returnType = (some .boolean)) (hin : meth.name = "unit")    (M : zzM) (v0 : Nat) (v1 : Int32) (hn_v0 : v0 < S.2.1) (hk_v0 : zzk S v0 = 10) (hF : F_Bs_unit_22 S   M v0 v1 = some out) : zzB p l e { frames := 0, cells := 0, slots := 0, locals := 0 } s m args below meth c 3 D bs A (MQ below (zzQc D bs A S out.2 hz (some (.int out.1))) args s 0 0 A) 0 0 S M hz 22 [(0, .ref (bs + v0)), (1, .int v1)] [] := by
  unfold F_Bs_unit_22 at hF
  refine zi_iconst (v := 0) C d_Bs_unit_22 (by decide) ?_
  refine zz_sub [0, 1] (lv' := [(0, .ref (bs + v0)), (1, .int v1)]) rfl ?_
  exact g_Bs_unit_23 C hlocks hr hin   _ v0 v1 (0 : Int32) hn_v0 hk_v0 hF
def F_Bs_unit (S : zzS)  (M : zzM) (v0 : Nat) (v1 : Int32) : Option (Int32 × zzM) := if v1 = (10 : Int32) then (F_Bs_unit_18 S   M v0 v1) else (if v1 < (32 : Int32) then (F_Bs_unit_22 S   M v0 v1) else (if (126 : Int32) < v1 then (F_Bs_unit_22 S   M v0 v1) else (F_Bs_unit_18 S   M v0 v1)))
set_option maxHeartbeats 4000000 in
set_option maxRecDepth 100000 in
theorem c_Bs_unit {l : Launch} {D : zzD} {bs : Nat} {A : Nat → Prop} {S : zzS} {M : zzM} {hz : Nat} {out : Int32 × zzM} {v0 : Nat} {v1 : Int32}   (hF : F_Bs_unit S  M v0 v1 = some out) (hn_v0 : v0 < S.2.1) (hk_v0 : zzk S v0 = 10) : Met l y_Bs_unit (Cond.code y_Bs_unit prog_1_method_2_code 3 (some .boolean) :: zzW) { frames := 0, cells := 0, slots := 0, locals := 0 } (zzPc D bs A S M hz [.ref (bs + v0), .int v1]) (zzQc D bs A S out.2 hz (some (.int out.1))) 0 0 A := by
  refine zz_met [.ref (bs + v0), .int v1] (by decide) (Nat.le_of_ble_eq_true rfl) (fun p e s m args below meth c C hr hlocks hin hsz => ?_)
  refine zz_eq (lv' := [(0, .ref (bs + v0)), (1, .int v1)]) (st' := []) rfl rfl ?_
  unfold F_Bs_unit at hF
  refine zi_iload_n C d_Bs_unit_0 rfl 1 rfl ?_
  refine zi_bipush (v := 10) C d_Bs_unit_1 (by decide) ?_
  refine zi_icmp_eq (tgt := 18) C d_Bs_unit_3 (by decide) hF (fun hF => ?_) (fun hF => ?_)
  · refine zz_sub [0, 1] (lv' := [(0, .ref (bs + v0)), (1, .int v1)]) rfl ?_
    exact g_Bs_unit_18 C hlocks hr hin   _ v0 v1 hn_v0 hk_v0 hF
  · refine zi_iload_n C d_Bs_unit_6 rfl 1 rfl ?_
    refine zi_bipush (v := 32) C d_Bs_unit_7 (by decide) ?_
    refine zi_icmp_lt (tgt := 22) C d_Bs_unit_9 (by decide) hF (fun hF => ?_) (fun hF => ?_)
    · refine zz_sub [0, 1] (lv' := [(0, .ref (bs + v0)), (1, .int v1)]) rfl ?_
      exact g_Bs_unit_22 C hlocks hr hin   _ v0 v1 hn_v0 hk_v0 hF
    · refine zi_iload_n C d_Bs_unit_12 rfl 1 rfl ?_
      refine zi_bipush (v := 126) C d_Bs_unit_13 (by decide) ?_
      refine zi_icmp_gt (tgt := 22) C d_Bs_unit_15 (by decide) hF (fun hF => ?_) (fun hF => ?_)
      · refine zz_sub [0, 1] (lv' := [(0, .ref (bs + v0)), (1, .int v1)]) rfl ?_
        exact g_Bs_unit_22 C hlocks hr hin   _ v0 v1 hn_v0 hk_v0 hF
      · refine zz_sub [0, 1] (lv' := [(0, .ref (bs + v0)), (1, .int v1)]) rfl ?_
        exact g_Bs_unit_18 C hlocks hr hin   _ v0 v1 hn_v0 hk_v0 hF
def F_Bd_create_29_b (S : zzS)  (k29 : zzM → Nat → Int32 → Int32 → Option (Int32 × zzM)) (M : zzM) (v0 : Nat) (v3 : Int32) (v4 : Int32) : Option (Int32 × zzM) := if (6 : Int32) ≤ v4 then (zzlet (zzI M v0 1) fun x1 => zzlet (x1 + (1 : Int32)) fun x2 => zzlet (zzsI M v0 1 x2) fun M => zzlet (zzI M v0 1) fun x3 => zzlet (x3 - (1 : Int32)) fun x4 => some (x4, M)) else (zzref S 2 (zzR M v0 0) fun b5 => zzlet (v3 + v4) fun x6 => zzix S b5 x6 (zzlet (zzsL M b5 (x6).toNatClampNeg (0 : Int64)) fun M => zzlet (v4 + (1 : Int32)) fun x7 => k29 M v0 v3 x7))
def F_Bd_create_29 (S : zzS)   (n : Nat) : zzM → Nat → Int32 → Int32 → Option (Int32 × zzM) := Nat.rec (fun _ _ _ _ => none) (fun _ k => F_Bd_create_29_b S   k) n
set_option maxHeartbeats 4000000 in
set_option maxRecDepth 100000 in
theorem g_Bd_create_29_b {p : Program} {l : Launch} {e : Env} {s : State} {m : MethodId} {args : Array Value} {below : List Frame} {meth : Method} {c : Code} {D : zzD} {bs : Nat} {A : Nat → Prop} {S : zzS} {hz : Nat} {out : Int32 × zzM}  (C : zzC p s m args c prog_3_method_4_code "BoardScript$Board" 5 D) (hlocks : meth.locks = false) (hr : meth.sig.returnType = (some .int)) (hin : meth.name = "create")  {k29 : zzM → Nat → Int32 → Int32 → Option (Int32 × zzM)} (hk29 : ∀ (M : zzM) (v0 : Nat) (v3 : Int32) (v4 : Int32) (hn_v0 : v0 < S.2.1) (hk_v0 : zzk S v0 = 14), k29 M v0 v3 v4 = some out → zzB p l e { frames := 0, cells := 0, slots := 0, locals := 0 } s m args below meth c 5 D bs A (MQ below (zzQc D bs A S out.2 hz (some (.int out.1))) args s 0 0 A) 0 0 S M hz 29 [(0, .ref (bs + v0)), (3, .int v3), (4, .int v4)] []) (M : zzM) (v0 : Nat) (v3 : Int32) (v4 : Int32) (hn_v0 : v0 < S.2.1) (hk_v0 : zzk S v0 = 14) (hF : F_Bd_create_29_b S  k29 M v0 v3 v4 = some out) : zzB p l e { frames := 0, cells := 0, slots := 0, locals := 0 } s m args below meth c 5 D bs A (MQ below (zzQc D bs A S out.2 hz (some (.int out.1))) args s 0 0 A) 0 0 S M hz 29 [(0, .ref (bs + v0)), (3, .int v3), (4, .int v4)] [] := by
  unfold F_Bd_create_29_b at hF
  refine zi_iload C d_Bd_create_29 2 rfl ?_
  refine zi_bipush (v := 6) C d_Bd_create_31 (by decide) ?_
  refine zi_icmp_ge (tgt := 52) C d_Bd_create_33 (by decide) hF (fun hF => ?_) (fun hF => ?_)
  · refine zi_aload_n C d_Bd_create_52 rfl 0 rfl ?_
    refine zi_dup C d_Bd_create_53 rfl ?_
    refine zi_getI C zc_4 (k := 1) (by decide) zw_248 rfl hn_v0 hk_v0 d_Bd_create_54 (fun _ _ _ => rfl) hF (fun x1 hF => ?_)
    refine zi_iconst (v := 1) C d_Bd_create_57 (by decide) ?_
    refine zi_iadd C d_Bd_create_58 hF (fun x2 hF => ?_)
    refine zi_putI C zc_4 (k := 1) (by decide) zw_248 rfl (Or.inl rfl) hn_v0 hk_v0 d_Bd_create_59 rfl hF (fun M hF => ?_)
    refine zi_aload_n C d_Bd_create_62 rfl 0 rfl ?_
    refine zi_getI C zc_4 (k := 1) (by decide) zw_248 rfl hn_v0 hk_v0 d_Bd_create_63 (fun _ _ _ => rfl) hF (fun x3 hF => ?_)
    refine zi_iconst (v := 1) C d_Bd_create_66 (by decide) ?_
    refine zi_isub C d_Bd_create_67 hF (fun x4 hF => ?_)
    exact zi_iret C hlocks hr d_Bd_create_68 (by cases hF; rfl) rfl (by cases hF; rfl) rfl
  · refine zi_aload_n C d_Bd_create_36 rfl 0 rfl ?_
    refine zi_getR C zc_4 (k := 0) (by decide) zw_249 rfl hn_v0 hk_v0 d_Bd_create_37 (fun _ _ _ => rfl) hF (fun b5 hn_b5 hk_b5 hF => ?_)
    refine zi_iload_n C d_Bd_create_40 rfl 1 rfl ?_
    refine zi_iload C d_Bd_create_41 2 rfl ?_
    refine zi_iadd C d_Bd_create_43 hF (fun x6 hF => ?_)
    refine zi_lconst (v := 0) C d_Bd_create_44 (by decide) ?_
    refine zi_last C hn_b5 hk_b5 d_Bd_create_45 hF (fun M hF => ?_)
    refine zi_iinc (j := 2) (v0 := 1) C d_Bd_create_46 rfl (by decide) (by decide) hF (fun x7 => [(4, .int x7), (0, .ref (bs + v0)), (3, .int v3)]) (fun _ => rfl) (fun x7 hF => ?_)
    refine zi_goto (tgt := 29) C d_Bd_create_49 (by decide) ?_
    refine zz_sub [1, 2, 0] (lv' := [(0, .ref (bs + v0)), (3, .int v3), (4, .int x7)]) rfl ?_
    exact hk29 _ v0 v3 x7 hn_v0 hk_v0 hF
set_option maxHeartbeats 4000000 in
set_option maxRecDepth 100000 in
theorem g_Bd_create_29 {p : Program} {l : Launch} {e : Env} {s : State} {m : MethodId} {args : Array Value} {below : List Frame} {meth : Method} {c : Code} {D : zzD} {bs : Nat} {A : Nat → Prop} {S : zzS} {hz : Nat} {out : Int32 × zzM}  (C : zzC p s m args c prog_3_method_4_code "BoardScript$Board" 5 D) (hlocks : meth.locks = false) (hr : meth.sig.returnType = (some .int)) (hin : meth.name = "create")    : ∀ (n : Nat) (M : zzM) (v0 : Nat) (v3 : Int32) (v4 : Int32) (hn_v0 : v0 < S.2.1) (hk_v0 : zzk S v0 = 14) (hF : F_Bd_create_29 S   n M v0 v3 v4 = some out), zzB p l e { frames := 0, cells := 0, slots := 0, locals := 0 } s m args below meth c 5 D bs A (MQ below (zzQc D bs A S out.2 hz (some (.int out.1))) args s 0 0 A) 0 0 S M hz 29 [(0, .ref (bs + v0)), (3, .int v3), (4, .int v4)] [] := by
  intro n
  induction n with
  | zero => intro M v0 v3 v4 hn_v0 hk_v0 hF; cases hF
  | succ n ih => intro M v0 v3 v4 hn_v0 hk_v0 hF; exact g_Bd_create_29_b C hlocks hr hin   ih M v0 v3 v4 hn_v0 hk_v0 hF
def F_Bd_create (S : zzS)  (M : zzM) (v0 : Nat) (v1 : Int64) : Option (Int32 × zzM) := zzlet (zzI M v0 1) fun x1 => if x1 < (12 : Int32) then (zzlet (zzI M v0 1) fun x2 => zzlet (x2 * (6 : Int32)) fun x3 => zzref S 2 (zzR M v0 0) fun b4 => zzix S b4 x3 (zzlet (zzsL M b4 (x3).toNatClampNeg v1) fun M => F_Bd_create_29 S   2000 M v0 x3 (1 : Int32))) else (some ((-1 : Int32), M))
set_option maxHeartbeats 4000000 in
set_option maxRecDepth 100000 in
theorem c_Bd_create {l : Launch} {D : zzD} {bs : Nat} {A : Nat → Prop} {S : zzS} {M : zzM} {hz : Nat} {out : Int32 × zzM} {v0 : Nat} {v1 : Int64}   (hF : F_Bd_create S  M v0 v1 = some out) (hn_v0 : v0 < S.2.1) (hk_v0 : zzk S v0 = 14) : Met l y_Bd_create (Cond.code y_Bd_create prog_3_method_4_code 5 (some .int) :: zzW) { frames := 0, cells := 0, slots := 0, locals := 0 } (zzPc D bs A S M hz [.ref (bs + v0), .long v1]) (zzQc D bs A S out.2 hz (some (.int out.1))) 0 0 A := by
  refine zz_met [.ref (bs + v0), .long v1] (by decide) (Nat.le_of_ble_eq_true rfl) (fun p e s m args below meth c C hr hlocks hin hsz => ?_)
  refine zz_eq (lv' := [(0, .ref (bs + v0)), (1, .long v1)]) (st' := []) rfl rfl ?_
  unfold F_Bd_create at hF
  refine zi_aload_n C d_Bd_create_0 rfl 0 rfl ?_
  refine zi_getI C zc_4 (k := 1) (by decide) zw_248 rfl hn_v0 hk_v0 d_Bd_create_1 (fun _ _ _ => rfl) hF (fun x1 hF => ?_)
  refine zi_bipush (v := 12) C d_Bd_create_4 (by decide) ?_
  refine zi_icmp_lt (tgt := 11) C d_Bd_create_6 (by decide) hF (fun hF => ?_) (fun hF => ?_)
  · refine zi_aload_n C d_Bd_create_11 rfl 0 rfl ?_
    refine zi_getI C zc_4 (k := 1) (by decide) zw_248 rfl hn_v0 hk_v0 d_Bd_create_12 (fun _ _ _ => rfl) hF (fun x2 hF => ?_)
    refine zi_bipush (v := 6) C d_Bd_create_15 (by decide) ?_
    refine zi_imul C d_Bd_create_17 hF (fun x3 hF => ?_)
    refine zi_istore_n (lv' := [(3, .int x3), (0, .ref (bs + v0)), (1, .long v1)]) C d_Bd_create_18 rfl (by decide) rfl ?_
    refine zi_aload_n C d_Bd_create_19 rfl 1 rfl ?_
    refine zi_getR C zc_4 (k := 0) (by decide) zw_249 rfl hn_v0 hk_v0 d_Bd_create_20 (fun _ _ _ => rfl) hF (fun b4 hn_b4 hk_b4 hF => ?_)
    refine zi_iload_n C d_Bd_create_23 rfl 0 rfl ?_
    refine zi_lload_n C d_Bd_create_24 rfl 2 rfl ?_
    refine zi_last C hn_b4 hk_b4 d_Bd_create_25 hF (fun M hF => ?_)
    refine zi_iconst (v := 1) C d_Bd_create_26 (by decide) ?_
    refine zi_istore (lv' := [(4, .int (1 : Int32)), (3, .int x3), (0, .ref (bs + v0)), (1, .long v1)]) C d_Bd_create_27 (by decide) rfl ?_
    refine zz_sub [2, 1, 0] (lv' := [(0, .ref (bs + v0)), (3, .int x3), (4, .int (1 : Int32))]) rfl ?_
    exact g_Bd_create_29 C hlocks hr hin   _ _ v0 x3 (1 : Int32) hn_v0 hk_v0 hF
  · refine zi_iconst (v := -1) C d_Bd_create_9 (by decide) ?_
    exact zi_iret C hlocks hr d_Bd_create_10 (by cases hF; rfl) rfl (by cases hF; rfl) rfl
def F_Bs_object (S : zzS)  (M : zzM) (v0 : Nat) (v1 : Int32) : Option (Int32 × zzM) := zzref S 14 (zzR M v0 5) fun b1 => zzlet ((v1).toInt64) fun x2 => zzcall (F_Bd_create S M b1 x2) fun r3 M => some (r3, M)
set_option maxHeartbeats 4000000 in
set_option maxRecDepth 100000 in
theorem c_Bs_object {l : Launch} {D : zzD} {bs : Nat} {A : Nat → Prop} {S : zzS} {M : zzM} {hz : Nat} {out : Int32 × zzM} {v0 : Nat} {v1 : Int32}   (hF : F_Bs_object S  M v0 v1 = some out) (hn_v0 : v0 < S.2.1) (hk_v0 : zzk S v0 = 10) : Met l y_Bs_object (Cond.code y_Bs_object prog_1_method_4_code 2 (some .int) :: zzW) { frames := 1, cells := 0, slots := 0, locals := 24 } (zzPc D bs A S M hz [.ref (bs + v0), .int v1]) (zzQc D bs A S out.2 hz (some (.int out.1))) 0 0 A := by
  refine zz_met [.ref (bs + v0), .int v1] (by decide) (Nat.le_of_ble_eq_true rfl) (fun p e s m args below meth c C hr hlocks hin hsz => ?_)
  refine zz_eq (lv' := [(0, .ref (bs + v0)), (1, .int v1)]) (st' := []) rfl rfl ?_
  unfold F_Bs_object at hF
  refine zi_aload_n C d_Bs_object_0 rfl 0 rfl ?_
  refine zi_getR C zc_0 (k := 5) (by decide) zw_250 rfl hn_v0 hk_v0 d_Bs_object_1 (fun _ _ _ => rfl) hF (fun b1 hn_b1 hk_b1 hF => ?_)
  refine zi_iload_n C d_Bs_object_4 rfl 1 rfl ?_
  refine zi_i2l C d_Bs_object_5 hF (fun x2 hF => ?_)
  obtain ⟨r3, M, hqr3, hF⟩ := zzcall_e hF
  refine zi_callV_i (M2 := M) (r := r3) (n := 1) (As := [.long x2]) (st := []) C (c_Bd_create hqr3 hn_b1 hk_b1) zw_251 zw_252 (by decide +kernel) ⟨Nat.le_of_ble_eq_true rfl, Nat.le_of_ble_eq_true rfl⟩ rfl (Nat.le_of_ble_eq_true rfl) ⟨Nat.le_of_ble_eq_true rfl, Nat.le_of_ble_eq_true rfl⟩ zw_253 zw_254 zw_255 zc_4.1 hn_b1 hk_b1 rfl d_Bs_object_6 ?_
  exact zi_iret C hlocks hr d_Bs_object_9 (by cases hF; rfl) rfl (by cases hF; rfl) rfl
def F_Rp_foundAt_4_b (S : zzS)  (k4 : zzM → Nat → Int32 → Int32 → Int32 → Option (Int32 × zzM)) (M : zzM) (v0 : Nat) (v1 : Int32) (v2 : Int32) (v3 : Int32) : Option (Int32 × zzM) := if (12 : Int32) ≤ v3 then (some ((-1 : Int32), M)) else (zzlet (zzI M v0 6) fun x1 => zzlet (x1 >>> (v3 &&& 31)) fun x2 => zzlet (x2 &&& (1 : Int32)) fun x3 => if x3 = (1 : Int32) then (if v2 = v1 then (some (v3, M)) else (zzlet (v2 + (1 : Int32)) fun x5 => zzlet (v3 + (1 : Int32)) fun x6 => k4 M v0 v1 x5 x6)) else (zzlet (v3 + (1 : Int32)) fun x4 => k4 M v0 v1 v2 x4))
def F_Rp_foundAt_4 (S : zzS)   (n : Nat) : zzM → Nat → Int32 → Int32 → Int32 → Option (Int32 × zzM) := Nat.rec (fun _ _ _ _ _ => none) (fun _ k => F_Rp_foundAt_4_b S   k) n
set_option maxHeartbeats 4000000 in
set_option maxRecDepth 100000 in
theorem g_Rp_foundAt_4_b {p : Program} {l : Launch} {e : Env} {s : State} {m : MethodId} {args : Array Value} {below : List Frame} {meth : Method} {c : Code} {D : zzD} {bs : Nat} {A : Nat → Prop} {S : zzS} {hz : Nat} {out : Int32 × zzM}  (C : zzC p s m args c prog_7_method_7_code "BoardScript$Report" 4 D) (hlocks : meth.locks = false) (hr : meth.sig.returnType = (some .int)) (hin : meth.name = "foundAt")  {k4 : zzM → Nat → Int32 → Int32 → Int32 → Option (Int32 × zzM)} (hk4 : ∀ (M : zzM) (v0 : Nat) (v1 : Int32) (v2 : Int32) (v3 : Int32) (hn_v0 : v0 < S.2.1) (hk_v0 : zzk S v0 = 16), k4 M v0 v1 v2 v3 = some out → zzB p l e { frames := 0, cells := 0, slots := 0, locals := 0 } s m args below meth c 4 D bs A (MQ below (zzQc D bs A S out.2 hz (some (.int out.1))) args s 0 0 A) 0 0 S M hz 4 [(0, .ref (bs + v0)), (1, .int v1), (2, .int v2), (3, .int v3)] []) (M : zzM) (v0 : Nat) (v1 : Int32) (v2 : Int32) (v3 : Int32) (hn_v0 : v0 < S.2.1) (hk_v0 : zzk S v0 = 16) (hF : F_Rp_foundAt_4_b S  k4 M v0 v1 v2 v3 = some out) : zzB p l e { frames := 0, cells := 0, slots := 0, locals := 0 } s m args below meth c 4 D bs A (MQ below (zzQc D bs A S out.2 hz (some (.int out.1))) args s 0 0 A) 0 0 S M hz 4 [(0, .ref (bs + v0)), (1, .int v1), (2, .int v2), (3, .int v3)] [] := by
  unfold F_Rp_foundAt_4_b at hF
  refine zi_iload_n C d_Rp_foundAt_4 rfl 3 rfl ?_
  refine zi_bipush (v := 12) C d_Rp_foundAt_5 (by decide) ?_
  refine zi_icmp_ge (tgt := 38) C d_Rp_foundAt_7 (by decide) hF (fun hF => ?_) (fun hF => ?_)
  · refine zi_iconst (v := -1) C d_Rp_foundAt_38 (by decide) ?_
    exact zi_iret C hlocks hr d_Rp_foundAt_39 (by cases hF; rfl) rfl (by cases hF; rfl) rfl
  · refine zi_aload_n C d_Rp_foundAt_10 rfl 0 rfl ?_
    refine zi_getI C zc_6 (k := 6) (by decide) zw_256 rfl hn_v0 hk_v0 d_Rp_foundAt_11 (fun _ _ _ => rfl) hF (fun x1 hF => ?_)
    refine zi_iload_n C d_Rp_foundAt_14 rfl 3 rfl ?_
    refine zi_ishr C d_Rp_foundAt_15 hF (fun x2 hF => ?_)
    refine zi_iconst (v := 1) C d_Rp_foundAt_16 (by decide) ?_
    refine zi_iand C d_Rp_foundAt_17 hF (fun x3 hF => ?_)
    refine zi_iconst (v := 1) C d_Rp_foundAt_18 (by decide) ?_
    refine zi_icmp_ne (tgt := 32) C d_Rp_foundAt_19 (by decide) hF (fun hF => ?_) (fun hF => ?_)
    · refine zi_iinc (j := 3) (v0 := 1) C d_Rp_foundAt_32 rfl (by decide) (by decide) hF (fun x4 => [(3, .int x4), (0, .ref (bs + v0)), (1, .int v1), (2, .int v2)]) (fun _ => rfl) (fun x4 hF => ?_)
      refine zi_goto (tgt := 4) C d_Rp_foundAt_35 (by decide) ?_
      refine zz_sub [1, 2, 3, 0] (lv' := [(0, .ref (bs + v0)), (1, .int v1), (2, .int v2), (3, .int x4)]) rfl ?_
      exact hk4 _ v0 v1 v2 x4 hn_v0 hk_v0 hF
    · refine zi_iload_n C d_Rp_foundAt_22 rfl 2 rfl ?_
      refine zi_iload_n C d_Rp_foundAt_23 rfl 1 rfl ?_
      refine zi_icmp_ne (tgt := 29) C d_Rp_foundAt_24 (by decide) hF (fun hF => ?_) (fun hF => ?_)
      · refine zi_iinc (j := 2) (v0 := 1) C d_Rp_foundAt_29 rfl (by decide) (by decide) hF (fun x5 => [(2, .int x5), (0, .ref (bs + v0)), (1, .int v1), (3, .int v3)]) (fun _ => rfl) (fun x5 hF => ?_)
        refine zi_iinc (j := 3) (v0 := 1) C d_Rp_foundAt_32 rfl (by decide) (by decide) hF (fun x6 => [(3, .int x6), (2, .int x5), (0, .ref (bs + v0)), (1, .int v1)]) (fun _ => rfl) (fun x6 hF => ?_)
        refine zi_goto (tgt := 4) C d_Rp_foundAt_35 (by decide) ?_
        refine zz_sub [2, 3, 1, 0] (lv' := [(0, .ref (bs + v0)), (1, .int v1), (2, .int x5), (3, .int x6)]) rfl ?_
        exact hk4 _ v0 v1 x5 x6 hn_v0 hk_v0 hF
      · refine zi_iload_n C d_Rp_foundAt_27 rfl 3 rfl ?_
        exact zi_iret C hlocks hr d_Rp_foundAt_28 (by cases hF; rfl) rfl (by cases hF; rfl) rfl
set_option maxHeartbeats 4000000 in
set_option maxRecDepth 100000 in
theorem g_Rp_foundAt_4 {p : Program} {l : Launch} {e : Env} {s : State} {m : MethodId} {args : Array Value} {below : List Frame} {meth : Method} {c : Code} {D : zzD} {bs : Nat} {A : Nat → Prop} {S : zzS} {hz : Nat} {out : Int32 × zzM}  (C : zzC p s m args c prog_7_method_7_code "BoardScript$Report" 4 D) (hlocks : meth.locks = false) (hr : meth.sig.returnType = (some .int)) (hin : meth.name = "foundAt")    : ∀ (n : Nat) (M : zzM) (v0 : Nat) (v1 : Int32) (v2 : Int32) (v3 : Int32) (hn_v0 : v0 < S.2.1) (hk_v0 : zzk S v0 = 16) (hF : F_Rp_foundAt_4 S   n M v0 v1 v2 v3 = some out), zzB p l e { frames := 0, cells := 0, slots := 0, locals := 0 } s m args below meth c 4 D bs A (MQ below (zzQc D bs A S out.2 hz (some (.int out.1))) args s 0 0 A) 0 0 S M hz 4 [(0, .ref (bs + v0)), (1, .int v1), (2, .int v2), (3, .int v3)] [] := by
  intro n
  induction n with
  | zero => intro M v0 v1 v2 v3 hn_v0 hk_v0 hF; cases hF
  | succ n ih => intro M v0 v1 v2 v3 hn_v0 hk_v0 hF; exact g_Rp_foundAt_4_b C hlocks hr hin   ih M v0 v1 v2 v3 hn_v0 hk_v0 hF
def F_Rp_foundAt (S : zzS)  (M : zzM) (v0 : Nat) (v1 : Int32) : Option (Int32 × zzM) := F_Rp_foundAt_4 S   2000 M v0 v1 (0 : Int32) (0 : Int32)
set_option maxHeartbeats 4000000 in
set_option maxRecDepth 100000 in
theorem c_Rp_foundAt {l : Launch} {D : zzD} {bs : Nat} {A : Nat → Prop} {S : zzS} {M : zzM} {hz : Nat} {out : Int32 × zzM} {v0 : Nat} {v1 : Int32}   (hF : F_Rp_foundAt S  M v0 v1 = some out) (hn_v0 : v0 < S.2.1) (hk_v0 : zzk S v0 = 16) : Met l y_Rp_foundAt (Cond.code y_Rp_foundAt prog_7_method_7_code 4 (some .int) :: zzW) { frames := 0, cells := 0, slots := 0, locals := 0 } (zzPc D bs A S M hz [.ref (bs + v0), .int v1]) (zzQc D bs A S out.2 hz (some (.int out.1))) 0 0 A := by
  refine zz_met [.ref (bs + v0), .int v1] (by decide) (Nat.le_of_ble_eq_true rfl) (fun p e s m args below meth c C hr hlocks hin hsz => ?_)
  refine zz_eq (lv' := [(0, .ref (bs + v0)), (1, .int v1)]) (st' := []) rfl rfl ?_
  unfold F_Rp_foundAt at hF
  refine zi_iconst (v := 0) C d_Rp_foundAt_0 (by decide) ?_
  refine zi_istore_n (lv' := [(2, .int (0 : Int32)), (0, .ref (bs + v0)), (1, .int v1)]) C d_Rp_foundAt_1 rfl (by decide) rfl ?_
  refine zi_iconst (v := 0) C d_Rp_foundAt_2 (by decide) ?_
  refine zi_istore_n (lv' := [(3, .int (0 : Int32)), (2, .int (0 : Int32)), (0, .ref (bs + v0)), (1, .int v1)]) C d_Rp_foundAt_3 rfl (by decide) rfl ?_
  refine zz_sub [2, 3, 1, 0] (lv' := [(0, .ref (bs + v0)), (1, .int v1), (2, .int (0 : Int32)), (3, .int (0 : Int32))]) rfl ?_
  exact g_Rp_foundAt_4 C hlocks hr hin   _ _ v0 v1 (0 : Int32) (0 : Int32) hn_v0 hk_v0 hF
def F_Bs_query (S : zzS)  (M : zzM) (v0 : Nat) (v1 : Int32) : Option (Int32 × zzM) := zzref S 16 (zzR M v0 7) fun b1 => zzcall (F_Rp_foundAt S M b1 v1) fun r2 M => some (r2, M)
set_option maxHeartbeats 4000000 in
set_option maxRecDepth 100000 in
theorem c_Bs_query {l : Launch} {D : zzD} {bs : Nat} {A : Nat → Prop} {S : zzS} {M : zzM} {hz : Nat} {out : Int32 × zzM} {v0 : Nat} {v1 : Int32}   (hF : F_Bs_query S  M v0 v1 = some out) (hn_v0 : v0 < S.2.1) (hk_v0 : zzk S v0 = 10) : Met l y_Bs_query (Cond.code y_Bs_query prog_1_method_8_code 2 (some .int) :: zzW) { frames := 1, cells := 0, slots := 0, locals := 23 } (zzPc D bs A S M hz [.ref (bs + v0), .int v1]) (zzQc D bs A S out.2 hz (some (.int out.1))) 0 0 A := by
  refine zz_met [.ref (bs + v0), .int v1] (by decide) (Nat.le_of_ble_eq_true rfl) (fun p e s m args below meth c C hr hlocks hin hsz => ?_)
  refine zz_eq (lv' := [(0, .ref (bs + v0)), (1, .int v1)]) (st' := []) rfl rfl ?_
  unfold F_Bs_query at hF
  refine zi_aload_n C d_Bs_query_0 rfl 0 rfl ?_
  refine zi_getR C zc_0 (k := 7) (by decide) zw_257 rfl hn_v0 hk_v0 d_Bs_query_1 (fun _ _ _ => rfl) hF (fun b1 hn_b1 hk_b1 hF => ?_)
  refine zi_iload_n C d_Bs_query_4 rfl 1 rfl ?_
  obtain ⟨r2, M, hqr2, hF⟩ := zzcall_e hF
  refine zi_callV_i (M2 := M) (r := r2) (n := 1) (As := [.int v1]) (st := []) C (c_Rp_foundAt hqr2 hn_b1 hk_b1) zw_258 zw_259 (by decide +kernel) ⟨Nat.le_of_ble_eq_true rfl, Nat.le_of_ble_eq_true rfl⟩ rfl (Nat.le_of_ble_eq_true rfl) ⟨Nat.le_of_ble_eq_true rfl, Nat.le_of_ble_eq_true rfl⟩ zw_260 zw_261 zw_262 zc_6.1 hn_b1 hk_b1 rfl d_Bs_query_5 ?_
  exact zi_iret C hlocks hr d_Bs_query_8 (by cases hF; rfl) rfl (by cases hF; rfl) rfl
def F_Bs_closed (S : zzS)  (M : zzM) (v0 : Nat) (v1 : Int32) : Option (Int32 × zzM) := if v1 < 0 then (some ((-1 : Int32), M)) else (zzref S 16 (zzR M v0 7) fun b1 => zzlet (zzI M b1 5) fun x2 => if v1 < x2 then (zzref S 16 (zzR M v0 7) fun b3 => zzref S 1 (zzR M b3 4) fun b4 => zzix S b4 v1 (zzlet (zzI M b4 (v1).toNatClampNeg) fun x5 => some (x5, M))) else (some ((-1 : Int32), M)))
set_option maxHeartbeats 4000000 in
set_option maxRecDepth 100000 in
theorem c_Bs_closed {l : Launch} {D : zzD} {bs : Nat} {A : Nat → Prop} {S : zzS} {M : zzM} {hz : Nat} {out : Int32 × zzM} {v0 : Nat} {v1 : Int32}   (hF : F_Bs_closed S  M v0 v1 = some out) (hn_v0 : v0 < S.2.1) (hk_v0 : zzk S v0 = 10) : Met l y_Bs_closed (Cond.code y_Bs_closed prog_1_method_11_code 2 (some .int) :: zzW) { frames := 0, cells := 0, slots := 0, locals := 0 } (zzPc D bs A S M hz [.ref (bs + v0), .int v1]) (zzQc D bs A S out.2 hz (some (.int out.1))) 0 0 A := by
  refine zz_met [.ref (bs + v0), .int v1] (by decide) (Nat.le_of_ble_eq_true rfl) (fun p e s m args below meth c C hr hlocks hin hsz => ?_)
  refine zz_eq (lv' := [(0, .ref (bs + v0)), (1, .int v1)]) (st' := []) rfl rfl ?_
  unfold F_Bs_closed at hF
  refine zi_iload_n C d_Bs_closed_0 rfl 1 rfl ?_
  refine zi_if_lt (tgt := 15) C d_Bs_closed_1 (by decide) hF (fun hF => ?_) (fun hF => ?_)
  · refine zi_iconst (v := -1) C d_Bs_closed_15 (by decide) ?_
    refine zi_goto (tgt := 28) C d_Bs_closed_16 (by decide) ?_
    exact zi_iret C hlocks hr d_Bs_closed_28 (by cases hF; rfl) rfl (by cases hF; rfl) rfl
  · refine zi_iload_n C d_Bs_closed_4 rfl 1 rfl ?_
    refine zi_aload_n C d_Bs_closed_5 rfl 0 rfl ?_
    refine zi_getR C zc_0 (k := 7) (by decide) zw_257 rfl hn_v0 hk_v0 d_Bs_closed_6 (fun _ _ _ => rfl) hF (fun b1 hn_b1 hk_b1 hF => ?_)
    refine zi_getI C zc_6 (k := 5) (by decide) zw_263 rfl hn_b1 hk_b1 d_Bs_closed_9 (fun _ _ _ => rfl) hF (fun x2 hF => ?_)
    refine zi_icmp_lt (tgt := 19) C d_Bs_closed_12 (by decide) hF (fun hF => ?_) (fun hF => ?_)
    · refine zi_aload_n C d_Bs_closed_19 rfl 0 rfl ?_
      refine zi_getR C zc_0 (k := 7) (by decide) zw_257 rfl hn_v0 hk_v0 d_Bs_closed_20 (fun _ _ _ => rfl) hF (fun b3 hn_b3 hk_b3 hF => ?_)
      refine zi_getR C zc_6 (k := 4) (by decide) zw_264 rfl hn_b3 hk_b3 d_Bs_closed_23 (fun _ _ _ => rfl) hF (fun b4 hn_b4 hk_b4 hF => ?_)
      refine zi_iload_n C d_Bs_closed_26 rfl 1 rfl ?_
      refine zi_iald C hn_b4 hk_b4 d_Bs_closed_27 hF (fun x5 hF => ?_)
      exact zi_iret C hlocks hr d_Bs_closed_28 (by cases hF; rfl) rfl (by cases hF; rfl) rfl
    · refine zi_iconst (v := -1) C d_Bs_closed_15 (by decide) ?_
      refine zi_goto (tgt := 28) C d_Bs_closed_16 (by decide) ?_
      exact zi_iret C hlocks hr d_Bs_closed_28 (by cases hF; rfl) rfl (by cases hF; rfl) rfl
def F_Bs_restored (S : zzS)  (M : zzM) (v0 : Nat) : Option (Int32 × zzM) := zzref S 16 (zzR M v0 7) fun b1 => zzlet (zzI M b1 7) fun x2 => zzck (zzokZ x2) (some (x2, M))
set_option maxHeartbeats 4000000 in
set_option maxRecDepth 100000 in
theorem c_Bs_restored {l : Launch} {D : zzD} {bs : Nat} {A : Nat → Prop} {S : zzS} {M : zzM} {hz : Nat} {out : Int32 × zzM} {v0 : Nat}   (hF : F_Bs_restored S  M v0 = some out) (hn_v0 : v0 < S.2.1) (hk_v0 : zzk S v0 = 10) : Met l y_Bs_restored (Cond.code y_Bs_restored prog_1_method_12_code 1 (some .boolean) :: zzW) { frames := 0, cells := 0, slots := 0, locals := 0 } (zzPc D bs A S M hz [.ref (bs + v0)]) (zzQc D bs A S out.2 hz (some (.int out.1))) 0 0 A := by
  refine zz_met [.ref (bs + v0)] (by decide) (Nat.le_of_ble_eq_true rfl) (fun p e s m args below meth c C hr hlocks hin hsz => ?_)
  refine zz_eq (lv' := [(0, .ref (bs + v0))]) (st' := []) rfl rfl ?_
  unfold F_Bs_restored at hF
  refine zi_aload_n C d_Bs_restored_0 rfl 0 rfl ?_
  refine zi_getR C zc_0 (k := 7) (by decide) zw_257 rfl hn_v0 hk_v0 d_Bs_restored_1 (fun _ _ _ => rfl) hF (fun b1 hn_b1 hk_b1 hF => ?_)
  refine zi_getI C zc_6 (k := 7) (by decide) zw_265 rfl hn_b1 hk_b1 d_Bs_restored_4 (fun _ _ _ => rfl) hF (fun x2 hF => ?_)
  obtain ⟨hok, hF⟩ := zzck_e hF
  exact zi_zret C hlocks hr (zzokZ_n hok).1 d_Bs_restored_7 (by cases hF; rfl) rfl (by cases hF; rfl) rfl
def F_Rk_push (S : zzS)  (M : zzM) (v0 : Nat) (v1 : Int64) : Option (Unit × zzM) := zzlet (zzI M v0 3) fun x1 => if x1 < 0 then (some ((), M)) else (zzlet (zzI M v0 3) fun x2 => if (13 : Int32) ≤ x2 then (some ((), M)) else (zzref S 2 (zzR M v0 2) fun b3 => zzlet (zzI M v0 3) fun x4 => zzix S b3 x4 (zzlet (zzsL M b3 (x4).toNatClampNeg v1) fun M => zzlet (zzI M v0 3) fun x5 => zzlet (x5 + (1 : Int32)) fun x6 => zzlet (zzsI M v0 3 x6) fun M => some ((), M))))
set_option maxHeartbeats 4000000 in
set_option maxRecDepth 100000 in
theorem c_Rk_push {l : Launch} {D : zzD} {bs : Nat} {A : Nat → Prop} {S : zzS} {M : zzM} {hz : Nat} {out : Unit × zzM} {v0 : Nat} {v1 : Int64}   (hF : F_Rk_push S  M v0 v1 = some out) (hn_v0 : v0 < S.2.1) (hk_v0 : zzk S v0 = 15) : Met l y_Rk_push (Cond.code y_Rk_push prog_6_method_6_code 3 none :: zzW) { frames := 0, cells := 0, slots := 0, locals := 0 } (zzPc D bs A S M hz [.ref (bs + v0), .long v1]) (zzQc D bs A S out.2 hz none) 0 0 A := by
  refine zz_met [.ref (bs + v0), .long v1] (by decide) (Nat.le_of_ble_eq_true rfl) (fun p e s m args below meth c C hr hlocks hin hsz => ?_)
  refine zz_eq (lv' := [(0, .ref (bs + v0)), (1, .long v1)]) (st' := []) rfl rfl ?_
  unfold F_Rk_push at hF
  refine zi_aload_n C d_Rk_push_0 rfl 0 rfl ?_
  refine zi_getI C zc_5 (k := 3) (by decide) zw_266 rfl hn_v0 hk_v0 d_Rk_push_1 (fun _ _ _ => rfl) hF (fun x1 hF => ?_)
  refine zi_if_lt (tgt := 36) C d_Rk_push_4 (by decide) hF (fun hF => ?_) (fun hF => ?_)
  · exact zi_vret C hlocks hr d_Rk_push_36 rfl rfl (by cases hF; rfl) rfl
  · refine zi_aload_n C d_Rk_push_7 rfl 0 rfl ?_
    refine zi_getI C zc_5 (k := 3) (by decide) zw_266 rfl hn_v0 hk_v0 d_Rk_push_8 (fun _ _ _ => rfl) hF (fun x2 hF => ?_)
    refine zi_bipush (v := 13) C d_Rk_push_11 (by decide) ?_
    refine zi_icmp_ge (tgt := 36) C d_Rk_push_13 (by decide) hF (fun hF => ?_) (fun hF => ?_)
    · exact zi_vret C hlocks hr d_Rk_push_36 rfl rfl (by cases hF; rfl) rfl
    · refine zi_aload_n C d_Rk_push_16 rfl 0 rfl ?_
      refine zi_getR C zc_5 (k := 2) (by decide) zw_267 rfl hn_v0 hk_v0 d_Rk_push_17 (fun _ _ _ => rfl) hF (fun b3 hn_b3 hk_b3 hF => ?_)
      refine zi_aload_n C d_Rk_push_20 rfl 0 rfl ?_
      refine zi_getI C zc_5 (k := 3) (by decide) zw_266 rfl hn_v0 hk_v0 d_Rk_push_21 (fun _ _ _ => rfl) hF (fun x4 hF => ?_)
      refine zi_lload_n C d_Rk_push_24 rfl 1 rfl ?_
      refine zi_last C hn_b3 hk_b3 d_Rk_push_25 hF (fun M hF => ?_)
      refine zi_aload_n C d_Rk_push_26 rfl 0 rfl ?_
      refine zi_dup C d_Rk_push_27 rfl ?_
      refine zi_getI C zc_5 (k := 3) (by decide) zw_266 rfl hn_v0 hk_v0 d_Rk_push_28 (fun _ _ _ => rfl) hF (fun x5 hF => ?_)
      refine zi_iconst (v := 1) C d_Rk_push_31 (by decide) ?_
      refine zi_iadd C d_Rk_push_32 hF (fun x6 hF => ?_)
      refine zi_putI C zc_5 (k := 3) (by decide) zw_266 rfl (Or.inl rfl) hn_v0 hk_v0 d_Rk_push_33 rfl hF (fun M hF => ?_)
      exact zi_vret C hlocks hr d_Rk_push_36 rfl rfl (by cases hF; rfl) rfl
def F_Rk_pop (S : zzS)  (M : zzM) (v0 : Nat) : Option (Int64 × zzM) := zzlet (zzI M v0 3) fun x1 => if x1 ≤ 0 then (some ((0 : Int64), M)) else (zzlet (zzI M v0 3) fun x2 => if x2 ≤ (13 : Int32) then (zzlet (zzI M v0 3) fun x3 => zzlet (x3 - (1 : Int32)) fun x4 => zzlet (zzsI M v0 3 x4) fun M => zzref S 2 (zzR M v0 2) fun b5 => zzlet (zzI M v0 3) fun x6 => zzix S b5 x6 (zzlet (zzL M b5 (x6).toNatClampNeg) fun x7 => some (x7, M))) else (some ((0 : Int64), M)))
set_option maxHeartbeats 4000000 in
set_option maxRecDepth 100000 in
theorem c_Rk_pop {l : Launch} {D : zzD} {bs : Nat} {A : Nat → Prop} {S : zzS} {M : zzM} {hz : Nat} {out : Int64 × zzM} {v0 : Nat}   (hF : F_Rk_pop S  M v0 = some out) (hn_v0 : v0 < S.2.1) (hk_v0 : zzk S v0 = 15) : Met l y_Rk_pop (Cond.code y_Rk_pop prog_6_method_7_code 1 (some .long) :: zzW) { frames := 0, cells := 0, slots := 0, locals := 0 } (zzPc D bs A S M hz [.ref (bs + v0)]) (zzQc D bs A S out.2 hz (some (.long out.1))) 0 0 A := by
  refine zz_met [.ref (bs + v0)] (by decide) (Nat.le_of_ble_eq_true rfl) (fun p e s m args below meth c C hr hlocks hin hsz => ?_)
  refine zz_eq (lv' := [(0, .ref (bs + v0))]) (st' := []) rfl rfl ?_
  unfold F_Rk_pop at hF
  refine zi_aload_n C d_Rk_pop_0 rfl 0 rfl ?_
  refine zi_getI C zc_5 (k := 3) (by decide) zw_266 rfl hn_v0 hk_v0 d_Rk_pop_1 (fun _ _ _ => rfl) hF (fun x1 hF => ?_)
  refine zi_if_le (tgt := 16) C d_Rk_pop_4 (by decide) hF (fun hF => ?_) (fun hF => ?_)
  · refine zi_lconst (v := 0) C d_Rk_pop_16 (by decide) ?_
    exact zi_lret C hlocks hr d_Rk_pop_17 (by cases hF; rfl) rfl (by cases hF; rfl) rfl
  · refine zi_aload_n C d_Rk_pop_7 rfl 0 rfl ?_
    refine zi_getI C zc_5 (k := 3) (by decide) zw_266 rfl hn_v0 hk_v0 d_Rk_pop_8 (fun _ _ _ => rfl) hF (fun x2 hF => ?_)
    refine zi_bipush (v := 13) C d_Rk_pop_11 (by decide) ?_
    refine zi_icmp_le (tgt := 18) C d_Rk_pop_13 (by decide) hF (fun hF => ?_) (fun hF => ?_)
    · refine zi_aload_n C d_Rk_pop_18 rfl 0 rfl ?_
      refine zi_dup C d_Rk_pop_19 rfl ?_
      refine zi_getI C zc_5 (k := 3) (by decide) zw_266 rfl hn_v0 hk_v0 d_Rk_pop_20 (fun _ _ _ => rfl) hF (fun x3 hF => ?_)
      refine zi_iconst (v := 1) C d_Rk_pop_23 (by decide) ?_
      refine zi_isub C d_Rk_pop_24 hF (fun x4 hF => ?_)
      refine zi_putI C zc_5 (k := 3) (by decide) zw_266 rfl (Or.inl rfl) hn_v0 hk_v0 d_Rk_pop_25 rfl hF (fun M hF => ?_)
      refine zi_aload_n C d_Rk_pop_28 rfl 0 rfl ?_
      refine zi_getR C zc_5 (k := 2) (by decide) zw_267 rfl hn_v0 hk_v0 d_Rk_pop_29 (fun _ _ _ => rfl) hF (fun b5 hn_b5 hk_b5 hF => ?_)
      refine zi_aload_n C d_Rk_pop_32 rfl 0 rfl ?_
      refine zi_getI C zc_5 (k := 3) (by decide) zw_266 rfl hn_v0 hk_v0 d_Rk_pop_33 (fun _ _ _ => rfl) hF (fun x6 hF => ?_)
      refine zi_lald C hn_b5 hk_b5 d_Rk_pop_36 hF (fun x7 hF => ?_)
      exact zi_lret C hlocks hr d_Rk_pop_37 (by cases hF; rfl) rfl (by cases hF; rfl) rfl
    · refine zi_lconst (v := 0) C d_Rk_pop_16 (by decide) ?_
      exact zi_lret C hlocks hr d_Rk_pop_17 (by cases hF; rfl) rfl (by cases hF; rfl) rfl
def F_Bd_slotOf (S : zzS)  (M : zzM) (v0 : Nat) (v1 : Int64) (v3 : Int32) : Option (Int32 × zzM) := zzlet (lg_cmp v1 (0 : Int64)) fun x1 => if x1 < 0 then (some ((-1 : Int32), M)) else (zzlet (zzI M v0 1) fun x2 => zzlet ((x2).toInt64) fun x3 => zzlet (lg_cmp v1 x3) fun x4 => if 0 ≤ x4 then (some ((-1 : Int32), M)) else (if v3 < 0 then (some ((-1 : Int32), M)) else (if v3 < (6 : Int32) then (zzlet ((v1).toInt32) fun x5 => zzlet (x5 * (6 : Int32)) fun x6 => zzlet (x6 + v3) fun x7 => some (x7, M)) else (some ((-1 : Int32), M)))))
set_option maxHeartbeats 4000000 in
set_option maxRecDepth 100000 in
theorem c_Bd_slotOf {l : Launch} {D : zzD} {bs : Nat} {A : Nat → Prop} {S : zzS} {M : zzM} {hz : Nat} {out : Int32 × zzM} {v0 : Nat} {v1 : Int64} {v3 : Int32}   (hF : F_Bd_slotOf S  M v0 v1 v3 = some out) (hn_v0 : v0 < S.2.1) (hk_v0 : zzk S v0 = 14) : Met l y_Bd_slotOf (Cond.code y_Bd_slotOf prog_3_method_2_code 4 (some .int) :: zzW) { frames := 0, cells := 0, slots := 0, locals := 0 } (zzPc D bs A S M hz [.ref (bs + v0), .long v1, .int v3]) (zzQc D bs A S out.2 hz (some (.int out.1))) 0 0 A := by
  refine zz_met [.ref (bs + v0), .long v1, .int v3] (by decide) (Nat.le_of_ble_eq_true rfl) (fun p e s m args below meth c C hr hlocks hin hsz => ?_)
  refine zz_eq (lv' := [(0, .ref (bs + v0)), (1, .long v1), (3, .int v3)]) (st' := []) rfl rfl ?_
  unfold F_Bd_slotOf at hF
  refine zi_lload_n C d_Bd_slotOf_0 rfl 1 rfl ?_
  refine zi_lconst (v := 0) C d_Bd_slotOf_1 (by decide) ?_
  refine zi_lcmp C d_Bd_slotOf_2 hF (fun x1 hF => ?_)
  refine zi_if_lt (tgt := 26) C d_Bd_slotOf_3 (by decide) hF (fun hF => ?_) (fun hF => ?_)
  · refine zi_iconst (v := -1) C d_Bd_slotOf_26 (by decide) ?_
    exact zi_iret C hlocks hr d_Bd_slotOf_27 (by cases hF; rfl) rfl (by cases hF; rfl) rfl
  · refine zi_lload_n C d_Bd_slotOf_6 rfl 1 rfl ?_
    refine zi_aload_n C d_Bd_slotOf_7 rfl 0 rfl ?_
    refine zi_getI C zc_4 (k := 1) (by decide) zw_248 rfl hn_v0 hk_v0 d_Bd_slotOf_8 (fun _ _ _ => rfl) hF (fun x2 hF => ?_)
    refine zi_i2l C d_Bd_slotOf_11 hF (fun x3 hF => ?_)
    refine zi_lcmp C d_Bd_slotOf_12 hF (fun x4 hF => ?_)
    refine zi_if_ge (tgt := 26) C d_Bd_slotOf_13 (by decide) hF (fun hF => ?_) (fun hF => ?_)
    · refine zi_iconst (v := -1) C d_Bd_slotOf_26 (by decide) ?_
      exact zi_iret C hlocks hr d_Bd_slotOf_27 (by cases hF; rfl) rfl (by cases hF; rfl) rfl
    · refine zi_iload_n C d_Bd_slotOf_16 rfl 2 rfl ?_
      refine zi_if_lt (tgt := 26) C d_Bd_slotOf_17 (by decide) hF (fun hF => ?_) (fun hF => ?_)
      · refine zi_iconst (v := -1) C d_Bd_slotOf_26 (by decide) ?_
        exact zi_iret C hlocks hr d_Bd_slotOf_27 (by cases hF; rfl) rfl (by cases hF; rfl) rfl
      · refine zi_iload_n C d_Bd_slotOf_20 rfl 2 rfl ?_
        refine zi_bipush (v := 6) C d_Bd_slotOf_21 (by decide) ?_
        refine zi_icmp_lt (tgt := 28) C d_Bd_slotOf_23 (by decide) hF (fun hF => ?_) (fun hF => ?_)
        · refine zi_lload_n C d_Bd_slotOf_28 rfl 1 rfl ?_
          refine zi_l2i C d_Bd_slotOf_29 hF (fun x5 hF => ?_)
          refine zi_bipush (v := 6) C d_Bd_slotOf_30 (by decide) ?_
          refine zi_imul C d_Bd_slotOf_32 hF (fun x6 hF => ?_)
          refine zi_iload_n C d_Bd_slotOf_33 rfl 2 rfl ?_
          refine zi_iadd C d_Bd_slotOf_34 hF (fun x7 hF => ?_)
          exact zi_iret C hlocks hr d_Bd_slotOf_35 (by cases hF; rfl) rfl (by cases hF; rfl) rfl
        · refine zi_iconst (v := -1) C d_Bd_slotOf_26 (by decide) ?_
          exact zi_iret C hlocks hr d_Bd_slotOf_27 (by cases hF; rfl) rfl (by cases hF; rfl) rfl
def F_Rk_cell (S : zzS)  (M : zzM) (v0 : Nat) (v1 : Option Nat) (v2 : Int32) : Option (Int64 × zzM) := if v2 < 0 then (zzlet (zzsI M v0 4 (2 : Int32)) fun M => some ((0 : Int64), M)) else (zzopt S 2 v1 (none) (fun b1 => zzlet (Int32.ofNat (zzn S b1)) fun x2 => if v2 < x2 then (zzix S b1 v2 (zzlet (zzL M b1 (v2).toNatClampNeg) fun x3 => some (x3, M))) else (zzlet (zzsI M v0 4 (2 : Int32)) fun M => some ((0 : Int64), M))))
set_option maxHeartbeats 4000000 in
set_option maxRecDepth 100000 in
theorem c_Rk_cell {l : Launch} {D : zzD} {bs : Nat} {A : Nat → Prop} {S : zzS} {M : zzM} {hz : Nat} {out : Int64 × zzM} {v0 : Nat} {v1 : Option Nat} {v2 : Int32}   (hF : F_Rk_cell S  M v0 v1 v2 = some out) (hn_v0 : v0 < S.2.1) (hk_v0 : zzk S v0 = 15) : Met l y_Rk_cell (Cond.code y_Rk_cell prog_6_method_5_code 3 (some .long) :: zzW) { frames := 0, cells := 0, slots := 0, locals := 0 } (zzPc D bs A S M hz [.ref (bs + v0), zzrf bs v1, .int v2]) (zzQc D bs A S out.2 hz (some (.long out.1))) 0 0 A := by
  refine zz_met [.ref (bs + v0), zzrf bs v1, .int v2] (by decide) (by cases v1 <;> exact Nat.le_of_ble_eq_true rfl) (fun p e s m args below meth c C hr hlocks hin hsz => ?_)
  refine zz_eq (lv' := [(0, .ref (bs + v0)), (1, zzrf bs v1), (2, .int v2)]) (st' := []) (by cases v1 <;> rfl) rfl ?_
  unfold F_Rk_cell at hF
  refine zi_iload_n C d_Rk_cell_0 rfl 2 rfl ?_
  refine zi_if_lt (tgt := 10) C d_Rk_cell_1 (by decide) hF (fun hF => ?_) (fun hF => ?_)
  · refine zi_aload_n C d_Rk_cell_10 rfl 0 rfl ?_
    refine zi_iconst (v := 2) C d_Rk_cell_11 (by decide) ?_
    refine zi_putI C zc_5 (k := 4) (by decide) zw_268 rfl (Or.inl rfl) hn_v0 hk_v0 d_Rk_cell_12 rfl hF (fun M hF => ?_)
    refine zi_lconst (v := 0) C d_Rk_cell_15 (by decide) ?_
    exact zi_lret C hlocks hr d_Rk_cell_16 (by cases hF; rfl) rfl (by cases hF; rfl) rfl
  · refine zi_iload_n C d_Rk_cell_4 rfl 2 rfl ?_
    refine zi_aload_nO C d_Rk_cell_5 rfl 1 rfl ?_
    rcases zzopt_e hF with ⟨hv0, hF⟩ | ⟨b1, hv0, hn_b1, hk_b1, hF⟩
    · refine zz_eq (lv' := [(0, .ref (bs + v0)), (1, .null), (2, .int v2)]) (st' := [.null, .int v2]) (by first | rfl | (rw [hv0]; rfl) | (rw [hv0]; done)) (by first | rfl | (rw [hv0]; rfl) | (rw [hv0]; done)) ?_
      cases hF
    · refine zz_eq (lv' := [(0, .ref (bs + v0)), (1, .ref (bs + b1)), (2, .int v2)]) (st' := [.ref (bs + b1), .int v2]) (by first | rfl | (rw [hv0]; rfl) | (rw [hv0]; done)) (by first | rfl | (rw [hv0]; rfl) | (rw [hv0]; done)) ?_
      refine zi_alen C hn_b1 hk_b1 (by decide) (by decide) d_Rk_cell_6 hF (fun x2 hF => ?_)
      refine zi_icmp_lt (tgt := 17) C d_Rk_cell_7 (by decide) hF (fun hF => ?_) (fun hF => ?_)
      · refine zi_aload_n C d_Rk_cell_17 rfl 1 rfl ?_
        refine zi_iload_n C d_Rk_cell_18 rfl 2 rfl ?_
        refine zi_lald C hn_b1 hk_b1 d_Rk_cell_19 hF (fun x3 hF => ?_)
        exact zi_lret C hlocks hr d_Rk_cell_20 (by cases hF; rfl) rfl (by cases hF; rfl) rfl
      · refine zi_aload_n C d_Rk_cell_10 rfl 0 rfl ?_
        refine zi_iconst (v := 2) C d_Rk_cell_11 (by decide) ?_
        refine zi_putI C zc_5 (k := 4) (by decide) zw_268 rfl (Or.inl rfl) hn_v0 hk_v0 d_Rk_cell_12 rfl hF (fun M hF => ?_)
        refine zi_lconst (v := 0) C d_Rk_cell_15 (by decide) ?_
        exact zi_lret C hlocks hr d_Rk_cell_16 (by cases hF; rfl) rfl (by cases hF; rfl) rfl
def F_Bd_placeOf (S : zzS)  (M : zzM) (v0 : Nat) (v1 : Int64) : Option (Int32 × zzM) := zzlet (lg_cmp v1 (0 : Int64)) fun x1 => if x1 < 0 then (some ((-1 : Int32), M)) else (zzlet (zzI M v0 3) fun x2 => zzlet ((x2).toInt64) fun x3 => zzlet (lg_cmp v1 x3) fun x4 => if x4 < 0 then (zzlet ((v1).toInt32) fun x5 => some (x5, M)) else (some ((-1 : Int32), M)))
set_option maxHeartbeats 4000000 in
set_option maxRecDepth 100000 in
theorem c_Bd_placeOf {l : Launch} {D : zzD} {bs : Nat} {A : Nat → Prop} {S : zzS} {M : zzM} {hz : Nat} {out : Int32 × zzM} {v0 : Nat} {v1 : Int64}   (hF : F_Bd_placeOf S  M v0 v1 = some out) (hn_v0 : v0 < S.2.1) (hk_v0 : zzk S v0 = 14) : Met l y_Bd_placeOf (Cond.code y_Bd_placeOf prog_3_method_3_code 3 (some .int) :: zzW) { frames := 0, cells := 0, slots := 0, locals := 0 } (zzPc D bs A S M hz [.ref (bs + v0), .long v1]) (zzQc D bs A S out.2 hz (some (.int out.1))) 0 0 A := by
  refine zz_met [.ref (bs + v0), .long v1] (by decide) (Nat.le_of_ble_eq_true rfl) (fun p e s m args below meth c C hr hlocks hin hsz => ?_)
  refine zz_eq (lv' := [(0, .ref (bs + v0)), (1, .long v1)]) (st' := []) rfl rfl ?_
  unfold F_Bd_placeOf at hF
  refine zi_lload_n C d_Bd_placeOf_0 rfl 1 rfl ?_
  refine zi_lconst (v := 0) C d_Bd_placeOf_1 (by decide) ?_
  refine zi_lcmp C d_Bd_placeOf_2 hF (fun x1 hF => ?_)
  refine zi_if_lt (tgt := 16) C d_Bd_placeOf_3 (by decide) hF (fun hF => ?_) (fun hF => ?_)
  · refine zi_iconst (v := -1) C d_Bd_placeOf_16 (by decide) ?_
    refine zi_goto (tgt := 22) C d_Bd_placeOf_17 (by decide) ?_
    exact zi_iret C hlocks hr d_Bd_placeOf_22 (by cases hF; rfl) rfl (by cases hF; rfl) rfl
  · refine zi_lload_n C d_Bd_placeOf_6 rfl 1 rfl ?_
    refine zi_aload_n C d_Bd_placeOf_7 rfl 0 rfl ?_
    refine zi_getI C zc_4 (k := 3) (by decide) zw_269 rfl hn_v0 hk_v0 d_Bd_placeOf_8 (fun _ _ _ => rfl) hF (fun x2 hF => ?_)
    refine zi_i2l C d_Bd_placeOf_11 hF (fun x3 hF => ?_)
    refine zi_lcmp C d_Bd_placeOf_12 hF (fun x4 hF => ?_)
    refine zi_if_lt (tgt := 20) C d_Bd_placeOf_13 (by decide) hF (fun hF => ?_) (fun hF => ?_)
    · refine zi_lload_n C d_Bd_placeOf_20 rfl 1 rfl ?_
      refine zi_l2i C d_Bd_placeOf_21 hF (fun x5 hF => ?_)
      exact zi_iret C hlocks hr d_Bd_placeOf_22 (by cases hF; rfl) rfl (by cases hF; rfl) rfl
    · refine zi_iconst (v := -1) C d_Bd_placeOf_16 (by decide) ?_
      refine zi_goto (tgt := 22) C d_Bd_placeOf_17 (by decide) ?_
      exact zi_iret C hlocks hr d_Bd_placeOf_22 (by cases hF; rfl) rfl (by cases hF; rfl) rfl
def F_Rk_joined (S : zzS)  (M : zzM) (v0 : Nat) (v1 : Int32) (v2 : Int64) (v4 : Int64) : Option (Int64 × zzM) := if v1 = (42 : Int32) then (zzlet (v2 * v4) fun x2 => some (x2, M)) else (if v1 = (43 : Int32) then (zzlet (v2 + v4) fun x4 => some (x4, M)) else (if v1 = (45 : Int32) then (zzlet (v2 - v4) fun x6 => some (x6, M)) else (if v1 = (60 : Int32) then (zzlet (lg_cmp v2 v4) fun x8 => if 0 ≤ x8 then (some ((0 : Int64), M)) else (some ((1 : Int64), M))) else (if v1 = (61 : Int32) then (zzlet (lg_cmp v2 v4) fun x10 => if x10 = 0 then (some ((1 : Int64), M)) else (some ((0 : Int64), M))) else (zzlet (lg_cmp v4 (0 : Int64)) fun x11 => if x11 = 0 then (zzlet (zzsI M v0 4 (1 : Int32)) fun M => some ((0 : Int64), M)) else (if v1 = (47 : Int32) then (zzck (!(v4 == 0)) (zzlet (v2 / v4) fun x13 => some (x13, M))) else (zzck (!(v4 == 0)) (zzlet (v2 - v2 / v4 * v4) fun x12 => some (x12, M)))))))))
set_option maxHeartbeats 4000000 in
set_option maxRecDepth 100000 in
theorem c_Rk_joined {l : Launch} {D : zzD} {bs : Nat} {A : Nat → Prop} {S : zzS} {M : zzM} {hz : Nat} {out : Int64 × zzM} {v0 : Nat} {v1 : Int32} {v2 : Int64} {v4 : Int64}   (hF : F_Rk_joined S  M v0 v1 v2 v4 = some out) (hn_v0 : v0 < S.2.1) (hk_v0 : zzk S v0 = 15) : Met l y_Rk_joined (Cond.code y_Rk_joined prog_6_method_4_code 6 (some .long) :: zzW) { frames := 0, cells := 0, slots := 0, locals := 0 } (zzPc D bs A S M hz [.ref (bs + v0), .int v1, .long v2, .long v4]) (zzQc D bs A S out.2 hz (some (.long out.1))) 0 0 A := by
  refine zz_met [.ref (bs + v0), .int v1, .long v2, .long v4] (by decide) (Nat.le_of_ble_eq_true rfl) (fun p e s m args below meth c C hr hlocks hin hsz => ?_)
  refine zz_eq (lv' := [(0, .ref (bs + v0)), (1, .int v1), (2, .long v2), (4, .long v4)]) (st' := []) rfl rfl ?_
  unfold F_Rk_joined at hF
  refine zi_iload_n C d_Rk_joined_0 rfl 1 rfl ?_
  by_cases hs1 : v1 = (42 : Int32)
  · rw [if_pos hs1] at hF
    refine zi_lookup C d_Rk_joined_1 (by decide) 61 62 (by rw [hs1]; decide +kernel) (by decide) ?_
    refine zi_lload_n C d_Rk_joined_62 rfl 2 rfl ?_
    refine zi_lload C d_Rk_joined_63 3 rfl ?_
    refine zi_lmul C d_Rk_joined_65 hF (fun x2 hF => ?_)
    exact zi_lret C hlocks hr d_Rk_joined_66 (by cases hF; rfl) rfl (by cases hF; rfl) rfl
  · rw [if_neg hs1] at hF
    by_cases hs3 : v1 = (43 : Int32)
    · rw [if_pos hs3] at hF
      refine zi_lookup C d_Rk_joined_1 (by decide) 51 52 (by rw [hs3]; decide +kernel) (by decide) ?_
      refine zi_lload_n C d_Rk_joined_52 rfl 2 rfl ?_
      refine zi_lload C d_Rk_joined_53 3 rfl ?_
      refine zi_ladd C d_Rk_joined_55 hF (fun x4 hF => ?_)
      exact zi_lret C hlocks hr d_Rk_joined_56 (by cases hF; rfl) rfl (by cases hF; rfl) rfl
    · rw [if_neg hs3] at hF
      by_cases hs5 : v1 = (45 : Int32)
      · rw [if_pos hs5] at hF
        refine zi_lookup C d_Rk_joined_1 (by decide) 56 57 (by rw [hs5]; decide +kernel) (by decide) ?_
        refine zi_lload_n C d_Rk_joined_57 rfl 2 rfl ?_
        refine zi_lload C d_Rk_joined_58 3 rfl ?_
        refine zi_lsub C d_Rk_joined_60 hF (fun x6 hF => ?_)
        exact zi_lret C hlocks hr d_Rk_joined_61 (by cases hF; rfl) rfl (by cases hF; rfl) rfl
      · rw [if_neg hs5] at hF
        by_cases hs7 : v1 = (60 : Int32)
        · rw [if_pos hs7] at hF
          refine zi_lookup C d_Rk_joined_1 (by decide) 66 67 (by rw [hs7]; decide +kernel) (by decide) ?_
          refine zi_lload_n C d_Rk_joined_67 rfl 2 rfl ?_
          refine zi_lload C d_Rk_joined_68 3 rfl ?_
          refine zi_lcmp C d_Rk_joined_70 hF (fun x8 hF => ?_)
          refine zi_if_ge (tgt := 78) C d_Rk_joined_71 (by decide) hF (fun hF => ?_) (fun hF => ?_)
          · refine zi_lconst (v := 0) C d_Rk_joined_78 (by decide) ?_
            exact zi_lret C hlocks hr d_Rk_joined_79 (by cases hF; rfl) rfl (by cases hF; rfl) rfl
          · refine zi_lconst (v := 1) C d_Rk_joined_74 (by decide) ?_
            refine zi_goto (tgt := 79) C d_Rk_joined_75 (by decide) ?_
            exact zi_lret C hlocks hr d_Rk_joined_79 (by cases hF; rfl) rfl (by cases hF; rfl) rfl
        · rw [if_neg hs7] at hF
          by_cases hs9 : v1 = (61 : Int32)
          · rw [if_pos hs9] at hF
            refine zi_lookup C d_Rk_joined_1 (by decide) 79 80 (by rw [hs9]; decide +kernel) (by decide) ?_
            refine zi_lload_n C d_Rk_joined_80 rfl 2 rfl ?_
            refine zi_lload C d_Rk_joined_81 3 rfl ?_
            refine zi_lcmp C d_Rk_joined_83 hF (fun x10 hF => ?_)
            refine zi_if_ne (tgt := 91) C d_Rk_joined_84 (by decide) hF (fun hF => ?_) (fun hF => ?_)
            · refine zi_lconst (v := 0) C d_Rk_joined_91 (by decide) ?_
              exact zi_lret C hlocks hr d_Rk_joined_92 (by cases hF; rfl) rfl (by cases hF; rfl) rfl
            · refine zi_lconst (v := 1) C d_Rk_joined_87 (by decide) ?_
              refine zi_goto (tgt := 92) C d_Rk_joined_88 (by decide) ?_
              exact zi_lret C hlocks hr d_Rk_joined_92 (by cases hF; rfl) rfl (by cases hF; rfl) rfl
          · rw [if_neg hs9] at hF
            refine zi_lookup C d_Rk_joined_1 (by decide) 92 93 ((lv_osw hs1 (by decide)).trans ((lv_osw hs3 (by decide)).trans ((lv_osw hs5 (by decide)).trans ((lv_osw hs7 (by decide)).trans ((lv_osw hs9 (by decide)).trans (rfl)))))) (by decide) ?_
            refine zi_lload C d_Rk_joined_93 3 rfl ?_
            refine zi_lconst (v := 0) C d_Rk_joined_95 (by decide) ?_
            refine zi_lcmp C d_Rk_joined_96 hF (fun x11 hF => ?_)
            refine zi_if_ne (tgt := 107) C d_Rk_joined_97 (by decide) hF (fun hF => ?_) (fun hF => ?_)
            · refine zi_iload_n C d_Rk_joined_107 rfl 1 rfl ?_
              refine zi_bipush (v := 47) C d_Rk_joined_108 (by decide) ?_
              refine zi_icmp_ne (tgt := 120) C d_Rk_joined_110 (by decide) hF (fun hF => ?_) (fun hF => ?_)
              · refine zi_lload_n C d_Rk_joined_120 rfl 2 rfl ?_
                refine zi_lload C d_Rk_joined_121 3 rfl ?_
                refine zi_lrem C d_Rk_joined_123 hF (fun x12 hF => ?_)
                exact zi_lret C hlocks hr d_Rk_joined_124 (by cases hF; rfl) rfl (by cases hF; rfl) rfl
              · refine zi_lload_n C d_Rk_joined_113 rfl 2 rfl ?_
                refine zi_lload C d_Rk_joined_114 3 rfl ?_
                refine zi_ldiv C d_Rk_joined_116 hF (fun x13 hF => ?_)
                refine zi_goto (tgt := 124) C d_Rk_joined_117 (by decide) ?_
                exact zi_lret C hlocks hr d_Rk_joined_124 (by cases hF; rfl) rfl (by cases hF; rfl) rfl
            · refine zi_aload_n C d_Rk_joined_100 rfl 0 rfl ?_
              refine zi_iconst (v := 1) C d_Rk_joined_101 (by decide) ?_
              refine zi_putI C zc_5 (k := 4) (by decide) zw_268 rfl (Or.inl rfl) hn_v0 hk_v0 d_Rk_joined_102 rfl hF (fun M hF => ?_)
              refine zi_lconst (v := 0) C d_Rk_joined_105 (by decide) ?_
              exact zi_lret C hlocks hr d_Rk_joined_106 (by cases hF; rfl) rfl (by cases hF; rfl) rfl
def F_Rk_reckon (S : zzS)  (M : zzM) (v0 : Nat) (v1 : Int32) (v2 : Int32) : Option (Unit × zzM) := if v1 = (35 : Int32) then (zzref S 14 (zzR M v0 0) fun b2 => zzlet (zzI M b2 1) fun x3 => zzlet ((x3).toInt64) fun x4 => zzcall (F_Rk_push S M v0 x4) fun r5 M => some ((), M)) else (if v1 = (39 : Int32) then (zzref S 14 (zzR M v0 0) fun b7 => zzref S 2 (zzR M b7 2) fun b8 => zzref S 14 (zzR M v0 0) fun b9 => zzcall (F_Rk_pop S M v0) fun r10 M => zzcall (F_Bd_placeOf S M b9 r10) fun r11 M => zzcall (F_Rk_cell S M v0 (some b8) r11) fun r12 M => zzcall (F_Rk_push S M v0 r12) fun r13 M => some ((), M)) else (if v1 = (64 : Int32) then (zzref S 14 (zzR M v0 0) fun b15 => zzref S 2 (zzR M b15 0) fun b16 => zzref S 14 (zzR M v0 0) fun b17 => zzcall (F_Rk_pop S M v0) fun r18 M => zzcall (F_Bd_slotOf S M b17 r18 v2) fun r19 M => zzcall (F_Rk_cell S M v0 (some b16) r19) fun r20 M => zzcall (F_Rk_push S M v0 r20) fun r21 M => some ((), M)) else (if v1 = (110 : Int32) then (zzlet ((v2).toInt64) fun x23 => zzcall (F_Rk_push S M v0 x23) fun r24 M => some ((), M)) else (if v1 = (118 : Int32) then (if v2 < 0 then (zzcall (F_Rk_push S M v0 (0 : Int64)) fun r26 M => some ((), M)) else (if v2 < (26 : Int32) then (zzref S 2 (zzR M v0 1) fun b27 => zzix S b27 v2 (zzlet (zzL M b27 (v2).toNatClampNeg) fun x28 => zzcall (F_Rk_push S M v0 x28) fun r29 M => some ((), M))) else (zzcall (F_Rk_push S M v0 (0 : Int64)) fun r30 M => some ((), M)))) else (if v1 = (126 : Int32) then (zzcall (F_Rk_pop S M v0) fun r32 M => zzlet (-r32) fun x33 => zzcall (F_Rk_push S M v0 x33) fun r34 M => some ((), M)) else (zzcall (F_Rk_pop S M v0) fun r35 M => zzcall (F_Rk_pop S M v0) fun r36 M => zzcall (F_Rk_joined S M v0 v1 r36 r35) fun r37 M => zzcall (F_Rk_push S M v0 r37) fun r38 M => some ((), M)))))))
set_option maxHeartbeats 4000000 in
set_option maxRecDepth 100000 in
theorem c_Rk_reckon {l : Launch} {D : zzD} {bs : Nat} {A : Nat → Prop} {S : zzS} {M : zzM} {hz : Nat} {out : Unit × zzM} {v0 : Nat} {v1 : Int32} {v2 : Int32}   (hF : F_Rk_reckon S  M v0 v1 v2 = some out) (hn_v0 : v0 < S.2.1) (hk_v0 : zzk S v0 = 15) : Met l y_Rk_reckon (Cond.code y_Rk_reckon prog_6_method_3_code 7 none :: zzW) { frames := 1, cells := 0, slots := 0, locals := 25 } (zzPc D bs A S M hz [.ref (bs + v0), .int v1, .int v2]) (zzQc D bs A S out.2 hz none) 0 0 A := by
  refine zz_met [.ref (bs + v0), .int v1, .int v2] (by decide) (Nat.le_of_ble_eq_true rfl) (fun p e s m args below meth c C hr hlocks hin hsz => ?_)
  refine zz_eq (lv' := [(0, .ref (bs + v0)), (1, .int v1), (2, .int v2)]) (st' := []) rfl rfl ?_
  unfold F_Rk_reckon at hF
  refine zi_iload_n C d_Rk_reckon_0 rfl 1 rfl ?_
  by_cases hs1 : v1 = (35 : Int32)
  · rw [if_pos hs1] at hF
    refine zi_lookup C d_Rk_reckon_1 (by decide) 95 96 (by rw [hs1]; decide +kernel) (by decide) ?_
    refine zi_aload_n C d_Rk_reckon_96 rfl 0 rfl ?_
    refine zi_aload_n C d_Rk_reckon_97 rfl 0 rfl ?_
    refine zi_getR C zc_5 (k := 0) (by decide) zw_270 rfl hn_v0 hk_v0 d_Rk_reckon_98 (fun _ _ _ => rfl) hF (fun b2 hn_b2 hk_b2 hF => ?_)
    refine zi_getI C zc_4 (k := 1) (by decide) zw_271 rfl hn_b2 hk_b2 d_Rk_reckon_101 (fun _ _ _ => rfl) hF (fun x3 hF => ?_)
    refine zi_i2l C d_Rk_reckon_104 hF (fun x4 hF => ?_)
    obtain ⟨r5, M, hqr5, hF⟩ := zzcall_e hF
    refine zi_callV_v (M2 := M) (n := 1) (As := [.long x4]) (st := []) C (c_Rk_push hqr5 hn_v0 hk_v0) zw_272 zw_273 (by decide +kernel) ⟨Nat.le_of_ble_eq_true rfl, Nat.le_of_ble_eq_true rfl⟩ rfl (Nat.le_of_ble_eq_true rfl) ⟨Nat.le_of_ble_eq_true rfl, Nat.le_of_ble_eq_true rfl⟩ zw_274 zw_275 zw_276 zc_5.1 hn_v0 hk_v0 rfl d_Rk_reckon_105 ?_
    refine zi_goto (tgt := 205) C d_Rk_reckon_108 (by decide) ?_
    exact zi_vret C hlocks hr d_Rk_reckon_205 rfl rfl (by cases hF; rfl) rfl
  · rw [if_neg hs1] at hF
    by_cases hs6 : v1 = (39 : Int32)
    · rw [if_pos hs6] at hF
      refine zi_lookup C d_Rk_reckon_1 (by decide) 152 153 (by rw [hs6]; decide +kernel) (by decide) ?_
      refine zi_aload_n C d_Rk_reckon_153 rfl 0 rfl ?_
      refine zi_aload_n C d_Rk_reckon_154 rfl 0 rfl ?_
      refine zi_aload_n C d_Rk_reckon_155 rfl 0 rfl ?_
      refine zi_getR C zc_5 (k := 0) (by decide) zw_270 rfl hn_v0 hk_v0 d_Rk_reckon_156 (fun _ _ _ => rfl) hF (fun b7 hn_b7 hk_b7 hF => ?_)
      refine zi_getR C zc_4 (k := 2) (by decide) zw_277 rfl hn_b7 hk_b7 d_Rk_reckon_159 (fun _ _ _ => rfl) hF (fun b8 hn_b8 hk_b8 hF => ?_)
      refine zi_aload_n C d_Rk_reckon_162 rfl 0 rfl ?_
      refine zi_getR C zc_5 (k := 0) (by decide) zw_270 rfl hn_v0 hk_v0 d_Rk_reckon_163 (fun _ _ _ => rfl) hF (fun b9 hn_b9 hk_b9 hF => ?_)
      refine zi_aload_n C d_Rk_reckon_166 rfl 0 rfl ?_
      obtain ⟨r10, M, hqr10, hF⟩ := zzcall_e hF
      refine zi_callV_l (M2 := M) (r := r10) (n := 0) (As := []) (st := [.ref (bs + b9), .ref (bs + b8), .ref (bs + v0), .ref (bs + v0)]) C (c_Rk_pop hqr10 hn_v0 hk_v0) zw_278 zw_273 (by decide +kernel) ⟨Nat.le_of_ble_eq_true rfl, Nat.le_of_ble_eq_true rfl⟩ rfl (Nat.le_of_ble_eq_true rfl) ⟨Nat.le_of_ble_eq_true rfl, Nat.le_of_ble_eq_true rfl⟩ zw_279 zw_280 zw_281 zc_5.1 hn_v0 hk_v0 rfl d_Rk_reckon_167 ?_
      obtain ⟨r11, M, hqr11, hF⟩ := zzcall_e hF
      refine zi_callV_i (M2 := M) (r := r11) (n := 1) (As := [.long r10]) (st := [.ref (bs + b8), .ref (bs + v0), .ref (bs + v0)]) C (c_Bd_placeOf hqr11 hn_b9 hk_b9) zw_282 zw_252 (by decide +kernel) ⟨Nat.le_of_ble_eq_true rfl, Nat.le_of_ble_eq_true rfl⟩ rfl (Nat.le_of_ble_eq_true rfl) ⟨Nat.le_of_ble_eq_true rfl, Nat.le_of_ble_eq_true rfl⟩ zw_283 zw_284 zw_285 zc_4.1 hn_b9 hk_b9 rfl d_Rk_reckon_170 ?_
      obtain ⟨r12, M, hqr12, hF⟩ := zzcall_e hF
      refine zi_callV_l (M2 := M) (r := r12) (n := 2) (As := [.ref (bs + b8), .int r11]) (st := [.ref (bs + v0)]) C (c_Rk_cell hqr12 hn_v0 hk_v0) zw_286 zw_273 (by decide +kernel) ⟨Nat.le_of_ble_eq_true rfl, Nat.le_of_ble_eq_true rfl⟩ rfl (Nat.le_of_ble_eq_true rfl) ⟨Nat.le_of_ble_eq_true rfl, Nat.le_of_ble_eq_true rfl⟩ zw_287 zw_288 zw_289 zc_5.1 hn_v0 hk_v0 rfl d_Rk_reckon_173 ?_
      obtain ⟨r13, M, hqr13, hF⟩ := zzcall_e hF
      refine zi_callV_v (M2 := M) (n := 1) (As := [.long r12]) (st := []) C (c_Rk_push hqr13 hn_v0 hk_v0) zw_272 zw_273 (by decide +kernel) ⟨Nat.le_of_ble_eq_true rfl, Nat.le_of_ble_eq_true rfl⟩ rfl (Nat.le_of_ble_eq_true rfl) ⟨Nat.le_of_ble_eq_true rfl, Nat.le_of_ble_eq_true rfl⟩ zw_274 zw_275 zw_276 zc_5.1 hn_v0 hk_v0 rfl d_Rk_reckon_176 ?_
      refine zi_goto (tgt := 205) C d_Rk_reckon_179 (by decide) ?_
      exact zi_vret C hlocks hr d_Rk_reckon_205 rfl rfl (by cases hF; rfl) rfl
    · rw [if_neg hs6] at hF
      by_cases hs14 : v1 = (64 : Int32)
      · rw [if_pos hs14] at hF
        refine zi_lookup C d_Rk_reckon_1 (by decide) 122 123 (by rw [hs14]; decide +kernel) (by decide) ?_
        refine zi_aload_n C d_Rk_reckon_123 rfl 0 rfl ?_
        refine zi_aload_n C d_Rk_reckon_124 rfl 0 rfl ?_
        refine zi_aload_n C d_Rk_reckon_125 rfl 0 rfl ?_
        refine zi_getR C zc_5 (k := 0) (by decide) zw_270 rfl hn_v0 hk_v0 d_Rk_reckon_126 (fun _ _ _ => rfl) hF (fun b15 hn_b15 hk_b15 hF => ?_)
        refine zi_getR C zc_4 (k := 0) (by decide) zw_290 rfl hn_b15 hk_b15 d_Rk_reckon_129 (fun _ _ _ => rfl) hF (fun b16 hn_b16 hk_b16 hF => ?_)
        refine zi_aload_n C d_Rk_reckon_132 rfl 0 rfl ?_
        refine zi_getR C zc_5 (k := 0) (by decide) zw_270 rfl hn_v0 hk_v0 d_Rk_reckon_133 (fun _ _ _ => rfl) hF (fun b17 hn_b17 hk_b17 hF => ?_)
        refine zi_aload_n C d_Rk_reckon_136 rfl 0 rfl ?_
        obtain ⟨r18, M, hqr18, hF⟩ := zzcall_e hF
        refine zi_callV_l (M2 := M) (r := r18) (n := 0) (As := []) (st := [.ref (bs + b17), .ref (bs + b16), .ref (bs + v0), .ref (bs + v0)]) C (c_Rk_pop hqr18 hn_v0 hk_v0) zw_278 zw_273 (by decide +kernel) ⟨Nat.le_of_ble_eq_true rfl, Nat.le_of_ble_eq_true rfl⟩ rfl (Nat.le_of_ble_eq_true rfl) ⟨Nat.le_of_ble_eq_true rfl, Nat.le_of_ble_eq_true rfl⟩ zw_279 zw_280 zw_281 zc_5.1 hn_v0 hk_v0 rfl d_Rk_reckon_137 ?_
        refine zi_iload_n C d_Rk_reckon_140 rfl 2 rfl ?_
        obtain ⟨r19, M, hqr19, hF⟩ := zzcall_e hF
        refine zi_callV_i (M2 := M) (r := r19) (n := 2) (As := [.long r18, .int v2]) (st := [.ref (bs + b16), .ref (bs + v0), .ref (bs + v0)]) C (c_Bd_slotOf hqr19 hn_b17 hk_b17) zw_291 zw_252 (by decide +kernel) ⟨Nat.le_of_ble_eq_true rfl, Nat.le_of_ble_eq_true rfl⟩ rfl (Nat.le_of_ble_eq_true rfl) ⟨Nat.le_of_ble_eq_true rfl, Nat.le_of_ble_eq_true rfl⟩ zw_292 zw_293 zw_294 zc_4.1 hn_b17 hk_b17 rfl d_Rk_reckon_141 ?_
        obtain ⟨r20, M, hqr20, hF⟩ := zzcall_e hF
        refine zi_callV_l (M2 := M) (r := r20) (n := 2) (As := [.ref (bs + b16), .int r19]) (st := [.ref (bs + v0)]) C (c_Rk_cell hqr20 hn_v0 hk_v0) zw_286 zw_273 (by decide +kernel) ⟨Nat.le_of_ble_eq_true rfl, Nat.le_of_ble_eq_true rfl⟩ rfl (Nat.le_of_ble_eq_true rfl) ⟨Nat.le_of_ble_eq_true rfl, Nat.le_of_ble_eq_true rfl⟩ zw_287 zw_288 zw_289 zc_5.1 hn_v0 hk_v0 rfl d_Rk_reckon_144 ?_
        obtain ⟨r21, M, hqr21, hF⟩ := zzcall_e hF
        refine zi_callV_v (M2 := M) (n := 1) (As := [.long r20]) (st := []) C (c_Rk_push hqr21 hn_v0 hk_v0) zw_272 zw_273 (by decide +kernel) ⟨Nat.le_of_ble_eq_true rfl, Nat.le_of_ble_eq_true rfl⟩ rfl (Nat.le_of_ble_eq_true rfl) ⟨Nat.le_of_ble_eq_true rfl, Nat.le_of_ble_eq_true rfl⟩ zw_274 zw_275 zw_276 zc_5.1 hn_v0 hk_v0 rfl d_Rk_reckon_147 ?_
        refine zi_goto (tgt := 205) C d_Rk_reckon_150 (by decide) ?_
        exact zi_vret C hlocks hr d_Rk_reckon_205 rfl rfl (by cases hF; rfl) rfl
      · rw [if_neg hs14] at hF
        by_cases hs22 : v1 = (110 : Int32)
        · rw [if_pos hs22] at hF
          refine zi_lookup C d_Rk_reckon_1 (by decide) 59 60 (by rw [hs22]; decide +kernel) (by decide) ?_
          refine zi_aload_n C d_Rk_reckon_60 rfl 0 rfl ?_
          refine zi_iload_n C d_Rk_reckon_61 rfl 2 rfl ?_
          refine zi_i2l C d_Rk_reckon_62 hF (fun x23 hF => ?_)
          obtain ⟨r24, M, hqr24, hF⟩ := zzcall_e hF
          refine zi_callV_v (M2 := M) (n := 1) (As := [.long x23]) (st := []) C (c_Rk_push hqr24 hn_v0 hk_v0) zw_272 zw_273 (by decide +kernel) ⟨Nat.le_of_ble_eq_true rfl, Nat.le_of_ble_eq_true rfl⟩ rfl (Nat.le_of_ble_eq_true rfl) ⟨Nat.le_of_ble_eq_true rfl, Nat.le_of_ble_eq_true rfl⟩ zw_274 zw_275 zw_276 zc_5.1 hn_v0 hk_v0 rfl d_Rk_reckon_63 ?_
          refine zi_goto (tgt := 205) C d_Rk_reckon_66 (by decide) ?_
          exact zi_vret C hlocks hr d_Rk_reckon_205 rfl rfl (by cases hF; rfl) rfl
        · rw [if_neg hs22] at hF
          by_cases hs25 : v1 = (118 : Int32)
          · rw [if_pos hs25] at hF
            refine zi_lookup C d_Rk_reckon_1 (by decide) 68 69 (by rw [hs25]; decide +kernel) (by decide) ?_
            refine zi_aload_n C d_Rk_reckon_69 rfl 0 rfl ?_
            refine zi_iload_n C d_Rk_reckon_70 rfl 2 rfl ?_
            refine zi_if_lt (tgt := 80) C d_Rk_reckon_71 (by decide) hF (fun hF => ?_) (fun hF => ?_)
            · refine zi_lconst (v := 0) C d_Rk_reckon_80 (by decide) ?_
              refine zi_goto (tgt := 90) C d_Rk_reckon_81 (by decide) ?_
              obtain ⟨r26, M, hqr26, hF⟩ := zzcall_e hF
              refine zi_callV_v (M2 := M) (n := 1) (As := [.long (0 : Int64)]) (st := []) C (c_Rk_push hqr26 hn_v0 hk_v0) zw_272 zw_273 (by decide +kernel) ⟨Nat.le_of_ble_eq_true rfl, Nat.le_of_ble_eq_true rfl⟩ rfl (Nat.le_of_ble_eq_true rfl) ⟨Nat.le_of_ble_eq_true rfl, Nat.le_of_ble_eq_true rfl⟩ zw_274 zw_275 zw_276 zc_5.1 hn_v0 hk_v0 rfl d_Rk_reckon_90 ?_
              refine zi_goto (tgt := 205) C d_Rk_reckon_93 (by decide) ?_
              exact zi_vret C hlocks hr d_Rk_reckon_205 rfl rfl (by cases hF; rfl) rfl
            · refine zi_iload_n C d_Rk_reckon_74 rfl 2 rfl ?_
              refine zi_bipush (v := 26) C d_Rk_reckon_75 (by decide) ?_
              refine zi_icmp_lt (tgt := 84) C d_Rk_reckon_77 (by decide) hF (fun hF => ?_) (fun hF => ?_)
              · refine zi_aload_n C d_Rk_reckon_84 rfl 0 rfl ?_
                refine zi_getR C zc_5 (k := 1) (by decide) zw_295 rfl hn_v0 hk_v0 d_Rk_reckon_85 (fun _ _ _ => rfl) hF (fun b27 hn_b27 hk_b27 hF => ?_)
                refine zi_iload_n C d_Rk_reckon_88 rfl 2 rfl ?_
                refine zi_lald C hn_b27 hk_b27 d_Rk_reckon_89 hF (fun x28 hF => ?_)
                obtain ⟨r29, M, hqr29, hF⟩ := zzcall_e hF
                refine zi_callV_v (M2 := M) (n := 1) (As := [.long x28]) (st := []) C (c_Rk_push hqr29 hn_v0 hk_v0) zw_272 zw_273 (by decide +kernel) ⟨Nat.le_of_ble_eq_true rfl, Nat.le_of_ble_eq_true rfl⟩ rfl (Nat.le_of_ble_eq_true rfl) ⟨Nat.le_of_ble_eq_true rfl, Nat.le_of_ble_eq_true rfl⟩ zw_274 zw_275 zw_276 zc_5.1 hn_v0 hk_v0 rfl d_Rk_reckon_90 ?_
                refine zi_goto (tgt := 205) C d_Rk_reckon_93 (by decide) ?_
                exact zi_vret C hlocks hr d_Rk_reckon_205 rfl rfl (by cases hF; rfl) rfl
              · refine zi_lconst (v := 0) C d_Rk_reckon_80 (by decide) ?_
                refine zi_goto (tgt := 90) C d_Rk_reckon_81 (by decide) ?_
                obtain ⟨r30, M, hqr30, hF⟩ := zzcall_e hF
                refine zi_callV_v (M2 := M) (n := 1) (As := [.long (0 : Int64)]) (st := []) C (c_Rk_push hqr30 hn_v0 hk_v0) zw_272 zw_273 (by decide +kernel) ⟨Nat.le_of_ble_eq_true rfl, Nat.le_of_ble_eq_true rfl⟩ rfl (Nat.le_of_ble_eq_true rfl) ⟨Nat.le_of_ble_eq_true rfl, Nat.le_of_ble_eq_true rfl⟩ zw_274 zw_275 zw_276 zc_5.1 hn_v0 hk_v0 rfl d_Rk_reckon_90 ?_
                refine zi_goto (tgt := 205) C d_Rk_reckon_93 (by decide) ?_
                exact zi_vret C hlocks hr d_Rk_reckon_205 rfl rfl (by cases hF; rfl) rfl
          · rw [if_neg hs25] at hF
            by_cases hs31 : v1 = (126 : Int32)
            · rw [if_pos hs31] at hF
              refine zi_lookup C d_Rk_reckon_1 (by decide) 110 111 (by rw [hs31]; decide +kernel) (by decide) ?_
              refine zi_aload_n C d_Rk_reckon_111 rfl 0 rfl ?_
              refine zi_aload_n C d_Rk_reckon_112 rfl 0 rfl ?_
              obtain ⟨r32, M, hqr32, hF⟩ := zzcall_e hF
              refine zi_callV_l (M2 := M) (r := r32) (n := 0) (As := []) (st := [.ref (bs + v0)]) C (c_Rk_pop hqr32 hn_v0 hk_v0) zw_278 zw_273 (by decide +kernel) ⟨Nat.le_of_ble_eq_true rfl, Nat.le_of_ble_eq_true rfl⟩ rfl (Nat.le_of_ble_eq_true rfl) ⟨Nat.le_of_ble_eq_true rfl, Nat.le_of_ble_eq_true rfl⟩ zw_279 zw_280 zw_281 zc_5.1 hn_v0 hk_v0 rfl d_Rk_reckon_113 ?_
              refine zi_lneg C d_Rk_reckon_116 hF (fun x33 hF => ?_)
              obtain ⟨r34, M, hqr34, hF⟩ := zzcall_e hF
              refine zi_callV_v (M2 := M) (n := 1) (As := [.long x33]) (st := []) C (c_Rk_push hqr34 hn_v0 hk_v0) zw_272 zw_273 (by decide +kernel) ⟨Nat.le_of_ble_eq_true rfl, Nat.le_of_ble_eq_true rfl⟩ rfl (Nat.le_of_ble_eq_true rfl) ⟨Nat.le_of_ble_eq_true rfl, Nat.le_of_ble_eq_true rfl⟩ zw_274 zw_275 zw_276 zc_5.1 hn_v0 hk_v0 rfl d_Rk_reckon_117 ?_
              refine zi_goto (tgt := 205) C d_Rk_reckon_120 (by decide) ?_
              exact zi_vret C hlocks hr d_Rk_reckon_205 rfl rfl (by cases hF; rfl) rfl
            · rw [if_neg hs31] at hF
              refine zi_lookup C d_Rk_reckon_1 (by decide) 181 182 ((lv_osw hs1 (by decide)).trans ((lv_osw hs6 (by decide)).trans ((lv_osw hs14 (by decide)).trans ((lv_osw hs22 (by decide)).trans ((lv_osw hs25 (by decide)).trans ((lv_osw hs31 (by decide)).trans (rfl))))))) (by decide) ?_
              refine zi_aload_n C d_Rk_reckon_182 rfl 0 rfl ?_
              obtain ⟨r35, M, hqr35, hF⟩ := zzcall_e hF
              refine zi_callV_l (M2 := M) (r := r35) (n := 0) (As := []) (st := []) C (c_Rk_pop hqr35 hn_v0 hk_v0) zw_278 zw_273 (by decide +kernel) ⟨Nat.le_of_ble_eq_true rfl, Nat.le_of_ble_eq_true rfl⟩ rfl (Nat.le_of_ble_eq_true rfl) ⟨Nat.le_of_ble_eq_true rfl, Nat.le_of_ble_eq_true rfl⟩ zw_279 zw_280 zw_281 zc_5.1 hn_v0 hk_v0 rfl d_Rk_reckon_183 ?_
              refine zi_lstore_n (lv' := [(3, .long r35), (0, .ref (bs + v0)), (1, .int v1), (2, .int v2)]) C d_Rk_reckon_186 rfl (by decide) rfl ?_
              refine zi_aload_n C d_Rk_reckon_187 rfl 1 rfl ?_
              obtain ⟨r36, M, hqr36, hF⟩ := zzcall_e hF
              refine zi_callV_l (M2 := M) (r := r36) (n := 0) (As := []) (st := []) C (c_Rk_pop hqr36 hn_v0 hk_v0) zw_278 zw_273 (by decide +kernel) ⟨Nat.le_of_ble_eq_true rfl, Nat.le_of_ble_eq_true rfl⟩ rfl (Nat.le_of_ble_eq_true rfl) ⟨Nat.le_of_ble_eq_true rfl, Nat.le_of_ble_eq_true rfl⟩ zw_279 zw_280 zw_281 zc_5.1 hn_v0 hk_v0 rfl d_Rk_reckon_188 ?_
              refine zi_lstore (lv' := [(5, .long r36), (3, .long r35), (0, .ref (bs + v0)), (1, .int v1), (2, .int v2)]) C d_Rk_reckon_191 (by decide) rfl ?_
              refine zi_aload_n C d_Rk_reckon_193 rfl 2 rfl ?_
              refine zi_aload_n C d_Rk_reckon_194 rfl 2 rfl ?_
              refine zi_iload_n C d_Rk_reckon_195 rfl 3 rfl ?_
              refine zi_lload C d_Rk_reckon_196 0 rfl ?_
              refine zi_lload_n C d_Rk_reckon_198 rfl 1 rfl ?_
              obtain ⟨r37, M, hqr37, hF⟩ := zzcall_e hF
              refine zi_callV_l (M2 := M) (r := r37) (n := 3) (As := [.int v1, .long r36, .long r35]) (st := [.ref (bs + v0)]) C (c_Rk_joined hqr37 hn_v0 hk_v0) zw_296 zw_273 (by decide +kernel) ⟨Nat.le_of_ble_eq_true rfl, Nat.le_of_ble_eq_true rfl⟩ rfl (Nat.le_of_ble_eq_true rfl) ⟨Nat.le_of_ble_eq_true rfl, Nat.le_of_ble_eq_true rfl⟩ zw_297 zw_298 zw_299 zc_5.1 hn_v0 hk_v0 rfl d_Rk_reckon_199 ?_
              obtain ⟨r38, M, hqr38, hF⟩ := zzcall_e hF
              refine zi_callV_v (M2 := M) (n := 1) (As := [.long r37]) (st := []) C (c_Rk_push hqr38 hn_v0 hk_v0) zw_272 zw_273 (by decide +kernel) ⟨Nat.le_of_ble_eq_true rfl, Nat.le_of_ble_eq_true rfl⟩ rfl (Nat.le_of_ble_eq_true rfl) ⟨Nat.le_of_ble_eq_true rfl, Nat.le_of_ble_eq_true rfl⟩ zw_274 zw_275 zw_276 zc_5.1 hn_v0 hk_v0 rfl d_Rk_reckon_202 ?_
              exact zi_vret C hlocks hr d_Rk_reckon_205 rfl rfl (by cases hF; rfl) rfl
def F_Rk_value_18_b (S : zzS)  (k18 : zzM → Nat → Nat → Int32 → Option (Int64 × zzM)) (M : zzM) (v0 : Nat) (v1 : Nat) (v2 : Int32) : Option (Int64 × zzM) := zzlet (Int32.ofNat (zzn S v1)) fun x1 => if x1 ≤ v2 then (zzlet (zzI M v0 4) fun x2 => if x2 = 0 then (zzcall (F_Rk_pop S M v0) fun r3 M => some (r3, M)) else (some ((0 : Int64), M))) else (zzlet (zzI M v0 4) fun x4 => if x4 = 0 then (zzix S v1 v2 (zzlet (zzI M v1 (v2).toNatClampNeg) fun x7 => zzlet (x7 &&& (127 : Int32)) fun x8 => zzlet (((x8).toUInt32 % 65536).toInt32) fun x9 => zzix S v1 v2 (zzlet (zzI M v1 (v2).toNatClampNeg) fun x10 => zzlet (x10 >>> ((7 : Int32) &&& 31)) fun x11 => zzcall (F_Rk_reckon S M v0 x9 x11) fun r12 M => zzlet (v2 + (1 : Int32)) fun x13 => k18 M v0 v1 x13))) else (zzlet (zzI M v0 4) fun x5 => if x5 = 0 then (zzcall (F_Rk_pop S M v0) fun r6 M => some (r6, M)) else (some ((0 : Int64), M))))
def F_Rk_value_18 (S : zzS)   (n : Nat) : zzM → Nat → Nat → Int32 → Option (Int64 × zzM) := Nat.rec (fun _ _ _ _ => none) (fun _ k => F_Rk_value_18_b S   k) n
set_option maxHeartbeats 4000000 in
set_option maxRecDepth 100000 in
theorem g_Rk_value_18_b {p : Program} {l : Launch} {e : Env} {s : State} {m : MethodId} {args : Array Value} {below : List Frame} {meth : Method} {c : Code} {D : zzD} {bs : Nat} {A : Nat → Prop} {S : zzS} {hz : Nat} {out : Int64 × zzM}  (C : zzC p s m args c prog_6_method_2_code "BoardScript$Reckoner" 3 D) (hlocks : meth.locks = false) (hr : meth.sig.returnType = (some .long)) (hin : meth.name = "value")  {k18 : zzM → Nat → Nat → Int32 → Option (Int64 × zzM)} (hk18 : ∀ (M : zzM) (v0 : Nat) (v1 : Nat) (v2 : Int32) (hn_v0 : v0 < S.2.1) (hk_v0 : zzk S v0 = 15) (hn_v1 : v1 < S.2.1) (hk_v1 : zzk S v1 = 1), k18 M v0 v1 v2 = some out → zzB p l e { frames := 2, cells := 0, slots := 0, locals := 51 } s m args below meth c 3 D bs A (MQ below (zzQc D bs A S out.2 hz (some (.long out.1))) args s 0 0 A) 0 0 S M hz 18 [(0, .ref (bs + v0)), (1, .ref (bs + v1)), (2, .int v2)] []) (M : zzM) (v0 : Nat) (v1 : Nat) (v2 : Int32) (hn_v0 : v0 < S.2.1) (hk_v0 : zzk S v0 = 15) (hn_v1 : v1 < S.2.1) (hk_v1 : zzk S v1 = 1) (hF : F_Rk_value_18_b S  k18 M v0 v1 v2 = some out) : zzB p l e { frames := 2, cells := 0, slots := 0, locals := 51 } s m args below meth c 3 D bs A (MQ below (zzQc D bs A S out.2 hz (some (.long out.1))) args s 0 0 A) 0 0 S M hz 18 [(0, .ref (bs + v0)), (1, .ref (bs + v1)), (2, .int v2)] [] := by
  unfold F_Rk_value_18_b at hF
  refine zi_iload_n C d_Rk_value_18 rfl 2 rfl ?_
  refine zi_aload_n C d_Rk_value_19 rfl 1 rfl ?_
  refine zi_alen C hn_v1 hk_v1 (by decide) (by decide) d_Rk_value_20 hF (fun x1 hF => ?_)
  refine zi_icmp_ge (tgt := 54) C d_Rk_value_21 (by decide) hF (fun hF => ?_) (fun hF => ?_)
  · refine zi_aload_n C d_Rk_value_54 rfl 0 rfl ?_
    refine zi_getI C zc_5 (k := 4) (by decide) zw_268 rfl hn_v0 hk_v0 d_Rk_value_55 (fun _ _ _ => rfl) hF (fun x2 hF => ?_)
    refine zi_if_ne (tgt := 68) C d_Rk_value_58 (by decide) hF (fun hF => ?_) (fun hF => ?_)
    · refine zi_lconst (v := 0) C d_Rk_value_68 (by decide) ?_
      exact zi_lret C hlocks hr d_Rk_value_69 (by cases hF; rfl) rfl (by cases hF; rfl) rfl
    · refine zi_aload_n C d_Rk_value_61 rfl 0 rfl ?_
      obtain ⟨r3, M, hqr3, hF⟩ := zzcall_e hF
      refine zi_callV_l (M2 := M) (r := r3) (n := 0) (As := []) (st := []) C (c_Rk_pop hqr3 hn_v0 hk_v0) zw_278 zw_273 (by decide +kernel) ⟨Nat.le_of_ble_eq_true rfl, Nat.le_of_ble_eq_true rfl⟩ rfl (Nat.le_of_ble_eq_true rfl) ⟨Nat.le_of_ble_eq_true rfl, Nat.le_of_ble_eq_true rfl⟩ zw_279 zw_280 zw_281 zc_5.1 hn_v0 hk_v0 rfl d_Rk_value_62 ?_
      refine zi_goto (tgt := 69) C d_Rk_value_65 (by decide) ?_
      exact zi_lret C hlocks hr d_Rk_value_69 (by cases hF; rfl) rfl (by cases hF; rfl) rfl
  · refine zi_aload_n C d_Rk_value_24 rfl 0 rfl ?_
    refine zi_getI C zc_5 (k := 4) (by decide) zw_268 rfl hn_v0 hk_v0 d_Rk_value_25 (fun _ _ _ => rfl) hF (fun x4 hF => ?_)
    refine zi_if_ne (tgt := 54) C d_Rk_value_28 (by decide) hF (fun hF => ?_) (fun hF => ?_)
    · refine zi_aload_n C d_Rk_value_54 rfl 0 rfl ?_
      refine zi_getI C zc_5 (k := 4) (by decide) zw_268 rfl hn_v0 hk_v0 d_Rk_value_55 (fun _ _ _ => rfl) hF (fun x5 hF => ?_)
      refine zi_if_ne (tgt := 68) C d_Rk_value_58 (by decide) hF (fun hF => ?_) (fun hF => ?_)
      · refine zi_lconst (v := 0) C d_Rk_value_68 (by decide) ?_
        exact zi_lret C hlocks hr d_Rk_value_69 (by cases hF; rfl) rfl (by cases hF; rfl) rfl
      · refine zi_aload_n C d_Rk_value_61 rfl 0 rfl ?_
        obtain ⟨r6, M, hqr6, hF⟩ := zzcall_e hF
        refine zi_callV_l (M2 := M) (r := r6) (n := 0) (As := []) (st := []) C (c_Rk_pop hqr6 hn_v0 hk_v0) zw_278 zw_273 (by decide +kernel) ⟨Nat.le_of_ble_eq_true rfl, Nat.le_of_ble_eq_true rfl⟩ rfl (Nat.le_of_ble_eq_true rfl) ⟨Nat.le_of_ble_eq_true rfl, Nat.le_of_ble_eq_true rfl⟩ zw_279 zw_280 zw_281 zc_5.1 hn_v0 hk_v0 rfl d_Rk_value_62 ?_
        refine zi_goto (tgt := 69) C d_Rk_value_65 (by decide) ?_
        exact zi_lret C hlocks hr d_Rk_value_69 (by cases hF; rfl) rfl (by cases hF; rfl) rfl
    · refine zi_aload_n C d_Rk_value_31 rfl 0 rfl ?_
      refine zi_aload_n C d_Rk_value_32 rfl 1 rfl ?_
      refine zi_iload_n C d_Rk_value_33 rfl 2 rfl ?_
      refine zi_iald C hn_v1 hk_v1 d_Rk_value_34 hF (fun x7 hF => ?_)
      refine zi_bipush (v := 127) C d_Rk_value_35 (by decide) ?_
      refine zi_iand C d_Rk_value_37 hF (fun x8 hF => ?_)
      refine zi_i2c C d_Rk_value_38 hF (fun x9 hF => ?_)
      refine zi_aload_n C d_Rk_value_39 rfl 1 rfl ?_
      refine zi_iload_n C d_Rk_value_40 rfl 2 rfl ?_
      refine zi_iald C hn_v1 hk_v1 d_Rk_value_41 hF (fun x10 hF => ?_)
      refine zi_bipush (v := 7) C d_Rk_value_42 (by decide) ?_
      refine zi_ishr C d_Rk_value_44 hF (fun x11 hF => ?_)
      obtain ⟨r12, M, hqr12, hF⟩ := zzcall_e hF
      refine zi_callV_v (M2 := M) (n := 2) (As := [.int x9, .int x11]) (st := []) C (c_Rk_reckon hqr12 hn_v0 hk_v0) zw_300 zw_273 (by decide +kernel) ⟨Nat.le_of_ble_eq_true rfl, Nat.le_of_ble_eq_true rfl⟩ rfl (Nat.le_of_ble_eq_true rfl) ⟨Nat.le_of_ble_eq_true rfl, Nat.le_of_ble_eq_true rfl⟩ zw_301 zw_302 zw_303 zc_5.1 hn_v0 hk_v0 rfl d_Rk_value_45 ?_
      refine zi_iinc (j := 2) (v0 := 1) C d_Rk_value_48 rfl (by decide) (by decide) hF (fun x13 => [(2, .int x13), (0, .ref (bs + v0)), (1, .ref (bs + v1))]) (fun _ => rfl) (fun x13 hF => ?_)
      refine zi_goto (tgt := 18) C d_Rk_value_51 (by decide) ?_
      refine zz_sub [1, 2, 0] (lv' := [(0, .ref (bs + v0)), (1, .ref (bs + v1)), (2, .int x13)]) rfl ?_
      exact hk18 _ v0 v1 x13 hn_v0 hk_v0 hn_v1 hk_v1 hF
set_option maxHeartbeats 4000000 in
set_option maxRecDepth 100000 in
theorem g_Rk_value_18 {p : Program} {l : Launch} {e : Env} {s : State} {m : MethodId} {args : Array Value} {below : List Frame} {meth : Method} {c : Code} {D : zzD} {bs : Nat} {A : Nat → Prop} {S : zzS} {hz : Nat} {out : Int64 × zzM}  (C : zzC p s m args c prog_6_method_2_code "BoardScript$Reckoner" 3 D) (hlocks : meth.locks = false) (hr : meth.sig.returnType = (some .long)) (hin : meth.name = "value")    : ∀ (n : Nat) (M : zzM) (v0 : Nat) (v1 : Nat) (v2 : Int32) (hn_v0 : v0 < S.2.1) (hk_v0 : zzk S v0 = 15) (hn_v1 : v1 < S.2.1) (hk_v1 : zzk S v1 = 1) (hF : F_Rk_value_18 S   n M v0 v1 v2 = some out), zzB p l e { frames := 2, cells := 0, slots := 0, locals := 51 } s m args below meth c 3 D bs A (MQ below (zzQc D bs A S out.2 hz (some (.long out.1))) args s 0 0 A) 0 0 S M hz 18 [(0, .ref (bs + v0)), (1, .ref (bs + v1)), (2, .int v2)] [] := by
  intro n
  induction n with
  | zero => intro M v0 v1 v2 hn_v0 hk_v0 hn_v1 hk_v1 hF; cases hF
  | succ n ih => intro M v0 v1 v2 hn_v0 hk_v0 hn_v1 hk_v1 hF; exact g_Rk_value_18_b C hlocks hr hin   ih M v0 v1 v2 hn_v0 hk_v0 hn_v1 hk_v1 hF
def F_Rk_value (S : zzS)  (M : zzM) (v0 : Nat) (v1 : Option Nat) : Option (Int64 × zzM) := zzlet (zzsI M v0 3 (0 : Int32)) fun M => zzlet (zzsI M v0 4 (0 : Int32)) fun M => zzopt S 1 v1 (some ((0 : Int64), M)) (fun b1 => F_Rk_value_18 S   2000 M v0 b1 (0 : Int32))
set_option maxHeartbeats 4000000 in
set_option maxRecDepth 100000 in
theorem c_Rk_value {l : Launch} {D : zzD} {bs : Nat} {A : Nat → Prop} {S : zzS} {M : zzM} {hz : Nat} {out : Int64 × zzM} {v0 : Nat} {v1 : Option Nat}   (hF : F_Rk_value S  M v0 v1 = some out) (hn_v0 : v0 < S.2.1) (hk_v0 : zzk S v0 = 15) : Met l y_Rk_value (Cond.code y_Rk_value prog_6_method_2_code 3 (some .long) :: zzW) { frames := 2, cells := 0, slots := 0, locals := 51 } (zzPc D bs A S M hz [.ref (bs + v0), zzrf bs v1]) (zzQc D bs A S out.2 hz (some (.long out.1))) 0 0 A := by
  refine zz_met [.ref (bs + v0), zzrf bs v1] (by decide) (by cases v1 <;> exact Nat.le_of_ble_eq_true rfl) (fun p e s m args below meth c C hr hlocks hin hsz => ?_)
  refine zz_eq (lv' := [(0, .ref (bs + v0)), (1, zzrf bs v1)]) (st' := []) (by cases v1 <;> rfl) rfl ?_
  unfold F_Rk_value at hF
  refine zi_aload_n C d_Rk_value_0 rfl 0 rfl ?_
  refine zi_iconst (v := 0) C d_Rk_value_1 (by decide) ?_
  refine zi_putI C zc_5 (k := 3) (by decide) zw_266 rfl (Or.inl rfl) hn_v0 hk_v0 d_Rk_value_2 rfl hF (fun M hF => ?_)
  refine zi_aload_n C d_Rk_value_5 rfl 0 rfl ?_
  refine zi_iconst (v := 0) C d_Rk_value_6 (by decide) ?_
  refine zi_putI C zc_5 (k := 4) (by decide) zw_268 rfl (Or.inl rfl) hn_v0 hk_v0 d_Rk_value_7 rfl hF (fun M hF => ?_)
  refine zi_aload_nO C d_Rk_value_10 rfl 1 rfl ?_
  rcases zzopt_e hF with ⟨hv0, hF⟩ | ⟨b1, hv0, hn_b1, hk_b1, hF⟩
  · refine zz_eq (lv' := [(0, .ref (bs + v0)), (1, .null)]) (st' := [.null]) (by first | rfl | (rw [hv0]; rfl) | (rw [hv0]; done)) (by first | rfl | (rw [hv0]; rfl) | (rw [hv0]; done)) ?_
    refine zi_ifnonnullN C d_Rk_value_11 ?_
    refine zi_lconst (v := 0) C d_Rk_value_14 (by decide) ?_
    exact zi_lret C hlocks hr d_Rk_value_15 (by cases hF; rfl) rfl (by cases hF; rfl) rfl
  · refine zz_eq (lv' := [(0, .ref (bs + v0)), (1, .ref (bs + b1))]) (st' := [.ref (bs + b1)]) (by first | rfl | (rw [hv0]; rfl) | (rw [hv0]; done)) (by first | rfl | (rw [hv0]; rfl) | (rw [hv0]; done)) ?_
    refine zi_ifnonnull (tgt := 16) C d_Rk_value_11 (by decide) ?_
    refine zi_iconst (v := 0) C d_Rk_value_16 (by decide) ?_
    refine zi_istore_n (lv' := [(2, .int (0 : Int32)), (0, .ref (bs + v0)), (1, .ref (bs + b1))]) C d_Rk_value_17 rfl (by decide) rfl ?_
    refine zz_sub [1, 2, 0] (lv' := [(0, .ref (bs + v0)), (1, .ref (bs + b1)), (2, .int (0 : Int32))]) rfl ?_
    exact g_Rk_value_18 C hlocks hr hin   _ _ v0 b1 (0 : Int32) hn_v0 hk_v0 hn_b1 hk_b1 hF
def F_Bs_added_28 (S : zzS)   (M : zzM) (v0 : Nat) (w0 : Option Nat) : Option (Int32 × zzM) := zzopt S 13 w0 (some ((-1 : Int32), M)) (fun b1 => zzref S 15 (zzR M v0 6) fun b2 => zzlet (zzR M b1 5) fun r4 => zzcall (F_Rk_value S M b2 r4) fun r5 M => zzref S 15 (zzR M v0 6) fun b6 => zzlet (zzI M b6 4) fun x7 => if x7 = 0 then (zzlet (lg_cmp r5 (0 : Int64)) fun x8 => if x8 = 0 then (some ((0 : Int32), M)) else (some ((1 : Int32), M))) else (some ((-2 : Int32), M)))
set_option maxHeartbeats 4000000 in
set_option maxRecDepth 100000 in
theorem g_Bs_added_28 {p : Program} {l : Launch} {e : Env} {s : State} {m : MethodId} {args : Array Value} {below : List Frame} {meth : Method} {c : Code} {D : zzD} {bs : Nat} {A : Nat → Prop} {S : zzS} {hz : Nat} {out : Int32 × zzM}  (C : zzC p s m args c prog_1_method_13_code "BoardScript" 5 D) (hlocks : meth.locks = false) (hr : meth.sig.returnType = (some .int)) (hin : meth.name = "added")    (M : zzM) (v0 : Nat) (w0 : Option Nat) (hn_v0 : v0 < S.2.1) (hk_v0 : zzk S v0 = 10) (hF : F_Bs_added_28 S   M v0 w0 = some out) : zzB p l e { frames := 3, cells := 0, slots := 0, locals := 73 } s m args below meth c 5 D bs A (MQ below (zzQc D bs A S out.2 hz (some (.int out.1))) args s 0 0 A) 0 0 S M hz 28 [(0, .ref (bs + v0))] [zzrf bs w0] := by
  unfold F_Bs_added_28 at hF
  refine zi_astore_nO (lv' := [(2, zzrf bs w0), (0, .ref (bs + v0))]) C d_Bs_added_28 rfl (by decide) rfl ?_
  refine zi_aload_nO C d_Bs_added_29 rfl 0 rfl ?_
  rcases zzopt_e hF with ⟨hv0, hF⟩ | ⟨b1, hv0, hn_b1, hk_b1, hF⟩
  · refine zz_eq (lv' := [(2, .null), (0, .ref (bs + v0))]) (st' := [.null]) (by first | rfl | (rw [hv0]; rfl) | (rw [hv0]; done)) (by first | rfl | (rw [hv0]; rfl) | (rw [hv0]; done)) ?_
    refine zi_ifnonnullN C d_Bs_added_30 ?_
    refine zi_iconst (v := -1) C d_Bs_added_33 (by decide) ?_
    exact zi_iret C hlocks hr d_Bs_added_34 (by cases hF; rfl) rfl (by cases hF; rfl) rfl
  · refine zz_eq (lv' := [(2, .ref (bs + b1)), (0, .ref (bs + v0))]) (st' := [.ref (bs + b1)]) (by first | rfl | (rw [hv0]; rfl) | (rw [hv0]; done)) (by first | rfl | (rw [hv0]; rfl) | (rw [hv0]; done)) ?_
    refine zi_ifnonnull (tgt := 35) C d_Bs_added_30 (by decide) ?_
    refine zi_aload_n C d_Bs_added_35 rfl 1 rfl ?_
    refine zi_getR C zc_0 (k := 6) (by decide) zw_306 rfl hn_v0 hk_v0 d_Bs_added_36 (fun _ _ _ => rfl) hF (fun b2 hn_b2 hk_b2 hF => ?_)
    refine zi_aload_n C d_Bs_added_39 rfl 0 rfl ?_
    refine zi_getQ C zc_3 (k := 5) (by decide) zw_307 rfl hn_b1 hk_b1 d_Bs_added_40 (fun _ _ _ => rfl) hF (fun r4 hF => ?_)
    obtain ⟨r5, M, hqr5, hF⟩ := zzcall_e hF
    refine zi_callV_l (M2 := M) (r := r5) (n := 1) (As := [zzrf bs r4]) (st := []) C (c_Rk_value hqr5 hn_b2 hk_b2) zw_308 zw_273 (by decide +kernel) ⟨Nat.le_of_ble_eq_true rfl, Nat.le_of_ble_eq_true rfl⟩ rfl (Nat.le_of_ble_eq_true rfl) ⟨Nat.le_of_ble_eq_true rfl, Nat.le_of_ble_eq_true rfl⟩ zw_309 zw_310 zw_311 zc_5.1 hn_b2 hk_b2 rfl d_Bs_added_43 ?_
    refine zi_lstore_n (lv' := [(3, .long r5), (2, .ref (bs + b1)), (0, .ref (bs + v0))]) C d_Bs_added_46 rfl (by decide) rfl ?_
    refine zi_aload_n C d_Bs_added_47 rfl 2 rfl ?_
    refine zi_getR C zc_0 (k := 6) (by decide) zw_306 rfl hn_v0 hk_v0 d_Bs_added_48 (fun _ _ _ => rfl) hF (fun b6 hn_b6 hk_b6 hF => ?_)
    refine zi_getI C zc_5 (k := 4) (by decide) zw_312 rfl hn_b6 hk_b6 d_Bs_added_51 (fun _ _ _ => rfl) hF (fun x7 hF => ?_)
    refine zi_if_eq (tgt := 60) C d_Bs_added_54 (by decide) hF (fun hF => ?_) (fun hF => ?_)
    · refine zi_lload_n C d_Bs_added_60 rfl 0 rfl ?_
      refine zi_lconst (v := 0) C d_Bs_added_61 (by decide) ?_
      refine zi_lcmp C d_Bs_added_62 hF (fun x8 hF => ?_)
      refine zi_if_eq (tgt := 70) C d_Bs_added_63 (by decide) hF (fun hF => ?_) (fun hF => ?_)
      · refine zi_iconst (v := 0) C d_Bs_added_70 (by decide) ?_
        exact zi_iret C hlocks hr d_Bs_added_71 (by cases hF; rfl) rfl (by cases hF; rfl) rfl
      · refine zi_iconst (v := 1) C d_Bs_added_66 (by decide) ?_
        refine zi_goto (tgt := 71) C d_Bs_added_67 (by decide) ?_
        exact zi_iret C hlocks hr d_Bs_added_71 (by cases hF; rfl) rfl (by cases hF; rfl) rfl
    · refine zi_bipush (v := -2) C d_Bs_added_57 (by decide) ?_
      exact zi_iret C hlocks hr d_Bs_added_59 (by cases hF; rfl) rfl (by cases hF; rfl) rfl
def F_Bs_added_15 (S : zzS)   (M : zzM) (v0 : Nat) : Option (Int32 × zzM) := F_Bs_added_28 S   M v0 none
set_option maxHeartbeats 4000000 in
set_option maxRecDepth 100000 in
theorem g_Bs_added_15 {p : Program} {l : Launch} {e : Env} {s : State} {m : MethodId} {args : Array Value} {below : List Frame} {meth : Method} {c : Code} {D : zzD} {bs : Nat} {A : Nat → Prop} {S : zzS} {hz : Nat} {out : Int32 × zzM}  (C : zzC p s m args c prog_1_method_13_code "BoardScript" 5 D) (hlocks : meth.locks = false) (hr : meth.sig.returnType = (some .int)) (hin : meth.name = "added")    (M : zzM) (v0 : Nat) (hn_v0 : v0 < S.2.1) (hk_v0 : zzk S v0 = 10) (hF : F_Bs_added_15 S   M v0 = some out) : zzB p l e { frames := 3, cells := 0, slots := 0, locals := 73 } s m args below meth c 5 D bs A (MQ below (zzQc D bs A S out.2 hz (some (.int out.1))) args s 0 0 A) 0 0 S M hz 15 [(0, .ref (bs + v0))] [] := by
  unfold F_Bs_added_15 at hF
  refine zi_null C d_Bs_added_15 ?_
  refine zi_goto (tgt := 28) C d_Bs_added_16 (by decide) ?_
  refine zz_sub [0] (lv' := [(0, .ref (bs + v0))]) rfl ?_
  exact g_Bs_added_28 C hlocks hr hin   _ v0 none hn_v0 hk_v0 hF
def F_Bs_added (S : zzS)  (M : zzM) (v0 : Nat) (v1 : Int32) : Option (Int32 × zzM) := if v1 < 0 then (F_Bs_added_15 S   M v0) else (zzref S 16 (zzR M v0 7) fun b1 => zzlet (zzI M b1 3) fun x2 => if v1 < x2 then (zzref S 16 (zzR M v0 7) fun b3 => zzref S 4 (zzR M b3 2) fun b4 => zzix S b4 v1 (zzlet (zzR M b4 (v1).toNatClampNeg) fun r6 => F_Bs_added_28 S   M v0 r6)) else (F_Bs_added_15 S   M v0))
set_option maxHeartbeats 4000000 in
set_option maxRecDepth 100000 in
theorem c_Bs_added {l : Launch} {D : zzD} {bs : Nat} {A : Nat → Prop} {S : zzS} {M : zzM} {hz : Nat} {out : Int32 × zzM} {v0 : Nat} {v1 : Int32}   (hF : F_Bs_added S  M v0 v1 = some out) (hn_v0 : v0 < S.2.1) (hk_v0 : zzk S v0 = 10) : Met l y_Bs_added (Cond.code y_Bs_added prog_1_method_13_code 5 (some .int) :: zzW) { frames := 3, cells := 0, slots := 0, locals := 73 } (zzPc D bs A S M hz [.ref (bs + v0), .int v1]) (zzQc D bs A S out.2 hz (some (.int out.1))) 0 0 A := by
  refine zz_met [.ref (bs + v0), .int v1] (by decide) (Nat.le_of_ble_eq_true rfl) (fun p e s m args below meth c C hr hlocks hin hsz => ?_)
  refine zz_eq (lv' := [(0, .ref (bs + v0)), (1, .int v1)]) (st' := []) rfl rfl ?_
  unfold F_Bs_added at hF
  refine zi_iload_n C d_Bs_added_0 rfl 1 rfl ?_
  refine zi_if_lt (tgt := 15) C d_Bs_added_1 (by decide) hF (fun hF => ?_) (fun hF => ?_)
  · refine zz_sub [0] (lv' := [(0, .ref (bs + v0))]) rfl ?_
    exact g_Bs_added_15 C hlocks hr hin   _ v0 hn_v0 hk_v0 hF
  · refine zi_iload_n C d_Bs_added_4 rfl 1 rfl ?_
    refine zi_aload_n C d_Bs_added_5 rfl 0 rfl ?_
    refine zi_getR C zc_0 (k := 7) (by decide) zw_257 rfl hn_v0 hk_v0 d_Bs_added_6 (fun _ _ _ => rfl) hF (fun b1 hn_b1 hk_b1 hF => ?_)
    refine zi_getI C zc_6 (k := 3) (by decide) zw_304 rfl hn_b1 hk_b1 d_Bs_added_9 (fun _ _ _ => rfl) hF (fun x2 hF => ?_)
    refine zi_icmp_lt (tgt := 19) C d_Bs_added_12 (by decide) hF (fun hF => ?_) (fun hF => ?_)
    · refine zi_aload_n C d_Bs_added_19 rfl 0 rfl ?_
      refine zi_getR C zc_0 (k := 7) (by decide) zw_257 rfl hn_v0 hk_v0 d_Bs_added_20 (fun _ _ _ => rfl) hF (fun b3 hn_b3 hk_b3 hF => ?_)
      refine zi_getR C zc_6 (k := 2) (by decide) zw_305 rfl hn_b3 hk_b3 d_Bs_added_23 (fun _ _ _ => rfl) hF (fun b4 hn_b4 hk_b4 hF => ?_)
      refine zi_iload_n C d_Bs_added_26 rfl 1 rfl ?_
      refine zi_aald4Q C hn_b4 hk_b4 d_Bs_added_27 hF (fun r6 hF => ?_)
      refine zz_sub [0] (lv' := [(0, .ref (bs + v0))]) rfl ?_
      exact g_Bs_added_28 C hlocks hr hin   _ v0 r6 hn_v0 hk_v0 hF
    · refine zz_sub [0] (lv' := [(0, .ref (bs + v0))]) rfl ?_
      exact g_Bs_added_15 C hlocks hr hin   _ v0 hn_v0 hk_v0 hF
