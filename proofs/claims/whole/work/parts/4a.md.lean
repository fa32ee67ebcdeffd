def F_Md_forget_2_b (S : zzS)  (k2 : zzM → Nat → Int32 → Option (Unit × zzM)) (M : zzM) (v0 : Nat) (v1 : Int32) : Option (Unit × zzM) := if (26 : Int32) ≤ v1 then (zzlet (zzsL M v0 35 (0 : Int64)) fun M => zzlet (zzsI M v0 36 (0 : Int32)) fun M => zzlet (zzsI M v0 38 (0 : Int32)) fun M => zzlet (zzsI M v0 40 (0 : Int32)) fun M => zzlet (zzsI M v0 42 (0 : Int32)) fun M => zzck (zzokZ (0 : Int32)) (zzlet (zzsI M v0 44 (0 : Int32)) fun M => zzlet (zzsI M v0 45 (0 : Int32)) fun M => zzlet (zzsI M v0 46 (0 : Int32)) fun M => zzlet (zzsI M v0 47 (-1 : Int32)) fun M => zzlet (zzsI M v0 48 (0 : Int32)) fun M => some ((), M))) else (zzref S 2 (zzR M v0 33) fun b1 => zzix S b1 v1 (zzlet (zzsL M b1 (v1).toNatClampNeg (0 : Int64)) fun M => zzlet (v1 + (1 : Int32)) fun x2 => k2 M v0 x2))
def F_Md_forget_2 (S : zzS)   (n : Nat) : zzM → Nat → Int32 → Option (Unit × zzM) := Nat.rec (fun _ _ _ => none) (fun _ k => F_Md_forget_2_b S   k) n
set_option maxHeartbeats 4000000 in
set_option maxRecDepth 100000 in
theorem g_Md_forget_2_b {p : Program} {l : Launch} {e : Env} {s : State} {m : MethodId} {args : Array Value} {below : List Frame} {meth : Method} {c : Code} {D : zzD} {bs : Nat} {A : Nat → Prop} {S : zzS} {hz : Nat} {out : Unit × zzM}  (C : zzC p s m args c prog_12_method_3_code "BoardScriptModel" 2 D) (hlocks : meth.locks = false) (hr : meth.sig.returnType = none) (hin : meth.name = "forget")  {k2 : zzM → Nat → Int32 → Option (Unit × zzM)} (hk2 : ∀ (M : zzM) (v0 : Nat) (v1 : Int32) (hn_v0 : v0 < S.2.1) (hk_v0 : zzk S v0 = 19), k2 M v0 v1 = some out → zzB p l e { frames := 0, cells := 0, slots := 0, locals := 0 } s m args below meth c 2 D bs A (MQ below (zzQc D bs A S out.2 hz none) args s 0 0 A) 0 0 S M hz 2 [(0, .ref (bs + v0)), (1, .int v1)] []) (M : zzM) (v0 : Nat) (v1 : Int32) (hn_v0 : v0 < S.2.1) (hk_v0 : zzk S v0 = 19) (hF : F_Md_forget_2_b S  k2 M v0 v1 = some out) : zzB p l e { frames := 0, cells := 0, slots := 0, locals := 0 } s m args below meth c 2 D bs A (MQ below (zzQc D bs A S out.2 hz none) args s 0 0 A) 0 0 S M hz 2 [(0, .ref (bs + v0)), (1, .int v1)] [] := by
  unfold F_Md_forget_2_b at hF
  refine zi_iload_n C d_Md_forget_2 rfl 1 rfl ?_
  refine zi_bipush (v := 26) C d_Md_forget_3 (by decide) ?_
  refine zi_icmp_ge (tgt := 21) C d_Md_forget_5 (by decide) hF (fun hF => ?_) (fun hF => ?_)
  · refine zi_aload_n C d_Md_forget_21 rfl 0 rfl ?_
    refine zi_lconst (v := 0) C d_Md_forget_22 (by decide) ?_
    refine zi_putL C zc_9 (k := 35) (by decide) zw_0 rfl (Or.inl rfl) hn_v0 hk_v0 d_Md_forget_23 rfl hF (fun M hF => ?_)
    refine zi_aload_n C d_Md_forget_26 rfl 0 rfl ?_
    refine zi_iconst (v := 0) C d_Md_forget_27 (by decide) ?_
    refine zi_putI C zc_9 (k := 36) (by decide) zw_1 rfl (Or.inl rfl) hn_v0 hk_v0 d_Md_forget_28 rfl hF (fun M hF => ?_)
    refine zi_aload_n C d_Md_forget_31 rfl 0 rfl ?_
    refine zi_iconst (v := 0) C d_Md_forget_32 (by decide) ?_
    refine zi_putI C zc_9 (k := 38) (by decide) zw_2 rfl (Or.inl rfl) hn_v0 hk_v0 d_Md_forget_33 rfl hF (fun M hF => ?_)
    refine zi_aload_n C d_Md_forget_36 rfl 0 rfl ?_
    refine zi_iconst (v := 0) C d_Md_forget_37 (by decide) ?_
    refine zi_putI C zc_9 (k := 40) (by decide) zw_3 rfl (Or.inl rfl) hn_v0 hk_v0 d_Md_forget_38 rfl hF (fun M hF => ?_)
    refine zi_aload_n C d_Md_forget_41 rfl 0 rfl ?_
    refine zi_iconst (v := 0) C d_Md_forget_42 (by decide) ?_
    refine zi_putI C zc_9 (k := 42) (by decide) zw_4 rfl (Or.inl rfl) hn_v0 hk_v0 d_Md_forget_43 rfl hF (fun M hF => ?_)
    refine zi_aload_n C d_Md_forget_46 rfl 0 rfl ?_
    refine zi_iconst (v := 0) C d_Md_forget_47 (by decide) ?_
    refine zi_putZ C zc_9 (k := 44) (by decide) zw_5 rfl (Or.inl rfl) hn_v0 hk_v0 d_Md_forget_48 rfl hF (fun M hF => ?_)
    refine zi_aload_n C d_Md_forget_51 rfl 0 rfl ?_
    refine zi_iconst (v := 0) C d_Md_forget_52 (by decide) ?_
    refine zi_putI C zc_9 (k := 45) (by decide) zw_6 rfl (Or.inl rfl) hn_v0 hk_v0 d_Md_forget_53 rfl hF (fun M hF => ?_)
    refine zi_aload_n C d_Md_forget_56 rfl 0 rfl ?_
    refine zi_iconst (v := 0) C d_Md_forget_57 (by decide) ?_
    refine zi_putI C zc_9 (k := 46) (by decide) zw_7 rfl (Or.inl rfl) hn_v0 hk_v0 d_Md_forget_58 rfl hF (fun M hF => ?_)
    refine zi_aload_n C d_Md_forget_61 rfl 0 rfl ?_
    refine zi_iconst (v := -1) C d_Md_forget_62 (by decide) ?_
    refine zi_putI C zc_9 (k := 47) (by decide) zw_8 rfl (Or.inl rfl) hn_v0 hk_v0 d_Md_forget_63 rfl hF (fun M hF => ?_)
    refine zi_aload_n C d_Md_forget_66 rfl 0 rfl ?_
    refine zi_iconst (v := 0) C d_Md_forget_67 (by decide) ?_
    refine zi_putI C zc_9 (k := 48) (by decide) zw_9 rfl (Or.inl rfl) hn_v0 hk_v0 d_Md_forget_68 rfl hF (fun M hF => ?_)
    exact zi_vret C hlocks hr d_Md_forget_71 rfl rfl (by cases hF; rfl) rfl
  · refine zi_aload_n C d_Md_forget_8 rfl 0 rfl ?_
    refine zi_getR C zc_9 (k := 33) (by decide) zw_10 rfl hn_v0 hk_v0 d_Md_forget_9 (fun _ _ _ => rfl) hF (fun b1 hn_b1 hk_b1 hF => ?_)
    refine zi_iload_n C d_Md_forget_12 rfl 1 rfl ?_
    refine zi_lconst (v := 0) C d_Md_forget_13 (by decide) ?_
    refine zi_last C hn_b1 hk_b1 d_Md_forget_14 hF (fun M hF => ?_)
    refine zi_iinc (j := 1) (v0 := 1) C d_Md_forget_15 rfl (by decide) (by decide) hF (fun x2 => [(1, .int x2), (0, .ref (bs + v0))]) (fun _ => rfl) (fun x2 hF => ?_)
    refine zi_goto (tgt := 2) C d_Md_forget_18 (by decide) ?_
    refine zz_sub [1, 0] (lv' := [(0, .ref (bs + v0)), (1, .int x2)]) rfl ?_
    exact hk2 _ v0 x2 hn_v0 hk_v0 hF
set_option maxHeartbeats 4000000 in
set_option maxRecDepth 100000 in
theorem g_Md_forget_2 {p : Program} {l : Launch} {e : Env} {s : State} {m : MethodId} {args : Array Value} {below : List Frame} {meth : Method} {c : Code} {D : zzD} {bs : Nat} {A : Nat → Prop} {S : zzS} {hz : Nat} {out : Unit × zzM}  (C : zzC p s m args c prog_12_method_3_code "BoardScriptModel" 2 D) (hlocks : meth.locks = false) (hr : meth.sig.returnType = none) (hin : meth.name = "forget")    : ∀ (n : Nat) (M : zzM) (v0 : Nat) (v1 : Int32) (hn_v0 : v0 < S.2.1) (hk_v0 : zzk S v0 = 19) (hF : F_Md_forget_2 S   n M v0 v1 = some out), zzB p l e { frames := 0, cells := 0, slots := 0, locals := 0 } s m args below meth c 2 D bs A (MQ below (zzQc D bs A S out.2 hz none) args s 0 0 A) 0 0 S M hz 2 [(0, .ref (bs + v0)), (1, .int v1)] [] := by
  intro n
  induction n with
  | zero => intro M v0 v1 hn_v0 hk_v0 hF; cases hF
  | succ n ih => intro M v0 v1 hn_v0 hk_v0 hF; exact g_Md_forget_2_b C hlocks hr hin   ih M v0 v1 hn_v0 hk_v0 hF
def F_Md_forget (S : zzS)  (M : zzM) (v0 : Nat) : Option (Unit × zzM) := F_Md_forget_2 S   2000 M v0 (0 : Int32)
set_option maxHeartbeats 4000000 in
set_option maxRecDepth 100000 in
theorem c_Md_forget {l : Launch} {D : zzD} {bs : Nat} {A : Nat → Prop} {S : zzS} {M : zzM} {hz : Nat} {out : Unit × zzM} {v0 : Nat}   (hF : F_Md_forget S  M v0 = some out) (hn_v0 : v0 < S.2.1) (hk_v0 : zzk S v0 = 19) : Met l y_Md_forget (Cond.code y_Md_forget prog_12_method_3_code 2 none :: zzW) { frames := 0, cells := 0, slots := 0, locals := 0 } (zzPc D bs A S M hz [.ref (bs + v0)]) (zzQc D bs A S out.2 hz none) 0 0 A := by
  refine zz_met [.ref (bs + v0)] (by decide) (Nat.le_of_ble_eq_true rfl) (fun p e s m args below meth c C hr hlocks hin hsz => ?_)
  refine zz_eq (lv' := [(0, .ref (bs + v0))]) (st' := []) rfl rfl ?_
  unfold F_Md_forget at hF
  refine zi_iconst (v := 0) C d_Md_forget_0 (by decide) ?_
  refine zi_istore_n (lv' := [(1, .int (0 : Int32)), (0, .ref (bs + v0))]) C d_Md_forget_1 rfl (by decide) rfl ?_
  refine zz_sub [1, 0] (lv' := [(0, .ref (bs + v0)), (1, .int (0 : Int32))]) rfl ?_
  exact g_Md_forget_2 C hlocks hr hin   _ _ v0 (0 : Int32) hn_v0 hk_v0 hF
def F_Md_empty_22_b (S : zzS)  (k22 : zzM → Nat → Int32 → Option (Unit × zzM)) (M : zzM) (v0 : Nat) (v1 : Int32) : Option (Unit × zzM) := if (2 : Int32) ≤ v1 then (zzref S 1 (zzR M v0 6) fun b1 => zzlet (zzI M v0 3) fun x2 => zzlet ((600 : Int32) * x2) fun x3 => zzix S b1 x3 (zzlet (zzsI M b1 (x3).toNatClampNeg (20 : Int32)) fun M => zzcall (F_Md_forget S M v0) fun r4 M => some ((), M))) else (zzref S 1 (zzR M v0 4) fun b5 => zzix S b5 v1 (zzlet (zzsI M b5 (v1).toNatClampNeg (0 : Int32)) fun M => zzlet (v1 + (1 : Int32)) fun x6 => k22 M v0 x6))
def F_Md_empty_22 (S : zzS)   (n : Nat) : zzM → Nat → Int32 → Option (Unit × zzM) := Nat.rec (fun _ _ _ => none) (fun _ k => F_Md_empty_22_b S   k) n
set_option maxHeartbeats 4000000 in
set_option maxRecDepth 100000 in
theorem g_Md_empty_22_b {p : Program} {l : Launch} {e : Env} {s : State} {m : MethodId} {args : Array Value} {below : List Frame} {meth : Method} {c : Code} {D : zzD} {bs : Nat} {A : Nat → Prop} {S : zzS} {hz : Nat} {out : Unit × zzM}  (C : zzC p s m args c prog_12_method_2_code "BoardScriptModel" 2 D) (hlocks : meth.locks = false) (hr : meth.sig.returnType = none) (hin : meth.name = "empty")  {k22 : zzM → Nat → Int32 → Option (Unit × zzM)} (hk22 : ∀ (M : zzM) (v0 : Nat) (v1 : Int32) (hn_v0 : v0 < S.2.1) (hk_v0 : zzk S v0 = 19), k22 M v0 v1 = some out → zzB p l e { frames := 1, cells := 0, slots := 0, locals := 21 } s m args below meth c 2 D bs A (MQ below (zzQc D bs A S out.2 hz none) args s 0 0 A) 0 0 S M hz 22 [(0, .ref (bs + v0)), (1, .int v1)] []) (M : zzM) (v0 : Nat) (v1 : Int32) (hn_v0 : v0 < S.2.1) (hk_v0 : zzk S v0 = 19) (hF : F_Md_empty_22_b S  k22 M v0 v1 = some out) : zzB p l e { frames := 1, cells := 0, slots := 0, locals := 21 } s m args below meth c 2 D bs A (MQ below (zzQc D bs A S out.2 hz none) args s 0 0 A) 0 0 S M hz 22 [(0, .ref (bs + v0)), (1, .int v1)] [] := by
  unfold F_Md_empty_22_b at hF
  refine zi_iload_n C d_Md_empty_22 rfl 1 rfl ?_
  refine zi_iconst (v := 2) C d_Md_empty_23 (by decide) ?_
  refine zi_icmp_ge (tgt := 40) C d_Md_empty_24 (by decide) hF (fun hF => ?_) (fun hF => ?_)
  · refine zi_aload_n C d_Md_empty_40 rfl 0 rfl ?_
    refine zi_getR C zc_9 (k := 6) (by decide) zw_15 rfl hn_v0 hk_v0 d_Md_empty_41 (fun _ _ _ => rfl) hF (fun b1 hn_b1 hk_b1 hF => ?_)
    refine zi_sipush (v := 600) C d_Md_empty_44 (by decide) ?_
    refine zi_aload_n C d_Md_empty_47 rfl 0 rfl ?_
    refine zi_getI C zc_9 (k := 3) (by decide) zw_16 rfl hn_v0 hk_v0 d_Md_empty_48 (fun _ _ _ => rfl) hF (fun x2 hF => ?_)
    refine zi_imul C d_Md_empty_51 hF (fun x3 hF => ?_)
    refine zi_bipush (v := 20) C d_Md_empty_52 (by decide) ?_
    refine zi_iast C hn_b1 hk_b1 d_Md_empty_54 hF (fun M hF => ?_)
    refine zi_aload_n C d_Md_empty_55 rfl 0 rfl ?_
    obtain ⟨r4, M, hqr4, hF⟩ := zzcall_e hF
    refine zi_callV_v (M2 := M) (n := 0) (As := []) (st := []) C (c_Md_forget hqr4 hn_v0 hk_v0) zw_17 zw_18 (by decide +kernel) ⟨Nat.le_of_ble_eq_true rfl, Nat.le_of_ble_eq_true rfl⟩ rfl (Nat.le_of_ble_eq_true rfl) ⟨Nat.le_of_ble_eq_true rfl, Nat.le_of_ble_eq_true rfl⟩ zw_19 zw_20 zw_21 zc_9.1 hn_v0 hk_v0 rfl d_Md_empty_56 ?_
    exact zi_vret C hlocks hr d_Md_empty_59 rfl rfl (by cases hF; rfl) rfl
  · refine zi_aload_n C d_Md_empty_27 rfl 0 rfl ?_
    refine zi_getR C zc_9 (k := 4) (by decide) zw_22 rfl hn_v0 hk_v0 d_Md_empty_28 (fun _ _ _ => rfl) hF (fun b5 hn_b5 hk_b5 hF => ?_)
    refine zi_iload_n C d_Md_empty_31 rfl 1 rfl ?_
    refine zi_iconst (v := 0) C d_Md_empty_32 (by decide) ?_
    refine zi_iast C hn_b5 hk_b5 d_Md_empty_33 hF (fun M hF => ?_)
    refine zi_iinc (j := 1) (v0 := 1) C d_Md_empty_34 rfl (by decide) (by decide) hF (fun x6 => [(1, .int x6), (0, .ref (bs + v0))]) (fun _ => rfl) (fun x6 hF => ?_)
    refine zi_goto (tgt := 22) C d_Md_empty_37 (by decide) ?_
    refine zz_sub [1, 0] (lv' := [(0, .ref (bs + v0)), (1, .int x6)]) rfl ?_
    exact hk22 _ v0 x6 hn_v0 hk_v0 hF
set_option maxHeartbeats 4000000 in
set_option maxRecDepth 100000 in
theorem g_Md_empty_22 {p : Program} {l : Launch} {e : Env} {s : State} {m : MethodId} {args : Array Value} {below : List Frame} {meth : Method} {c : Code} {D : zzD} {bs : Nat} {A : Nat → Prop} {S : zzS} {hz : Nat} {out : Unit × zzM}  (C : zzC p s m args c prog_12_method_2_code "BoardScriptModel" 2 D) (hlocks : meth.locks = false) (hr : meth.sig.returnType = none) (hin : meth.name = "empty")    : ∀ (n : Nat) (M : zzM) (v0 : Nat) (v1 : Int32) (hn_v0 : v0 < S.2.1) (hk_v0 : zzk S v0 = 19) (hF : F_Md_empty_22 S   n M v0 v1 = some out), zzB p l e { frames := 1, cells := 0, slots := 0, locals := 21 } s m args below meth c 2 D bs A (MQ below (zzQc D bs A S out.2 hz none) args s 0 0 A) 0 0 S M hz 22 [(0, .ref (bs + v0)), (1, .int v1)] [] := by
  intro n
  induction n with
  | zero => intro M v0 v1 hn_v0 hk_v0 hF; cases hF
  | succ n ih => intro M v0 v1 hn_v0 hk_v0 hF; exact g_Md_empty_22_b C hlocks hr hin   ih M v0 v1 hn_v0 hk_v0 hF
def F_Md_empty (S : zzS)  (M : zzM) (v0 : Nat) : Option (Unit × zzM) := zzlet (zzsI M v0 1 (0 : Int32)) fun M => zzlet (zzsI M v0 28 (0 : Int32)) fun M => zzlet (zzsI M v0 30 (0 : Int32)) fun M => zzlet (zzsI M v0 32 (-1 : Int32)) fun M => F_Md_empty_22 S   2000 M v0 (0 : Int32)
set_option maxHeartbeats 4000000 in
set_option maxRecDepth 100000 in
theorem c_Md_empty {l : Launch} {D : zzD} {bs : Nat} {A : Nat → Prop} {S : zzS} {M : zzM} {hz : Nat} {out : Unit × zzM} {v0 : Nat}   (hF : F_Md_empty S  M v0 = some out) (hn_v0 : v0 < S.2.1) (hk_v0 : zzk S v0 = 19) : Met l y_Md_empty (Cond.code y_Md_empty prog_12_method_2_code 2 none :: zzW) { frames := 1, cells := 0, slots := 0, locals := 21 } (zzPc D bs A S M hz [.ref (bs + v0)]) (zzQc D bs A S out.2 hz none) 0 0 A := by
  refine zz_met [.ref (bs + v0)] (by decide) (Nat.le_of_ble_eq_true rfl) (fun p e s m args below meth c C hr hlocks hin hsz => ?_)
  refine zz_eq (lv' := [(0, .ref (bs + v0))]) (st' := []) rfl rfl ?_
  unfold F_Md_empty at hF
  refine zi_aload_n C d_Md_empty_0 rfl 0 rfl ?_
  refine zi_iconst (v := 0) C d_Md_empty_1 (by decide) ?_
  refine zi_putI C zc_9 (k := 1) (by decide) zw_11 rfl (Or.inl rfl) hn_v0 hk_v0 d_Md_empty_2 rfl hF (fun M hF => ?_)
  refine zi_aload_n C d_Md_empty_5 rfl 0 rfl ?_
  refine zi_iconst (v := 0) C d_Md_empty_6 (by decide) ?_
  refine zi_putI C zc_9 (k := 28) (by decide) zw_12 rfl (Or.inl rfl) hn_v0 hk_v0 d_Md_empty_7 rfl hF (fun M hF => ?_)
  refine zi_aload_n C d_Md_empty_10 rfl 0 rfl ?_
  refine zi_iconst (v := 0) C d_Md_empty_11 (by decide) ?_
  refine zi_putI C zc_9 (k := 30) (by decide) zw_13 rfl (Or.inl rfl) hn_v0 hk_v0 d_Md_empty_12 rfl hF (fun M hF => ?_)
  refine zi_aload_n C d_Md_empty_15 rfl 0 rfl ?_
  refine zi_iconst (v := -1) C d_Md_empty_16 (by decide) ?_
  refine zi_putI C zc_9 (k := 32) (by decide) zw_14 rfl (Or.inl rfl) hn_v0 hk_v0 d_Md_empty_17 rfl hF (fun M hF => ?_)
  refine zi_iconst (v := 0) C d_Md_empty_20 (by decide) ?_
  refine zi_istore_n (lv' := [(1, .int (0 : Int32)), (0, .ref (bs + v0))]) C d_Md_empty_21 rfl (by decide) rfl ?_
  refine zz_sub [1, 0] (lv' := [(0, .ref (bs + v0)), (1, .int (0 : Int32))]) rfl ?_
  exact g_Md_empty_22 C hlocks hr hin   _ _ v0 (0 : Int32) hn_v0 hk_v0 hF
def F_Md_thrown (S : zzS)  (M : zzM) (v0 : Nat) : Option (Int32 × zzM) := zzlet (zzI M v0 0) fun x1 => some (x1, M)
set_option maxHeartbeats 4000000 in
set_option maxRecDepth 100000 in
theorem c_Md_thrown {l : Launch} {D : zzD} {bs : Nat} {A : Nat → Prop} {S : zzS} {M : zzM} {hz : Nat} {out : Int32 × zzM} {v0 : Nat}   (hF : F_Md_thrown S  M v0 = some out) (hn_v0 : v0 < S.2.1) (hk_v0 : zzk S v0 = 19) : Met l y_Md_thrown (Cond.code y_Md_thrown prog_12_method_4_code 1 (some .int) :: zzW) { frames := 0, cells := 0, slots := 0, locals := 0 } (zzPc D bs A S M hz [.ref (bs + v0)]) (zzQc D bs A S out.2 hz (some (.int out.1))) 0 0 A := by
  refine zz_met [.ref (bs + v0)] (by decide) (Nat.le_of_ble_eq_true rfl) (fun p e s m args below meth c C hr hlocks hin hsz => ?_)
  refine zz_eq (lv' := [(0, .ref (bs + v0))]) (st' := []) rfl rfl ?_
  unfold F_Md_thrown at hF
  refine zi_aload_n C d_Md_thrown_0 rfl 0 rfl ?_
  refine zi_getI C zc_9 (k := 0) (by decide) zw_23 rfl hn_v0 hk_v0 d_Md_thrown_1 (fun _ _ _ => rfl) hF (fun x1 hF => ?_)
  exact zi_iret C hlocks hr d_Md_thrown_4 (by cases hF; rfl) rfl (by cases hF; rfl) rfl
def F_Md_clear (S : zzS)  (M : zzM) (v0 : Nat) : Option (Unit × zzM) := zzlet (zzsI M v0 0 (0 : Int32)) fun M => zzcall (F_Md_empty S M v0) fun r1 M => some ((), M)
set_option maxHeartbeats 4000000 in
set_option maxRecDepth 100000 in
theorem c_Md_clear {l : Launch} {D : zzD} {bs : Nat} {A : Nat → Prop} {S : zzS} {M : zzM} {hz : Nat} {out : Unit × zzM} {v0 : Nat}   (hF : F_Md_clear S  M v0 = some out) (hn_v0 : v0 < S.2.1) (hk_v0 : zzk S v0 = 19) : Met l y_Md_clear (Cond.code y_Md_clear prog_12_method_5_code 1 none :: zzW) { frames := 2, cells := 0, slots := 0, locals := 42 } (zzPc D bs A S M hz [.ref (bs + v0)]) (zzQc D bs A S out.2 hz none) 0 0 A := by
  refine zz_met [.ref (bs + v0)] (by decide) (Nat.le_of_ble_eq_true rfl) (fun p e s m args below meth c C hr hlocks hin hsz => ?_)
  refine zz_eq (lv' := [(0, .ref (bs + v0))]) (st' := []) rfl rfl ?_
  unfold F_Md_clear at hF
  refine zi_aload_n C d_Md_clear_0 rfl 0 rfl ?_
  refine zi_iconst (v := 0) C d_Md_clear_1 (by decide) ?_
  refine zi_putI C zc_9 (k := 0) (by decide) zw_23 rfl (Or.inl rfl) hn_v0 hk_v0 d_Md_clear_2 rfl hF (fun M hF => ?_)
  refine zi_aload_n C d_Md_clear_5 rfl 0 rfl ?_
  obtain ⟨r1, M, hqr1, hF⟩ := zzcall_e hF
  refine zi_callV_v (M2 := M) (n := 0) (As := []) (st := []) C (c_Md_empty hqr1 hn_v0 hk_v0) zw_24 zw_18 (by decide +kernel) ⟨Nat.le_of_ble_eq_true rfl, Nat.le_of_ble_eq_true rfl⟩ rfl (Nat.le_of_ble_eq_true rfl) ⟨Nat.le_of_ble_eq_true rfl, Nat.le_of_ble_eq_true rfl⟩ zw_25 zw_26 zw_27 zc_9.1 hn_v0 hk_v0 rfl d_Md_clear_6 ?_
  exact zi_vret C hlocks hr d_Md_clear_9 rfl rfl (by cases hF; rfl) rfl
def F_Md_unit_23 (S : zzS)   (M : zzM) (v0 : Nat) (v1 : Int32) : Option (Int32 × zzM) := zzlet (zzI M v0 1) fun x1 => if x1 = (400 : Int32) then (some ((0 : Int32), M)) else (zzref S 1 (zzR M v0 2) fun b2 => zzlet (zzI M v0 1) fun x3 => zzix S b2 x3 (zzlet (zzsI M b2 (x3).toNatClampNeg v1) fun M => zzlet (zzI M v0 1) fun x4 => zzlet (x4 + (1 : Int32)) fun x5 => zzlet (zzsI M v0 1 x5) fun M => some ((1 : Int32), M)))
set_option maxHeartbeats 4000000 in
set_option maxRecDepth 100000 in
theorem g_Md_unit_23 {p : Program} {l : Launch} {e : Env} {s : State} {m : MethodId} {args : Array Value} {below : List Frame} {meth : Method} {c : Code} {D : zzD} {bs : Nat} {A : Nat → Prop} {S : zzS} {hz : Nat} {out : Int32 × zzM}  (C : zzC p s m args c prog_12_method_6_code "BoardScriptModel" 2 D) (hlocks : meth.locks = false) (hr : meth.sig.returnType = (some .boolean)) (hin : meth.name = "unit")    (M : zzM) (v0 : Nat) (v1 : Int32) (hn_v0 : v0 < S.2.1) (hk_v0 : zzk S v0 = 19) (hF : F_Md_unit_23 S   M v0 v1 = some out) : zzB p l e { frames := 0, cells := 0, slots := 0, locals := 0 } s m args below meth c 2 D bs A (MQ below (zzQc D bs A S out.2 hz (some (.int out.1))) args s 0 0 A) 0 0 S M hz 23 [(0, .ref (bs + v0)), (1, .int v1)] [] := by
  unfold F_Md_unit_23 at hF
  refine zi_aload_n C d_Md_unit_23 rfl 0 rfl ?_
  refine zi_getI C zc_9 (k := 1) (by decide) zw_11 rfl hn_v0 hk_v0 d_Md_unit_24 (fun _ _ _ => rfl) hF (fun x1 hF => ?_)
  refine zi_sipush (v := 400) C d_Md_unit_27 (by decide) ?_
  refine zi_icmp_ne (tgt := 35) C d_Md_unit_30 (by decide) hF (fun hF => ?_) (fun hF => ?_)
  · refine zi_aload_n C d_Md_unit_35 rfl 0 rfl ?_
    refine zi_getR C zc_9 (k := 2) (by decide) zw_28 rfl hn_v0 hk_v0 d_Md_unit_36 (fun _ _ _ => rfl) hF (fun b2 hn_b2 hk_b2 hF => ?_)
    refine zi_aload_n C d_Md_unit_39 rfl 0 rfl ?_
    refine zi_getI C zc_9 (k := 1) (by decide) zw_11 rfl hn_v0 hk_v0 d_Md_unit_40 (fun _ _ _ => rfl) hF (fun x3 hF => ?_)
    refine zi_iload_n C d_Md_unit_43 rfl 1 rfl ?_
    refine zi_iast C hn_b2 hk_b2 d_Md_unit_44 hF (fun M hF => ?_)
    refine zi_aload_n C d_Md_unit_45 rfl 0 rfl ?_
    refine zi_dup C d_Md_unit_46 rfl ?_
    refine zi_getI C zc_9 (k := 1) (by decide) zw_11 rfl hn_v0 hk_v0 d_Md_unit_47 (fun _ _ _ => rfl) hF (fun x4 hF => ?_)
    refine zi_iconst (v := 1) C d_Md_unit_50 (by decide) ?_
    refine zi_iadd C d_Md_unit_51 hF (fun x5 hF => ?_)
    refine zi_putI C zc_9 (k := 1) (by decide) zw_11 rfl (Or.inl rfl) hn_v0 hk_v0 d_Md_unit_52 rfl hF (fun M hF => ?_)
    refine zi_iconst (v := 1) C d_Md_unit_55 (by decide) ?_
    exact zi_zret C hlocks hr (by decide +kernel) d_Md_unit_56 (by cases hF; rfl) rfl (by cases hF; rfl) rfl
  · refine zi_iconst (v := 0) C d_Md_unit_33 (by decide) ?_
    exact zi_zret C hlocks hr (by decide +kernel) d_Md_unit_34 (by cases hF; rfl) rfl (by cases hF; rfl) rfl
def F_Md_unit (S : zzS)  (M : zzM) (v0 : Nat) (v1 : Int32) : Option (Int32 × zzM) := zzlet (zzsI M v0 0 (0 : Int32)) fun M => if v1 = (10 : Int32) then (F_Md_unit_23 S   M v0 v1) else (if v1 < (32 : Int32) then (some ((0 : Int32), M)) else (if (126 : Int32) < v1 then (some ((0 : Int32), M)) else (F_Md_unit_23 S   M v0 v1)))
set_option maxHeartbeats 4000000 in
set_option maxRecDepth 100000 in
theorem c_Md_unit {l : Launch} {D : zzD} {bs : Nat} {A : Nat → Prop} {S : zzS} {M : zzM} {hz : Nat} {out : Int32 × zzM} {v0 : Nat} {v1 : Int32}   (hF : F_Md_unit S  M v0 v1 = some out) (hn_v0 : v0 < S.2.1) (hk_v0 : zzk S v0 = 19) : Met l y_Md_unit (Cond.code y_Md_unit prog_12_method_6_code 2 (some .boolean) :: zzW) { frames := 0, cells := 0, slots := 0, locals := 0 } (zzPc D bs A S M hz [.ref (bs + v0), .int v1]) (zzQc D bs A S out.2 hz (some (.int out.1))) 0 0 A := by
  refine zz_met [.ref (bs + v0), .int v1] (by decide) (Nat.le_of_ble_eq_true rfl) (fun p e s m args below meth c C hr hlocks hin hsz => ?_)
  refine zz_eq (lv' := [(0, .ref (bs + v0)), (1, .int v1)]) (st' := []) rfl rfl ?_
  unfold F_Md_unit at hF
  refine zi_aload_n C d_Md_unit_0 rfl 0 rfl ?_
  refine zi_iconst (v := 0) C d_Md_unit_1 (by decide) ?_
  refine zi_putI C zc_9 (k := 0) (by decide) zw_23 rfl (Or.inl rfl) hn_v0 hk_v0 d_Md_unit_2 rfl hF (fun M hF => ?_)
  refine zi_iload_n C d_Md_unit_5 rfl 1 rfl ?_
  refine zi_bipush (v := 10) C d_Md_unit_6 (by decide) ?_
  refine zi_icmp_eq (tgt := 23) C d_Md_unit_8 (by decide) hF (fun hF => ?_) (fun hF => ?_)
  · refine zz_sub [0, 1] (lv' := [(0, .ref (bs + v0)), (1, .int v1)]) rfl ?_
    exact g_Md_unit_23 C hlocks hr hin   _ v0 v1 hn_v0 hk_v0 hF
  · refine zi_iload_n C d_Md_unit_11 rfl 1 rfl ?_
    refine zi_bipush (v := 32) C d_Md_unit_12 (by decide) ?_
    refine zi_icmp_lt (tgt := 33) C d_Md_unit_14 (by decide) hF (fun hF => ?_) (fun hF => ?_)
    · refine zi_iconst (v := 0) C d_Md_unit_33 (by decide) ?_
      exact zi_zret C hlocks hr (by decide +kernel) d_Md_unit_34 (by cases hF; rfl) rfl (by cases hF; rfl) rfl
    · refine zi_iload_n C d_Md_unit_17 rfl 1 rfl ?_
      refine zi_bipush (v := 126) C d_Md_unit_18 (by decide) ?_
      refine zi_icmp_gt (tgt := 33) C d_Md_unit_20 (by decide) hF (fun hF => ?_) (fun hF => ?_)
      · refine zi_iconst (v := 0) C d_Md_unit_33 (by decide) ?_
        exact zi_zret C hlocks hr (by decide +kernel) d_Md_unit_34 (by cases hF; rfl) rfl (by cases hF; rfl) rfl
      · refine zz_sub [0, 1] (lv' := [(0, .ref (bs + v0)), (1, .int v1)]) rfl ?_
        exact g_Md_unit_23 C hlocks hr hin   _ v0 v1 hn_v0 hk_v0 hF
def F_Md_peek (S : zzS)  (M : zzM) (v0 : Nat) : Option (Int32 × zzM) := zzlet (zzI M v0 16) fun x1 => zzlet (zzI M v0 1) fun x2 => if x2 ≤ x1 then (some ((-1 : Int32), M)) else (zzref S 1 (zzR M v0 2) fun b3 => zzlet (zzI M v0 16) fun x4 => zzix S b3 x4 (zzlet (zzI M b3 (x4).toNatClampNeg) fun x5 => some (x5, M)))
set_option maxHeartbeats 4000000 in
set_option maxRecDepth 100000 in
theorem c_Md_peek {l : Launch} {D : zzD} {bs : Nat} {A : Nat → Prop} {S : zzS} {M : zzM} {hz : Nat} {out : Int32 × zzM} {v0 : Nat}   (hF : F_Md_peek S  M v0 = some out) (hn_v0 : v0 < S.2.1) (hk_v0 : zzk S v0 = 19) : Met l y_Md_peek (Cond.code y_Md_peek prog_12_method_7_code 1 (some .int) :: zzW) { frames := 0, cells := 0, slots := 0, locals := 0 } (zzPc D bs A S M hz [.ref (bs + v0)]) (zzQc D bs A S out.2 hz (some (.int out.1))) 0 0 A := by
  refine zz_met [.ref (bs + v0)] (by decide) (Nat.le_of_ble_eq_true rfl) (fun p e s m args below meth c C hr hlocks hin hsz => ?_)
  refine zz_eq (lv' := [(0, .ref (bs + v0))]) (st' := []) rfl rfl ?_
  unfold F_Md_peek at hF
  refine zi_aload_n C d_Md_peek_0 rfl 0 rfl ?_
  refine zi_getI C zc_9 (k := 16) (by decide) zw_29 rfl hn_v0 hk_v0 d_Md_peek_1 (fun _ _ _ => rfl) hF (fun x1 hF => ?_)
  refine zi_aload_n C d_Md_peek_4 rfl 0 rfl ?_
  refine zi_getI C zc_9 (k := 1) (by decide) zw_11 rfl hn_v0 hk_v0 d_Md_peek_5 (fun _ _ _ => rfl) hF (fun x2 hF => ?_)
  refine zi_icmp_ge (tgt := 23) C d_Md_peek_8 (by decide) hF (fun hF => ?_) (fun hF => ?_)
  · refine zi_iconst (v := -1) C d_Md_peek_23 (by decide) ?_
    exact zi_iret C hlocks hr d_Md_peek_24 (by cases hF; rfl) rfl (by cases hF; rfl) rfl
  · refine zi_aload_n C d_Md_peek_11 rfl 0 rfl ?_
    refine zi_getR C zc_9 (k := 2) (by decide) zw_28 rfl hn_v0 hk_v0 d_Md_peek_12 (fun _ _ _ => rfl) hF (fun b3 hn_b3 hk_b3 hF => ?_)
    refine zi_aload_n C d_Md_peek_15 rfl 0 rfl ?_
    refine zi_getI C zc_9 (k := 16) (by decide) zw_29 rfl hn_v0 hk_v0 d_Md_peek_16 (fun _ _ _ => rfl) hF (fun x4 hF => ?_)
    refine zi_iald C hn_b3 hk_b3 d_Md_peek_19 hF (fun x5 hF => ?_)
    refine zi_goto (tgt := 24) C d_Md_peek_20 (by decide) ?_
    exact zi_iret C hlocks hr d_Md_peek_24 (by cases hF; rfl) rfl (by cases hF; rfl) rfl
def F_Md_expect (S : zzS)  (M : zzM) (v0 : Nat) (v1 : Int32) : Option (Unit × zzM) := zzlet (zzI M v0 17) fun x1 => if x1 = (-1 : Int32) then (zzcall (F_Md_peek S M v0) fun r2 M => if r2 = v1 then (zzlet (zzI M v0 16) fun x4 => zzlet (x4 + (1 : Int32)) fun x5 => zzlet (zzsI M v0 16 x5) fun M => some ((), M)) else (zzlet (zzI M v0 16) fun x3 => zzlet (zzsI M v0 17 x3) fun M => some ((), M))) else (some ((), M))
set_option maxHeartbeats 4000000 in
set_option maxRecDepth 100000 in
theorem c_Md_expect {l : Launch} {D : zzD} {bs : Nat} {A : Nat → Prop} {S : zzS} {M : zzM} {hz : Nat} {out : Unit × zzM} {v0 : Nat} {v1 : Int32}   (hF : F_Md_expect S  M v0 v1 = some out) (hn_v0 : v0 < S.2.1) (hk_v0 : zzk S v0 = 19) : Met l y_Md_expect (Cond.code y_Md_expect prog_12_method_8_code 2 none :: zzW) { frames := 1, cells := 0, slots := 0, locals := 20 } (zzPc D bs A S M hz [.ref (bs + v0), .int v1]) (zzQc D bs A S out.2 hz none) 0 0 A := by
  refine zz_met [.ref (bs + v0), .int v1] (by decide) (Nat.le_of_ble_eq_true rfl) (fun p e s m args below meth c C hr hlocks hin hsz => ?_)
  refine zz_eq (lv' := [(0, .ref (bs + v0)), (1, .int v1)]) (st' := []) rfl rfl ?_
  unfold F_Md_expect at hF
  refine zi_aload_n C d_Md_expect_0 rfl 0 rfl ?_
  refine zi_getI C zc_9 (k := 17) (by decide) zw_30 rfl hn_v0 hk_v0 d_Md_expect_1 (fun _ _ _ => rfl) hF (fun x1 hF => ?_)
  refine zi_iconst (v := -1) C d_Md_expect_4 (by decide) ?_
  refine zi_icmp_eq (tgt := 9) C d_Md_expect_5 (by decide) hF (fun hF => ?_) (fun hF => ?_)
  · refine zi_aload_n C d_Md_expect_9 rfl 0 rfl ?_
    obtain ⟨r2, M, hqr2, hF⟩ := zzcall_e hF
    refine zi_callV_i (M2 := M) (r := r2) (n := 0) (As := []) (st := []) C (c_Md_peek hqr2 hn_v0 hk_v0) zw_31 zw_18 (by decide +kernel) ⟨Nat.le_of_ble_eq_true rfl, Nat.le_of_ble_eq_true rfl⟩ rfl (Nat.le_of_ble_eq_true rfl) ⟨Nat.le_of_ble_eq_true rfl, Nat.le_of_ble_eq_true rfl⟩ zw_32 zw_33 zw_34 zc_9.1 hn_v0 hk_v0 rfl d_Md_expect_10 ?_
    refine zi_iload_n C d_Md_expect_13 rfl 1 rfl ?_
    refine zi_icmp_ne (tgt := 30) C d_Md_expect_14 (by decide) hF (fun hF => ?_) (fun hF => ?_)
    · refine zi_aload_n C d_Md_expect_30 rfl 0 rfl ?_
      refine zi_aload_n C d_Md_expect_31 rfl 0 rfl ?_
      refine zi_getI C zc_9 (k := 16) (by decide) zw_29 rfl hn_v0 hk_v0 d_Md_expect_32 (fun _ _ _ => rfl) hF (fun x3 hF => ?_)
      refine zi_putI C zc_9 (k := 17) (by decide) zw_30 rfl (Or.inl rfl) hn_v0 hk_v0 d_Md_expect_35 rfl hF (fun M hF => ?_)
      exact zi_vret C hlocks hr d_Md_expect_38 rfl rfl (by cases hF; rfl) rfl
    · refine zi_aload_n C d_Md_expect_17 rfl 0 rfl ?_
      refine zi_dup C d_Md_expect_18 rfl ?_
      refine zi_getI C zc_9 (k := 16) (by decide) zw_29 rfl hn_v0 hk_v0 d_Md_expect_19 (fun _ _ _ => rfl) hF (fun x4 hF => ?_)
      refine zi_iconst (v := 1) C d_Md_expect_22 (by decide) ?_
      refine zi_iadd C d_Md_expect_23 hF (fun x5 hF => ?_)
      refine zi_putI C zc_9 (k := 16) (by decide) zw_29 rfl (Or.inl rfl) hn_v0 hk_v0 d_Md_expect_24 rfl hF (fun M hF => ?_)
      refine zi_goto (tgt := 38) C d_Md_expect_27 (by decide) ?_
      exact zi_vret C hlocks hr d_Md_expect_38 rfl rfl (by cases hF; rfl) rfl
  · exact zi_vret C hlocks hr d_Md_expect_8 rfl rfl (by cases hF; rfl) rfl
def F_Md_isDigit (S : zzS)  (M : zzM) (v0 : Int32) : Option (Int32 × zzM) := if v0 < (48 : Int32) then (some ((0 : Int32), M)) else (if (57 : Int32) < v0 then (some ((0 : Int32), M)) else (some ((1 : Int32), M)))
set_option maxHeartbeats 4000000 in
set_option maxRecDepth 100000 in
theorem c_Md_isDigit {l : Launch} {D : zzD} {bs : Nat} {A : Nat → Prop} {S : zzS} {M : zzM} {hz : Nat} {out : Int32 × zzM} {v0 : Int32}   (hF : F_Md_isDigit S  M v0 = some out)  : Met l y_Md_isDigit (Cond.code y_Md_isDigit prog_12_method_9_code 1 (some .boolean) :: zzW) { frames := 0, cells := 0, slots := 0, locals := 0 } (zzPc D bs A S M hz [.int v0]) (zzQc D bs A S out.2 hz (some (.int out.1))) 0 0 A := by
  refine zz_met [.int v0] (by decide) (Nat.le_of_ble_eq_true rfl) (fun p e s m args below meth c C hr hlocks hin hsz => ?_)
  refine zz_eq (lv' := [(0, .int v0)]) (st' := []) rfl rfl ?_
  unfold F_Md_isDigit at hF
  refine zi_iload_n C d_Md_isDigit_0 rfl 0 rfl ?_
  refine zi_bipush (v := 48) C d_Md_isDigit_1 (by decide) ?_
  refine zi_icmp_lt (tgt := 16) C d_Md_isDigit_3 (by decide) hF (fun hF => ?_) (fun hF => ?_)
  · refine zi_iconst (v := 0) C d_Md_isDigit_16 (by decide) ?_
    exact zi_zret C hlocks hr (by decide +kernel) d_Md_isDigit_17 (by cases hF; rfl) rfl (by cases hF; rfl) rfl
  · refine zi_iload_n C d_Md_isDigit_6 rfl 0 rfl ?_
    refine zi_bipush (v := 57) C d_Md_isDigit_7 (by decide) ?_
    refine zi_icmp_gt (tgt := 16) C d_Md_isDigit_9 (by decide) hF (fun hF => ?_) (fun hF => ?_)
    · refine zi_iconst (v := 0) C d_Md_isDigit_16 (by decide) ?_
      exact zi_zret C hlocks hr (by decide +kernel) d_Md_isDigit_17 (by cases hF; rfl) rfl (by cases hF; rfl) rfl
    · refine zi_iconst (v := 1) C d_Md_isDigit_12 (by decide) ?_
      refine zi_goto (tgt := 17) C d_Md_isDigit_13 (by decide) ?_
      exact zi_zret C hlocks hr (by decide +kernel) d_Md_isDigit_17 (by cases hF; rfl) rfl (by cases hF; rfl) rfl
def F_Md_isVariable (S : zzS)  (M : zzM) (v0 : Int32) : Option (Int32 × zzM) := if v0 < (97 : Int32) then (some ((0 : Int32), M)) else (if (122 : Int32) < v0 then (some ((0 : Int32), M)) else (some ((1 : Int32), M)))
set_option maxHeartbeats 4000000 in
set_option maxRecDepth 100000 in
theorem c_Md_isVariable {l : Launch} {D : zzD} {bs : Nat} {A : Nat → Prop} {S : zzS} {M : zzM} {hz : Nat} {out : Int32 × zzM} {v0 : Int32}   (hF : F_Md_isVariable S  M v0 = some out)  : Met l y_Md_isVariable (Cond.code y_Md_isVariable prog_12_method_10_code 1 (some .boolean) :: zzW) { frames := 0, cells := 0, slots := 0, locals := 0 } (zzPc D bs A S M hz [.int v0]) (zzQc D bs A S out.2 hz (some (.int out.1))) 0 0 A := by
  refine zz_met [.int v0] (by decide) (Nat.le_of_ble_eq_true rfl) (fun p e s m args below meth c C hr hlocks hin hsz => ?_)
  refine zz_eq (lv' := [(0, .int v0)]) (st' := []) rfl rfl ?_
  unfold F_Md_isVariable at hF
  refine zi_iload_n C d_Md_isVariable_0 rfl 0 rfl ?_
  refine zi_bipush (v := 97) C d_Md_isVariable_1 (by decide) ?_
  refine zi_icmp_lt (tgt := 16) C d_Md_isVariable_3 (by decide) hF (fun hF => ?_) (fun hF => ?_)
  · refine zi_iconst (v := 0) C d_Md_isVariable_16 (by decide) ?_
    exact zi_zret C hlocks hr (by decide +kernel) d_Md_isVariable_17 (by cases hF; rfl) rfl (by cases hF; rfl) rfl
  · refine zi_iload_n C d_Md_isVariable_6 rfl 0 rfl ?_
    refine zi_bipush (v := 122) C d_Md_isVariable_7 (by decide) ?_
    refine zi_icmp_gt (tgt := 16) C d_Md_isVariable_9 (by decide) hF (fun hF => ?_) (fun hF => ?_)
    · refine zi_iconst (v := 0) C d_Md_isVariable_16 (by decide) ?_
      exact zi_zret C hlocks hr (by decide +kernel) d_Md_isVariable_17 (by cases hF; rfl) rfl (by cases hF; rfl) rfl
    · refine zi_iconst (v := 1) C d_Md_isVariable_12 (by decide) ?_
      refine zi_goto (tgt := 17) C d_Md_isVariable_13 (by decide) ?_
      exact zi_zret C hlocks hr (by decide +kernel) d_Md_isVariable_17 (by cases hF; rfl) rfl (by cases hF; rfl) rfl
def F_Md_isFunction (S : zzS)  (M : zzM) (v0 : Int32) : Option (Int32 × zzM) := if v0 < (65 : Int32) then (some ((0 : Int32), M)) else (if (90 : Int32) < v0 then (some ((0 : Int32), M)) else (some ((1 : Int32), M)))
set_option maxHeartbeats 4000000 in
set_option maxRecDepth 100000 in
theorem c_Md_isFunction {l : Launch} {D : zzD} {bs : Nat} {A : Nat → Prop} {S : zzS} {M : zzM} {hz : Nat} {out : Int32 × zzM} {v0 : Int32}   (hF : F_Md_isFunction S  M v0 = some out)  : Met l y_Md_isFunction (Cond.code y_Md_isFunction prog_12_method_11_code 1 (some .boolean) :: zzW) { frames := 0, cells := 0, slots := 0, locals := 0 } (zzPc D bs A S M hz [.int v0]) (zzQc D bs A S out.2 hz (some (.int out.1))) 0 0 A := by
  refine zz_met [.int v0] (by decide) (Nat.le_of_ble_eq_true rfl) (fun p e s m args below meth c C hr hlocks hin hsz => ?_)
  refine zz_eq (lv' := [(0, .int v0)]) (st' := []) rfl rfl ?_
  unfold F_Md_isFunction at hF
  refine zi_iload_n C d_Md_isFunction_0 rfl 0 rfl ?_
  refine zi_bipush (v := 65) C d_Md_isFunction_1 (by decide) ?_
  refine zi_icmp_lt (tgt := 16) C d_Md_isFunction_3 (by decide) hF (fun hF => ?_) (fun hF => ?_)
  · refine zi_iconst (v := 0) C d_Md_isFunction_16 (by decide) ?_
    exact zi_zret C hlocks hr (by decide +kernel) d_Md_isFunction_17 (by cases hF; rfl) rfl (by cases hF; rfl) rfl
  · refine zi_iload_n C d_Md_isFunction_6 rfl 0 rfl ?_
    refine zi_bipush (v := 90) C d_Md_isFunction_7 (by decide) ?_
    refine zi_icmp_gt (tgt := 16) C d_Md_isFunction_9 (by decide) hF (fun hF => ?_) (fun hF => ?_)
    · refine zi_iconst (v := 0) C d_Md_isFunction_16 (by decide) ?_
      exact zi_zret C hlocks hr (by decide +kernel) d_Md_isFunction_17 (by cases hF; rfl) rfl (by cases hF; rfl) rfl
    · refine zi_iconst (v := 1) C d_Md_isFunction_12 (by decide) ?_
      refine zi_goto (tgt := 17) C d_Md_isFunction_13 (by decide) ?_
      exact zi_zret C hlocks hr (by decide +kernel) d_Md_isFunction_17 (by cases hF; rfl) rfl (by cases hF; rfl) rfl
def F_Md_code (S : zzS)  (M : zzM) (v0 : Nat) (v1 : Int32) (v2 : Int32) : Option (Unit × zzM) := zzref S 1 (zzR M v0 13) fun b1 => zzlet (zzI M v0 15) fun x2 => zzlet ((1000 : Int32) * x2) fun x3 => zzlet (zzI M v0 19) fun x4 => zzlet (x3 + x4) fun x5 => zzix S b1 x5 (zzlet (zzsI M b1 (x5).toNatClampNeg v1) fun M => zzref S 1 (zzR M v0 14) fun b6 => zzlet (zzI M v0 15) fun x7 => zzlet ((1000 : Int32) * x7) fun x8 => zzlet (zzI M v0 19) fun x9 => zzlet (x8 + x9) fun x10 => zzix S b6 x10 (zzlet (zzsI M b6 (x10).toNatClampNeg v2) fun M => zzlet (zzI M v0 19) fun x11 => zzlet (x11 + (1 : Int32)) fun x12 => zzlet (zzsI M v0 19 x12) fun M => some ((), M)))
set_option maxHeartbeats 4000000 in
set_option maxRecDepth 100000 in
theorem c_Md_code {l : Launch} {D : zzD} {bs : Nat} {A : Nat → Prop} {S : zzS} {M : zzM} {hz : Nat} {out : Unit × zzM} {v0 : Nat} {v1 : Int32} {v2 : Int32}   (hF : F_Md_code S  M v0 v1 v2 = some out) (hn_v0 : v0 < S.2.1) (hk_v0 : zzk S v0 = 19) : Met l y_Md_code (Cond.code y_Md_code prog_12_method_12_code 3 none :: zzW) { frames := 0, cells := 0, slots := 0, locals := 0 } (zzPc D bs A S M hz [.ref (bs + v0), .int v1, .int v2]) (zzQc D bs A S out.2 hz none) 0 0 A := by
  refine zz_met [.ref (bs + v0), .int v1, .int v2] (by decide) (Nat.le_of_ble_eq_true rfl) (fun p e s m args below meth c C hr hlocks hin hsz => ?_)
  refine zz_eq (lv' := [(0, .ref (bs + v0)), (1, .int v1), (2, .int v2)]) (st' := []) rfl rfl ?_
  unfold F_Md_code at hF
  refine zi_aload_n C d_Md_code_0 rfl 0 rfl ?_
  refine zi_getR C zc_9 (k := 13) (by decide) zw_35 rfl hn_v0 hk_v0 d_Md_code_1 (fun _ _ _ => rfl) hF (fun b1 hn_b1 hk_b1 hF => ?_)
  refine zi_sipush (v := 1000) C d_Md_code_4 (by decide) ?_
  refine zi_aload_n C d_Md_code_7 rfl 0 rfl ?_
  refine zi_getI C zc_9 (k := 15) (by decide) zw_36 rfl hn_v0 hk_v0 d_Md_code_8 (fun _ _ _ => rfl) hF (fun x2 hF => ?_)
  refine zi_imul C d_Md_code_11 hF (fun x3 hF => ?_)
  refine zi_aload_n C d_Md_code_12 rfl 0 rfl ?_
  refine zi_getI C zc_9 (k := 19) (by decide) zw_37 rfl hn_v0 hk_v0 d_Md_code_13 (fun _ _ _ => rfl) hF (fun x4 hF => ?_)
  refine zi_iadd C d_Md_code_16 hF (fun x5 hF => ?_)
  refine zi_iload_n C d_Md_code_17 rfl 1 rfl ?_
  refine zi_iast C hn_b1 hk_b1 d_Md_code_18 hF (fun M hF => ?_)
  refine zi_aload_n C d_Md_code_19 rfl 0 rfl ?_
  refine zi_getR C zc_9 (k := 14) (by decide) zw_38 rfl hn_v0 hk_v0 d_Md_code_20 (fun _ _ _ => rfl) hF (fun b6 hn_b6 hk_b6 hF => ?_)
  refine zi_sipush (v := 1000) C d_Md_code_23 (by decide) ?_
  refine zi_aload_n C d_Md_code_26 rfl 0 rfl ?_
  refine zi_getI C zc_9 (k := 15) (by decide) zw_36 rfl hn_v0 hk_v0 d_Md_code_27 (fun _ _ _ => rfl) hF (fun x7 hF => ?_)
  refine zi_imul C d_Md_code_30 hF (fun x8 hF => ?_)
  refine zi_aload_n C d_Md_code_31 rfl 0 rfl ?_
  refine zi_getI C zc_9 (k := 19) (by decide) zw_37 rfl hn_v0 hk_v0 d_Md_code_32 (fun _ _ _ => rfl) hF (fun x9 hF => ?_)
  refine zi_iadd C d_Md_code_35 hF (fun x10 hF => ?_)
  refine zi_iload_n C d_Md_code_36 rfl 2 rfl ?_
  refine zi_iast C hn_b6 hk_b6 d_Md_code_37 hF (fun M hF => ?_)
  refine zi_aload_n C d_Md_code_38 rfl 0 rfl ?_
  refine zi_dup C d_Md_code_39 rfl ?_
  refine zi_getI C zc_9 (k := 19) (by decide) zw_37 rfl hn_v0 hk_v0 d_Md_code_40 (fun _ _ _ => rfl) hF (fun x11 hF => ?_)
  refine zi_iconst (v := 1) C d_Md_code_43 (by decide) ?_
  refine zi_iadd C d_Md_code_44 hF (fun x12 hF => ?_)
  refine zi_putI C zc_9 (k := 19) (by decide) zw_37 rfl (Or.inl rfl) hn_v0 hk_v0 d_Md_code_45 rfl hF (fun M hF => ?_)
  exact zi_vret C hlocks hr d_Md_code_48 rfl rfl (by cases hF; rfl) rfl
def F_Md_isNest (S : zzS)  (M : zzM) (v0 : Int32) : Option (Int32 × zzM) := if v0 = (45 : Int32) then (some ((1 : Int32), M)) else (if v0 = (40 : Int32) then (some ((1 : Int32), M)) else (if v0 = (64 : Int32) then (some ((1 : Int32), M)) else (if v0 = (39 : Int32) then (some ((1 : Int32), M)) else (some ((0 : Int32), M)))))
set_option maxHeartbeats 4000000 in
set_option maxRecDepth 100000 in
theorem c_Md_isNest {l : Launch} {D : zzD} {bs : Nat} {A : Nat → Prop} {S : zzS} {M : zzM} {hz : Nat} {out : Int32 × zzM} {v0 : Int32}   (hF : F_Md_isNest S  M v0 = some out)  : Met l y_Md_isNest (Cond.code y_Md_isNest prog_12_method_13_code 1 (some .boolean) :: zzW) { frames := 0, cells := 0, slots := 0, locals := 0 } (zzPc D bs A S M hz [.int v0]) (zzQc D bs A S out.2 hz (some (.int out.1))) 0 0 A := by
  refine zz_met [.int v0] (by decide) (Nat.le_of_ble_eq_true rfl) (fun p e s m args below meth c C hr hlocks hin hsz => ?_)
  refine zz_eq (lv' := [(0, .int v0)]) (st' := []) rfl rfl ?_
  unfold F_Md_isNest at hF
  refine zi_iload_n C d_Md_isNest_0 rfl 0 rfl ?_
  refine zi_bipush (v := 45) C d_Md_isNest_1 (by decide) ?_
  refine zi_icmp_eq (tgt := 24) C d_Md_isNest_3 (by decide) hF (fun hF => ?_) (fun hF => ?_)
  · refine zi_iconst (v := 1) C d_Md_isNest_24 (by decide) ?_
    refine zi_goto (tgt := 29) C d_Md_isNest_25 (by decide) ?_
    exact zi_zret C hlocks hr (by decide +kernel) d_Md_isNest_29 (by cases hF; rfl) rfl (by cases hF; rfl) rfl
  · refine zi_iload_n C d_Md_isNest_6 rfl 0 rfl ?_
    refine zi_bipush (v := 40) C d_Md_isNest_7 (by decide) ?_
    refine zi_icmp_eq (tgt := 24) C d_Md_isNest_9 (by decide) hF (fun hF => ?_) (fun hF => ?_)
    · refine zi_iconst (v := 1) C d_Md_isNest_24 (by decide) ?_
      refine zi_goto (tgt := 29) C d_Md_isNest_25 (by decide) ?_
      exact zi_zret C hlocks hr (by decide +kernel) d_Md_isNest_29 (by cases hF; rfl) rfl (by cases hF; rfl) rfl
    · refine zi_iload_n C d_Md_isNest_12 rfl 0 rfl ?_
      refine zi_bipush (v := 64) C d_Md_isNest_13 (by decide) ?_
      refine zi_icmp_eq (tgt := 24) C d_Md_isNest_15 (by decide) hF (fun hF => ?_) (fun hF => ?_)
      · refine zi_iconst (v := 1) C d_Md_isNest_24 (by decide) ?_
        refine zi_goto (tgt := 29) C d_Md_isNest_25 (by decide) ?_
        exact zi_zret C hlocks hr (by decide +kernel) d_Md_isNest_29 (by cases hF; rfl) rfl (by cases hF; rfl) rfl
      · refine zi_iload_n C d_Md_isNest_18 rfl 0 rfl ?_
        refine zi_bipush (v := 39) C d_Md_isNest_19 (by decide) ?_
        refine zi_icmp_ne (tgt := 28) C d_Md_isNest_21 (by decide) hF (fun hF => ?_) (fun hF => ?_)
        · refine zi_iconst (v := 0) C d_Md_isNest_28 (by decide) ?_
          exact zi_zret C hlocks hr (by decide +kernel) d_Md_isNest_29 (by cases hF; rfl) rfl (by cases hF; rfl) rfl
        · refine zi_iconst (v := 1) C d_Md_isNest_24 (by decide) ?_
          refine zi_goto (tgt := 29) C d_Md_isNest_25 (by decide) ?_
          exact zi_zret C hlocks hr (by decide +kernel) d_Md_isNest_29 (by cases hF; rfl) rfl (by cases hF; rfl) rfl
def F_Md_strength (S : zzS)  (M : zzM) (v0 : Int32) : Option (Int32 × zzM) := if v0 = (42 : Int32) then (some ((3 : Int32), M)) else (if v0 = (47 : Int32) then (some ((3 : Int32), M)) else (if v0 = (37 : Int32) then (some ((3 : Int32), M)) else (if v0 = (43 : Int32) then (some ((2 : Int32), M)) else (if v0 = (45 : Int32) then (some ((2 : Int32), M)) else (if v0 = (60 : Int32) then (some ((1 : Int32), M)) else (if v0 = (61 : Int32) then (some ((1 : Int32), M)) else (some ((0 : Int32), M))))))))
set_option maxHeartbeats 4000000 in
set_option maxRecDepth 100000 in
theorem c_Md_strength {l : Launch} {D : zzD} {bs : Nat} {A : Nat → Prop} {S : zzS} {M : zzM} {hz : Nat} {out : Int32 × zzM} {v0 : Int32}   (hF : F_Md_strength S  M v0 = some out)  : Met l y_Md_strength (Cond.code y_Md_strength prog_12_method_14_code 1 (some .int) :: zzW) { frames := 0, cells := 0, slots := 0, locals := 0 } (zzPc D bs A S M hz [.int v0]) (zzQc D bs A S out.2 hz (some (.int out.1))) 0 0 A := by
  refine zz_met [.int v0] (by decide) (Nat.le_of_ble_eq_true rfl) (fun p e s m args below meth c C hr hlocks hin hsz => ?_)
  refine zz_eq (lv' := [(0, .int v0)]) (st' := []) rfl rfl ?_
  unfold F_Md_strength at hF
  refine zi_iload_n C d_Md_strength_0 rfl 0 rfl ?_
  refine zi_bipush (v := 42) C d_Md_strength_1 (by decide) ?_
  refine zi_icmp_eq (tgt := 18) C d_Md_strength_3 (by decide) hF (fun hF => ?_) (fun hF => ?_)
  · refine zi_iconst (v := 3) C d_Md_strength_18 (by decide) ?_
    exact zi_iret C hlocks hr d_Md_strength_19 (by cases hF; rfl) rfl (by cases hF; rfl) rfl
  · refine zi_iload_n C d_Md_strength_6 rfl 0 rfl ?_
    refine zi_bipush (v := 47) C d_Md_strength_7 (by decide) ?_
    refine zi_icmp_eq (tgt := 18) C d_Md_strength_9 (by decide) hF (fun hF => ?_) (fun hF => ?_)
    · refine zi_iconst (v := 3) C d_Md_strength_18 (by decide) ?_
      exact zi_iret C hlocks hr d_Md_strength_19 (by cases hF; rfl) rfl (by cases hF; rfl) rfl
    · refine zi_iload_n C d_Md_strength_12 rfl 0 rfl ?_
      refine zi_bipush (v := 37) C d_Md_strength_13 (by decide) ?_
      refine zi_icmp_ne (tgt := 20) C d_Md_strength_15 (by decide) hF (fun hF => ?_) (fun hF => ?_)
      · refine zi_iload_n C d_Md_strength_20 rfl 0 rfl ?_
        refine zi_bipush (v := 43) C d_Md_strength_21 (by decide) ?_
        refine zi_icmp_eq (tgt := 32) C d_Md_strength_23 (by decide) hF (fun hF => ?_) (fun hF => ?_)
        · refine zi_iconst (v := 2) C d_Md_strength_32 (by decide) ?_
          exact zi_iret C hlocks hr d_Md_strength_33 (by cases hF; rfl) rfl (by cases hF; rfl) rfl
        · refine zi_iload_n C d_Md_strength_26 rfl 0 rfl ?_
          refine zi_bipush (v := 45) C d_Md_strength_27 (by decide) ?_
          refine zi_icmp_ne (tgt := 34) C d_Md_strength_29 (by decide) hF (fun hF => ?_) (fun hF => ?_)
          · refine zi_iload_n C d_Md_strength_34 rfl 0 rfl ?_
            refine zi_bipush (v := 60) C d_Md_strength_35 (by decide) ?_
            refine zi_icmp_eq (tgt := 46) C d_Md_strength_37 (by decide) hF (fun hF => ?_) (fun hF => ?_)
            · refine zi_iconst (v := 1) C d_Md_strength_46 (by decide) ?_
              refine zi_goto (tgt := 51) C d_Md_strength_47 (by decide) ?_
              exact zi_iret C hlocks hr d_Md_strength_51 (by cases hF; rfl) rfl (by cases hF; rfl) rfl
            · refine zi_iload_n C d_Md_strength_40 rfl 0 rfl ?_
              refine zi_bipush (v := 61) C d_Md_strength_41 (by decide) ?_
              refine zi_icmp_ne (tgt := 50) C d_Md_strength_43 (by decide) hF (fun hF => ?_) (fun hF => ?_)
              · refine zi_iconst (v := 0) C d_Md_strength_50 (by decide) ?_
                exact zi_iret C hlocks hr d_Md_strength_51 (by cases hF; rfl) rfl (by cases hF; rfl) rfl
              · refine zi_iconst (v := 1) C d_Md_strength_46 (by decide) ?_
                refine zi_goto (tgt := 51) C d_Md_strength_47 (by decide) ?_
                exact zi_iret C hlocks hr d_Md_strength_51 (by cases hF; rfl) rfl (by cases hF; rfl) rfl
          · refine zi_iconst (v := 2) C d_Md_strength_32 (by decide) ?_
            exact zi_iret C hlocks hr d_Md_strength_33 (by cases hF; rfl) rfl (by cases hF; rfl) rfl
      · refine zi_iconst (v := 3) C d_Md_strength_18 (by decide) ?_
        exact zi_iret C hlocks hr d_Md_strength_19 (by cases hF; rfl) rfl (by cases hF; rfl) rfl
def F_Md_drain_0_b (S : zzS)  (k0 : zzM → Nat → Int32 → Option (Unit × zzM)) (M : zzM) (v0 : Nat) (v1 : Int32) : Option (Unit × zzM) := zzlet (zzI M v0 25) fun x1 => if x1 ≤ 0 then (some ((), M)) else (zzref S 1 (zzR M v0 26) fun b2 => zzlet (zzI M v0 25) fun x3 => zzlet (x3 - (1 : Int32)) fun x4 => zzix S b2 x4 (zzlet (zzI M b2 (x4).toNatClampNeg) fun x5 => zzcall (F_Md_strength S M x5) fun r6 M => if r6 < v1 then (some ((), M)) else (zzlet (zzI M v0 25) fun x7 => zzlet (x7 - (1 : Int32)) fun x8 => zzlet (zzsI M v0 25 x8) fun M => zzref S 1 (zzR M v0 26) fun b9 => zzlet (zzI M v0 25) fun x10 => zzix S b9 x10 (zzlet (zzI M b9 (x10).toNatClampNeg) fun x11 => zzcall (F_Md_code S M v0 x11 (0 : Int32)) fun r12 M => k0 M v0 v1))))
def F_Md_drain_0 (S : zzS)   (n : Nat) : zzM → Nat → Int32 → Option (Unit × zzM) := Nat.rec (fun _ _ _ => none) (fun _ k => F_Md_drain_0_b S   k) n
set_option maxHeartbeats 4000000 in
set_option maxRecDepth 100000 in
theorem g_Md_drain_0_b {p : Program} {l : Launch} {e : Env} {s : State} {m : MethodId} {args : Array Value} {below : List Frame} {meth : Method} {c : Code} {D : zzD} {bs : Nat} {A : Nat → Prop} {S : zzS} {hz : Nat} {out : Unit × zzM}  (C : zzC p s m args c prog_12_method_15_code "BoardScriptModel" 2 D) (hlocks : meth.locks = false) (hr : meth.sig.returnType = none) (hin : meth.name = "drain")  {k0 : zzM → Nat → Int32 → Option (Unit × zzM)} (hk0 : ∀ (M : zzM) (v0 : Nat) (v1 : Int32) (hn_v0 : v0 < S.2.1) (hk_v0 : zzk S v0 = 19), k0 M v0 v1 = some out → zzB p l e { frames := 1, cells := 0, slots := 0, locals := 22 } s m args below meth c 2 D bs A (MQ below (zzQc D bs A S out.2 hz none) args s 0 0 A) 0 0 S M hz 0 [(0, .ref (bs + v0)), (1, .int v1)] []) (M : zzM) (v0 : Nat) (v1 : Int32) (hn_v0 : v0 < S.2.1) (hk_v0 : zzk S v0 = 19) (hF : F_Md_drain_0_b S  k0 M v0 v1 = some out) : zzB p l e { frames := 1, cells := 0, slots := 0, locals := 22 } s m args below meth c 2 D bs A (MQ below (zzQc D bs A S out.2 hz none) args s 0 0 A) 0 0 S M hz 0 [(0, .ref (bs + v0)), (1, .int v1)] [] := by
  unfold F_Md_drain_0_b at hF
  refine zi_aload_n C d_Md_drain_0 rfl 0 rfl ?_
  refine zi_getI C zc_9 (k := 25) (by decide) zw_39 rfl hn_v0 hk_v0 d_Md_drain_1 (fun _ _ _ => rfl) hF (fun x1 hF => ?_)
  refine zi_if_le (tgt := 52) C d_Md_drain_4 (by decide) hF (fun hF => ?_) (fun hF => ?_)
  · exact zi_vret C hlocks hr d_Md_drain_52 rfl rfl (by cases hF; rfl) rfl
  · refine zi_aload_n C d_Md_drain_7 rfl 0 rfl ?_
    refine zi_getR C zc_9 (k := 26) (by decide) zw_40 rfl hn_v0 hk_v0 d_Md_drain_8 (fun _ _ _ => rfl) hF (fun b2 hn_b2 hk_b2 hF => ?_)
    refine zi_aload_n C d_Md_drain_11 rfl 0 rfl ?_
    refine zi_getI C zc_9 (k := 25) (by decide) zw_39 rfl hn_v0 hk_v0 d_Md_drain_12 (fun _ _ _ => rfl) hF (fun x3 hF => ?_)
    refine zi_iconst (v := 1) C d_Md_drain_15 (by decide) ?_
    refine zi_isub C d_Md_drain_16 hF (fun x4 hF => ?_)
    refine zi_iald C hn_b2 hk_b2 d_Md_drain_17 hF (fun x5 hF => ?_)
    obtain ⟨r6, M, hqr6, hF⟩ := zzcall_e hF
    refine zi_callS_i (M2 := M) (r := r6) (n := 1) (As := [.int x5]) (st := []) C (c_Md_strength hqr6 ) zw_41 zw_18 (by decide +kernel) ⟨Nat.le_of_ble_eq_true rfl, Nat.le_of_ble_eq_true rfl⟩ rfl (Nat.le_of_ble_eq_true rfl) ⟨Nat.le_of_ble_eq_true rfl, Nat.le_of_ble_eq_true rfl⟩ zw_42 zw_43 rfl d_Md_drain_18 ?_
    refine zi_iload_n C d_Md_drain_21 rfl 1 rfl ?_
    refine zi_icmp_lt (tgt := 52) C d_Md_drain_22 (by decide) hF (fun hF => ?_) (fun hF => ?_)
    · exact zi_vret C hlocks hr d_Md_drain_52 rfl rfl (by cases hF; rfl) rfl
    · refine zi_aload_n C d_Md_drain_25 rfl 0 rfl ?_
      refine zi_dup C d_Md_drain_26 rfl ?_
      refine zi_getI C zc_9 (k := 25) (by decide) zw_39 rfl hn_v0 hk_v0 d_Md_drain_27 (fun _ _ _ => rfl) hF (fun x7 hF => ?_)
      refine zi_iconst (v := 1) C d_Md_drain_30 (by decide) ?_
      refine zi_isub C d_Md_drain_31 hF (fun x8 hF => ?_)
      refine zi_putI C zc_9 (k := 25) (by decide) zw_39 rfl (Or.inl rfl) hn_v0 hk_v0 d_Md_drain_32 rfl hF (fun M hF => ?_)
      refine zi_aload_n C d_Md_drain_35 rfl 0 rfl ?_
      refine zi_aload_n C d_Md_drain_36 rfl 0 rfl ?_
      refine zi_getR C zc_9 (k := 26) (by decide) zw_40 rfl hn_v0 hk_v0 d_Md_drain_37 (fun _ _ _ => rfl) hF (fun b9 hn_b9 hk_b9 hF => ?_)
      refine zi_aload_n C d_Md_drain_40 rfl 0 rfl ?_
      refine zi_getI C zc_9 (k := 25) (by decide) zw_39 rfl hn_v0 hk_v0 d_Md_drain_41 (fun _ _ _ => rfl) hF (fun x10 hF => ?_)
      refine zi_iald C hn_b9 hk_b9 d_Md_drain_44 hF (fun x11 hF => ?_)
      refine zi_iconst (v := 0) C d_Md_drain_45 (by decide) ?_
      obtain ⟨r12, M, hqr12, hF⟩ := zzcall_e hF
      refine zi_callV_v (M2 := M) (n := 2) (As := [.int x11, .int (0 : Int32)]) (st := []) C (c_Md_code hqr12 hn_v0 hk_v0) zw_44 zw_18 (by decide +kernel) ⟨Nat.le_of_ble_eq_true rfl, Nat.le_of_ble_eq_true rfl⟩ rfl (Nat.le_of_ble_eq_true rfl) ⟨Nat.le_of_ble_eq_true rfl, Nat.le_of_ble_eq_true rfl⟩ zw_45 zw_46 zw_47 zc_9.1 hn_v0 hk_v0 rfl d_Md_drain_46 ?_
      refine zi_goto (tgt := 0) C d_Md_drain_49 (by decide) ?_
      refine zz_sub [0, 1] (lv' := [(0, .ref (bs + v0)), (1, .int v1)]) rfl ?_
      exact hk0 _ v0 v1 hn_v0 hk_v0 hF
set_option maxHeartbeats 4000000 in
set_option maxRecDepth 100000 in
theorem g_Md_drain_0 {p : Program} {l : Launch} {e : Env} {s : State} {m : MethodId} {args : Array Value} {below : List Frame} {meth : Method} {c : Code} {D : zzD} {bs : Nat} {A : Nat → Prop} {S : zzS} {hz : Nat} {out : Unit × zzM}  (C : zzC p s m args c prog_12_method_15_code "BoardScriptModel" 2 D) (hlocks : meth.locks = false) (hr : meth.sig.returnType = none) (hin : meth.name = "drain")    : ∀ (n : Nat) (M : zzM) (v0 : Nat) (v1 : Int32) (hn_v0 : v0 < S.2.1) (hk_v0 : zzk S v0 = 19) (hF : F_Md_drain_0 S   n M v0 v1 = some out), zzB p l e { frames := 1, cells := 0, slots := 0, locals := 22 } s m args below meth c 2 D bs A (MQ below (zzQc D bs A S out.2 hz none) args s 0 0 A) 0 0 S M hz 0 [(0, .ref (bs + v0)), (1, .int v1)] [] := by
  intro n
  induction n with
  | zero => intro M v0 v1 hn_v0 hk_v0 hF; cases hF
  | succ n ih => intro M v0 v1 hn_v0 hk_v0 hF; exact g_Md_drain_0_b C hlocks hr hin   ih M v0 v1 hn_v0 hk_v0 hF
def F_Md_drain (S : zzS)  (M : zzM) (v0 : Nat) (v1 : Int32) : Option (Unit × zzM) := F_Md_drain_0 S   2000 M v0 v1
set_option maxHeartbeats 4000000 in
set_option maxRecDepth 100000 in
theorem c_Md_drain {l : Launch} {D : zzD} {bs : Nat} {A : Nat → Prop} {S : zzS} {M : zzM} {hz : Nat} {out : Unit × zzM} {v0 : Nat} {v1 : Int32}   (hF : F_Md_drain S  M v0 v1 = some out) (hn_v0 : v0 < S.2.1) (hk_v0 : zzk S v0 = 19) : Met l y_Md_drain (Cond.code y_Md_drain prog_12_method_15_code 2 none :: zzW) { frames := 1, cells := 0, slots := 0, locals := 22 } (zzPc D bs A S M hz [.ref (bs + v0), .int v1]) (zzQc D bs A S out.2 hz none) 0 0 A := by
  refine zz_met [.ref (bs + v0), .int v1] (by decide) (Nat.le_of_ble_eq_true rfl) (fun p e s m args below meth c C hr hlocks hin hsz => ?_)
  refine zz_eq (lv' := [(0, .ref (bs + v0)), (1, .int v1)]) (st' := []) rfl rfl ?_
  unfold F_Md_drain at hF
  refine zz_sub [0, 1] (lv' := [(0, .ref (bs + v0)), (1, .int v1)]) rfl ?_
  exact g_Md_drain_0 C hlocks hr hin   _ _ v0 v1 hn_v0 hk_v0 hF
def F_Md_nest_37 (S : zzS)   (M : zzM) (v0 : Nat) (w0 : Int32) (w1 : Int32) (w2 : Nat) : Option (Unit × zzM) := zzix S w2 w1 (zzlet (zzsI M w2 (w1).toNatClampNeg w0) fun M => zzlet (zzI M v0 25) fun x1 => zzlet (x1 + (1 : Int32)) fun x2 => zzlet (zzsI M v0 25 x2) fun M => zzlet (zzI M v0 27) fun x3 => zzlet (x3 + (1 : Int32)) fun x4 => zzlet (zzsI M v0 27 x4) fun M => zzlet (zzI M v0 16) fun x5 => zzlet (x5 + (1 : Int32)) fun x6 => zzlet (zzsI M v0 16 x6) fun M => some ((), M))
set_option maxHeartbeats 4000000 in
set_option maxRecDepth 100000 in
theorem g_Md_nest_37 {p : Program} {l : Launch} {e : Env} {s : State} {m : MethodId} {args : Array Value} {below : List Frame} {meth : Method} {c : Code} {D : zzD} {bs : Nat} {A : Nat → Prop} {S : zzS} {hz : Nat} {out : Unit × zzM}  (C : zzC p s m args c prog_12_method_16_code "BoardScriptModel" 2 D) (hlocks : meth.locks = false) (hr : meth.sig.returnType = none) (hin : meth.name = "nest")    (M : zzM) (v0 : Nat) (w0 : Int32) (w1 : Int32) (w2 : Nat) (hn_v0 : v0 < S.2.1) (hk_v0 : zzk S v0 = 19) (hn_w2 : w2 < S.2.1) (hk_w2 : zzk S w2 = 1) (hF : F_Md_nest_37 S   M v0 w0 w1 w2 = some out) : zzB p l e { frames := 0, cells := 0, slots := 0, locals := 0 } s m args below meth c 2 D bs A (MQ below (zzQc D bs A S out.2 hz none) args s 0 0 A) 0 0 S M hz 37 [(0, .ref (bs + v0))] [.int w0, .int w1, .ref (bs + w2)] := by
  unfold F_Md_nest_37 at hF
  refine zi_iast C hn_w2 hk_w2 d_Md_nest_37 hF (fun M hF => ?_)
  refine zi_aload_n C d_Md_nest_38 rfl 0 rfl ?_
  refine zi_dup C d_Md_nest_39 rfl ?_
  refine zi_getI C zc_9 (k := 25) (by decide) zw_39 rfl hn_v0 hk_v0 d_Md_nest_40 (fun _ _ _ => rfl) hF (fun x1 hF => ?_)
  refine zi_iconst (v := 1) C d_Md_nest_43 (by decide) ?_
  refine zi_iadd C d_Md_nest_44 hF (fun x2 hF => ?_)
  refine zi_putI C zc_9 (k := 25) (by decide) zw_39 rfl (Or.inl rfl) hn_v0 hk_v0 d_Md_nest_45 rfl hF (fun M hF => ?_)
  refine zi_aload_n C d_Md_nest_48 rfl 0 rfl ?_
  refine zi_dup C d_Md_nest_49 rfl ?_
  refine zi_getI C zc_9 (k := 27) (by decide) zw_48 rfl hn_v0 hk_v0 d_Md_nest_50 (fun _ _ _ => rfl) hF (fun x3 hF => ?_)
  refine zi_iconst (v := 1) C d_Md_nest_53 (by decide) ?_
  refine zi_iadd C d_Md_nest_54 hF (fun x4 hF => ?_)
  refine zi_putI C zc_9 (k := 27) (by decide) zw_48 rfl (Or.inl rfl) hn_v0 hk_v0 d_Md_nest_55 rfl hF (fun M hF => ?_)
  refine zi_aload_n C d_Md_nest_58 rfl 0 rfl ?_
  refine zi_dup C d_Md_nest_59 rfl ?_
  refine zi_getI C zc_9 (k := 16) (by decide) zw_29 rfl hn_v0 hk_v0 d_Md_nest_60 (fun _ _ _ => rfl) hF (fun x5 hF => ?_)
  refine zi_iconst (v := 1) C d_Md_nest_63 (by decide) ?_
  refine zi_iadd C d_Md_nest_64 hF (fun x6 hF => ?_)
  refine zi_putI C zc_9 (k := 16) (by decide) zw_29 rfl (Or.inl rfl) hn_v0 hk_v0 d_Md_nest_65 rfl hF (fun M hF => ?_)
  exact zi_vret C hlocks hr d_Md_nest_68 rfl rfl (by cases hF; rfl) rfl
def F_Md_nest (S : zzS)  (M : zzM) (v0 : Nat) (v1 : Int32) : Option (Unit × zzM) := zzlet (zzI M v0 27) fun x1 => if x1 = (3 : Int32) then (zzlet (zzI M v0 16) fun x4 => zzlet (zzsI M v0 17 x4) fun M => some ((), M)) else (zzref S 1 (zzR M v0 26) fun b2 => zzlet (zzI M v0 25) fun x3 => if v1 = (45 : Int32) then (F_Md_nest_37 S   M v0 (95 : Int32) x3 b2) else (F_Md_nest_37 S   M v0 v1 x3 b2))
set_option maxHeartbeats 4000000 in
set_option maxRecDepth 100000 in
theorem c_Md_nest {l : Launch} {D : zzD} {bs : Nat} {A : Nat → Prop} {S : zzS} {M : zzM} {hz : Nat} {out : Unit × zzM} {v0 : Nat} {v1 : Int32}   (hF : F_Md_nest S  M v0 v1 = some out) (hn_v0 : v0 < S.2.1) (hk_v0 : zzk S v0 = 19) : Met l y_Md_nest (Cond.code y_Md_nest prog_12_method_16_code 2 none :: zzW) { frames := 0, cells := 0, slots := 0, locals := 0 } (zzPc D bs A S M hz [.ref (bs + v0), .int v1]) (zzQc D bs A S out.2 hz none) 0 0 A := by
  refine zz_met [.ref (bs + v0), .int v1] (by decide) (Nat.le_of_ble_eq_true rfl) (fun p e s m args below meth c C hr hlocks hin hsz => ?_)
  refine zz_eq (lv' := [(0, .ref (bs + v0)), (1, .int v1)]) (st' := []) rfl rfl ?_
  unfold F_Md_nest at hF
  refine zi_aload_n C d_Md_nest_0 rfl 0 rfl ?_
  refine zi_getI C zc_9 (k := 27) (by decide) zw_48 rfl hn_v0 hk_v0 d_Md_nest_1 (fun _ _ _ => rfl) hF (fun x1 hF => ?_)
  refine zi_iconst (v := 3) C d_Md_nest_4 (by decide) ?_
  refine zi_icmp_ne (tgt := 17) C d_Md_nest_5 (by decide) hF (fun hF => ?_) (fun hF => ?_)
  · refine zi_aload_n C d_Md_nest_17 rfl 0 rfl ?_
    refine zi_getR C zc_9 (k := 26) (by decide) zw_40 rfl hn_v0 hk_v0 d_Md_nest_18 (fun _ _ _ => rfl) hF (fun b2 hn_b2 hk_b2 hF => ?_)
    refine zi_aload_n C d_Md_nest_21 rfl 0 rfl ?_
    refine zi_getI C zc_9 (k := 25) (by decide) zw_39 rfl hn_v0 hk_v0 d_Md_nest_22 (fun _ _ _ => rfl) hF (fun x3 hF => ?_)
    refine zi_iload_n C d_Md_nest_25 rfl 1 rfl ?_
    refine zi_bipush (v := 45) C d_Md_nest_26 (by decide) ?_
    refine zi_icmp_ne (tgt := 36) C d_Md_nest_28 (by decide) hF (fun hF => ?_) (fun hF => ?_)
    · refine zi_iload_n C d_Md_nest_36 rfl 1 rfl ?_
      refine zz_sub [0] (lv' := [(0, .ref (bs + v0))]) rfl ?_
      exact g_Md_nest_37 C hlocks hr hin   _ v0 v1 x3 b2 hn_v0 hk_v0 hn_b2 hk_b2 hF
    · refine zi_bipush (v := 95) C d_Md_nest_31 (by decide) ?_
      refine zi_goto (tgt := 37) C d_Md_nest_33 (by decide) ?_
      refine zz_sub [0] (lv' := [(0, .ref (bs + v0))]) rfl ?_
      exact g_Md_nest_37 C hlocks hr hin   _ v0 (95 : Int32) x3 b2 hn_v0 hk_v0 hn_b2 hk_b2 hF
  · refine zi_aload_n C d_Md_nest_8 rfl 0 rfl ?_
    refine zi_aload_n C d_Md_nest_9 rfl 0 rfl ?_
    refine zi_getI C zc_9 (k := 16) (by decide) zw_29 rfl hn_v0 hk_v0 d_Md_nest_10 (fun _ _ _ => rfl) hF (fun x4 hF => ?_)
    refine zi_putI C zc_9 (k := 17) (by decide) zw_30 rfl (Or.inl rfl) hn_v0 hk_v0 d_Md_nest_13 rfl hF (fun M hF => ?_)
    exact zi_vret C hlocks hr d_Md_nest_16 rfl rfl (by cases hF; rfl) rfl
def F_Md_complete_132 (S : zzS)  (k0 : zzM → Nat → Option (Unit × zzM)) (M : zzM) (v0 : Nat) (v1 : Int32) (v2 : Int32) : Option (Unit × zzM) := zzlet (zzI M v0 17) fun x1 => if x1 = (-1 : Int32) then (zzcall (F_Md_code S M v0 v1 v2) fun r2 M => zzlet (zzI M v0 25) fun x3 => zzlet (x3 - (1 : Int32)) fun x4 => zzlet (zzsI M v0 25 x4) fun M => zzlet (zzI M v0 27) fun x5 => zzlet (x5 - (1 : Int32)) fun x6 => zzlet (zzsI M v0 27 x6) fun M => k0 M v0) else (some ((), M))
set_option maxHeartbeats 4000000 in
set_option maxRecDepth 100000 in
theorem g_Md_complete_132 {p : Program} {l : Launch} {e : Env} {s : State} {m : MethodId} {args : Array Value} {below : List Frame} {meth : Method} {c : Code} {D : zzD} {bs : Nat} {A : Nat → Prop} {S : zzS} {hz : Nat} {out : Unit × zzM}  (C : zzC p s m args c prog_12_method_17_code "BoardScriptModel" 3 D) (hlocks : meth.locks = false) (hr : meth.sig.returnType = none) (hin : meth.name = "complete")  {k0 : zzM → Nat → Option (Unit × zzM)} (hk0 : ∀ (M : zzM) (v0 : Nat) (hn_v0 : v0 < S.2.1) (hk_v0 : zzk S v0 = 19), k0 M v0 = some out → zzB p l e { frames := 2, cells := 0, slots := 0, locals := 41 } s m args below meth c 3 D bs A (MQ below (zzQc D bs A S out.2 hz none) args s 0 0 A) 0 0 S M hz 0 [(0, .ref (bs + v0))] []) (M : zzM) (v0 : Nat) (v1 : Int32) (v2 : Int32) (hn_v0 : v0 < S.2.1) (hk_v0 : zzk S v0 = 19) (hF : F_Md_complete_132 S  k0 M v0 v1 v2 = some out) : zzB p l e { frames := 2, cells := 0, slots := 0, locals := 41 } s m args below meth c 3 D bs A (MQ below (zzQc D bs A S out.2 hz none) args s 0 0 A) 0 0 S M hz 132 [(0, .ref (bs + v0)), (1, .int v1), (2, .int v2)] [] := by
  unfold F_Md_complete_132 at hF
  refine zi_aload_n C d_Md_complete_132 rfl 0 rfl ?_
  refine zi_getI C zc_9 (k := 17) (by decide) zw_30 rfl hn_v0 hk_v0 d_Md_complete_133 (fun _ _ _ => rfl) hF (fun x1 hF => ?_)
  refine zi_iconst (v := -1) C d_Md_complete_136 (by decide) ?_
  refine zi_icmp_eq (tgt := 141) C d_Md_complete_137 (by decide) hF (fun hF => ?_) (fun hF => ?_)
  · refine zi_aload_n C d_Md_complete_141 rfl 0 rfl ?_
    refine zi_iload_n C d_Md_complete_142 rfl 1 rfl ?_
    refine zi_iload_n C d_Md_complete_143 rfl 2 rfl ?_
    obtain ⟨r2, M, hqr2, hF⟩ := zzcall_e hF
    refine zi_callV_v (M2 := M) (n := 2) (As := [.int v1, .int v2]) (st := []) C (c_Md_code hqr2 hn_v0 hk_v0) zw_44 zw_18 (by decide +kernel) ⟨Nat.le_of_ble_eq_true rfl, Nat.le_of_ble_eq_true rfl⟩ rfl (Nat.le_of_ble_eq_true rfl) ⟨Nat.le_of_ble_eq_true rfl, Nat.le_of_ble_eq_true rfl⟩ zw_45 zw_46 zw_47 zc_9.1 hn_v0 hk_v0 rfl d_Md_complete_144 ?_
    refine zi_aload_n C d_Md_complete_147 rfl 0 rfl ?_
    refine zi_dup C d_Md_complete_148 rfl ?_
    refine zi_getI C zc_9 (k := 25) (by decide) zw_39 rfl hn_v0 hk_v0 d_Md_complete_149 (fun _ _ _ => rfl) hF (fun x3 hF => ?_)
    refine zi_iconst (v := 1) C d_Md_complete_152 (by decide) ?_
    refine zi_isub C d_Md_complete_153 hF (fun x4 hF => ?_)
    refine zi_putI C zc_9 (k := 25) (by decide) zw_39 rfl (Or.inl rfl) hn_v0 hk_v0 d_Md_complete_154 rfl hF (fun M hF => ?_)
    refine zi_aload_n C d_Md_complete_157 rfl 0 rfl ?_
    refine zi_dup C d_Md_complete_158 rfl ?_
    refine zi_getI C zc_9 (k := 27) (by decide) zw_48 rfl hn_v0 hk_v0 d_Md_complete_159 (fun _ _ _ => rfl) hF (fun x5 hF => ?_)
    refine zi_iconst (v := 1) C d_Md_complete_162 (by decide) ?_
    refine zi_isub C d_Md_complete_163 hF (fun x6 hF => ?_)
    refine zi_putI C zc_9 (k := 27) (by decide) zw_48 rfl (Or.inl rfl) hn_v0 hk_v0 d_Md_complete_164 rfl hF (fun M hF => ?_)
    refine zi_goto (tgt := 0) C d_Md_complete_167 (by decide) ?_
    refine zz_sub [0] (lv' := [(0, .ref (bs + v0))]) rfl ?_
    exact hk0 _ v0 hn_v0 hk_v0 hF
  · exact zi_vret C hlocks hr d_Md_complete_140 rfl rfl (by cases hF; rfl) rfl
def F_Md_complete_122 (S : zzS)  (k0 : zzM → Nat → Option (Unit × zzM)) (M : zzM) (v0 : Nat) (v1 : Int32) (v2 : Int32) : Option (Unit × zzM) := zzlet (zzI M v0 16) fun x1 => zzlet (x1 + (1 : Int32)) fun x2 => zzlet (zzsI M v0 16 x2) fun M => F_Md_complete_132 S  k0 M v0 v1 v2
set_option maxHeartbeats 4000000 in
set_option maxRecDepth 100000 in
theorem g_Md_complete_122 {p : Program} {l : Launch} {e : Env} {s : State} {m : MethodId} {args : Array Value} {below : List Frame} {meth : Method} {c : Code} {D : zzD} {bs : Nat} {A : Nat → Prop} {S : zzS} {hz : Nat} {out : Unit × zzM}  (C : zzC p s m args c prog_12_method_17_code "BoardScriptModel" 3 D) (hlocks : meth.locks = false) (hr : meth.sig.returnType = none) (hin : meth.name = "complete")  {k0 : zzM → Nat → Option (Unit × zzM)} (hk0 : ∀ (M : zzM) (v0 : Nat) (hn_v0 : v0 < S.2.1) (hk_v0 : zzk S v0 = 19), k0 M v0 = some out → zzB p l e { frames := 2, cells := 0, slots := 0, locals := 41 } s m args below meth c 3 D bs A (MQ below (zzQc D bs A S out.2 hz none) args s 0 0 A) 0 0 S M hz 0 [(0, .ref (bs + v0))] []) (M : zzM) (v0 : Nat) (v1 : Int32) (v2 : Int32) (hn_v0 : v0 < S.2.1) (hk_v0 : zzk S v0 = 19) (hF : F_Md_complete_122 S  k0 M v0 v1 v2 = some out) : zzB p l e { frames := 2, cells := 0, slots := 0, locals := 41 } s m args below meth c 3 D bs A (MQ below (zzQc D bs A S out.2 hz none) args s 0 0 A) 0 0 S M hz 122 [(0, .ref (bs + v0)), (1, .int v1), (2, .int v2)] [] := by
  unfold F_Md_complete_122 at hF
  refine zi_aload_n C d_Md_complete_122 rfl 0 rfl ?_
  refine zi_dup C d_Md_complete_123 rfl ?_
  refine zi_getI C zc_9 (k := 16) (by decide) zw_29 rfl hn_v0 hk_v0 d_Md_complete_124 (fun _ _ _ => rfl) hF (fun x1 hF => ?_)
  refine zi_iconst (v := 1) C d_Md_complete_127 (by decide) ?_
  refine zi_iadd C d_Md_complete_128 hF (fun x2 hF => ?_)
  refine zi_putI C zc_9 (k := 16) (by decide) zw_29 rfl (Or.inl rfl) hn_v0 hk_v0 d_Md_complete_129 rfl hF (fun M hF => ?_)
  refine zz_sub [0, 1, 2] (lv' := [(0, .ref (bs + v0)), (1, .int v1), (2, .int v2)]) rfl ?_
  exact g_Md_complete_132 C hlocks hr hin  hk0 _ v0 v1 v2 hn_v0 hk_v0 hF
def F_Md_complete_114 (S : zzS)  (k0 : zzM → Nat → Option (Unit × zzM)) (M : zzM) (v0 : Nat) (v1 : Int32) (v2 : Int32) : Option (Unit × zzM) := zzlet (zzI M v0 16) fun x1 => zzlet (zzsI M v0 17 x1) fun M => F_Md_complete_122 S  k0 M v0 v1 v2
set_option maxHeartbeats 4000000 in
set_option maxRecDepth 100000 in
theorem g_Md_complete_114 {p : Program} {l : Launch} {e : Env} {s : State} {m : MethodId} {args : Array Value} {below : List Frame} {meth : Method} {c : Code} {D : zzD} {bs : Nat} {A : Nat → Prop} {S : zzS} {hz : Nat} {out : Unit × zzM}  (C : zzC p s m args c prog_12_method_17_code "BoardScriptModel" 3 D) (hlocks : meth.locks = false) (hr : meth.sig.returnType = none) (hin : meth.name = "complete")  {k0 : zzM → Nat → Option (Unit × zzM)} (hk0 : ∀ (M : zzM) (v0 : Nat) (hn_v0 : v0 < S.2.1) (hk_v0 : zzk S v0 = 19), k0 M v0 = some out → zzB p l e { frames := 2, cells := 0, slots := 0, locals := 41 } s m args below meth c 3 D bs A (MQ below (zzQc D bs A S out.2 hz none) args s 0 0 A) 0 0 S M hz 0 [(0, .ref (bs + v0))] []) (M : zzM) (v0 : Nat) (v1 : Int32) (v2 : Int32) (hn_v0 : v0 < S.2.1) (hk_v0 : zzk S v0 = 19) (hF : F_Md_complete_114 S  k0 M v0 v1 v2 = some out) : zzB p l e { frames := 2, cells := 0, slots := 0, locals := 41 } s m args below meth c 3 D bs A (MQ below (zzQc D bs A S out.2 hz none) args s 0 0 A) 0 0 S M hz 114 [(0, .ref (bs + v0)), (1, .int v1), (2, .int v2)] [] := by
  unfold F_Md_complete_114 at hF
  refine zi_aload_n C d_Md_complete_114 rfl 0 rfl ?_
  refine zi_aload_n C d_Md_complete_115 rfl 0 rfl ?_
  refine zi_getI C zc_9 (k := 16) (by decide) zw_29 rfl hn_v0 hk_v0 d_Md_complete_116 (fun _ _ _ => rfl) hF (fun x1 hF => ?_)
  refine zi_putI C zc_9 (k := 17) (by decide) zw_30 rfl (Or.inl rfl) hn_v0 hk_v0 d_Md_complete_119 rfl hF (fun M hF => ?_)
  refine zz_sub [0, 1, 2] (lv' := [(0, .ref (bs + v0)), (1, .int v1), (2, .int v2)]) rfl ?_
  exact g_Md_complete_122 C hlocks hr hin  hk0 _ v0 v1 v2 hn_v0 hk_v0 hF
def F_Md_complete_63 (S : zzS)  (k0 : zzM → Nat → Option (Unit × zzM)) (M : zzM) (v0 : Nat) : Option (Unit × zzM) := zzref S 1 (zzR M v0 26) fun b1 => zzlet (zzI M v0 25) fun x2 => zzlet (x2 - (1 : Int32)) fun x3 => zzix S b1 x3 (zzlet (zzI M b1 (x3).toNatClampNeg) fun x4 => if x4 = (64 : Int32) then (zzcall (F_Md_expect S M v0 (58 : Int32)) fun r5 M => zzcall (F_Md_peek S M v0) fun r6 M => zzlet (r6 - (48 : Int32)) fun x7 => zzlet (zzI M v0 17) fun x8 => if x8 = (-1 : Int32) then (if x7 < 0 then (F_Md_complete_114 S  k0 M v0 x4 x7) else (if x7 ≤ (5 : Int32) then (F_Md_complete_122 S  k0 M v0 x4 x7) else (F_Md_complete_114 S  k0 M v0 x4 x7))) else (F_Md_complete_122 S  k0 M v0 x4 x7)) else (F_Md_complete_132 S  k0 M v0 x4 (0 : Int32)))
set_option maxHeartbeats 4000000 in
set_option maxRecDepth 100000 in
theorem g_Md_complete_63 {p : Program} {l : Launch} {e : Env} {s : State} {m : MethodId} {args : Array Value} {below : List Frame} {meth : Method} {c : Code} {D : zzD} {bs : Nat} {A : Nat → Prop} {S : zzS} {hz : Nat} {out : Unit × zzM}  (C : zzC p s m args c prog_12_method_17_code "BoardScriptModel" 3 D) (hlocks : meth.locks = false) (hr : meth.sig.returnType = none) (hin : meth.name = "complete")  {k0 : zzM → Nat → Option (Unit × zzM)} (hk0 : ∀ (M : zzM) (v0 : Nat) (hn_v0 : v0 < S.2.1) (hk_v0 : zzk S v0 = 19), k0 M v0 = some out → zzB p l e { frames := 2, cells := 0, slots := 0, locals := 41 } s m args below meth c 3 D bs A (MQ below (zzQc D bs A S out.2 hz none) args s 0 0 A) 0 0 S M hz 0 [(0, .ref (bs + v0))] []) (M : zzM) (v0 : Nat) (hn_v0 : v0 < S.2.1) (hk_v0 : zzk S v0 = 19) (hF : F_Md_complete_63 S  k0 M v0 = some out) : zzB p l e { frames := 2, cells := 0, slots := 0, locals := 41 } s m args below meth c 3 D bs A (MQ below (zzQc D bs A S out.2 hz none) args s 0 0 A) 0 0 S M hz 63 [(0, .ref (bs + v0))] [] := by
  unfold F_Md_complete_63 at hF
  refine zi_aload_n C d_Md_complete_63 rfl 0 rfl ?_
  refine zi_getR C zc_9 (k := 26) (by decide) zw_40 rfl hn_v0 hk_v0 d_Md_complete_64 (fun _ _ _ => rfl) hF (fun b1 hn_b1 hk_b1 hF => ?_)
  refine zi_aload_n C d_Md_complete_67 rfl 0 rfl ?_
  refine zi_getI C zc_9 (k := 25) (by decide) zw_39 rfl hn_v0 hk_v0 d_Md_complete_68 (fun _ _ _ => rfl) hF (fun x2 hF => ?_)
  refine zi_iconst (v := 1) C d_Md_complete_71 (by decide) ?_
  refine zi_isub C d_Md_complete_72 hF (fun x3 hF => ?_)
  refine zi_iald C hn_b1 hk_b1 d_Md_complete_73 hF (fun x4 hF => ?_)
  refine zi_istore_n (lv' := [(1, .int x4), (0, .ref (bs + v0))]) C d_Md_complete_74 rfl (by decide) rfl ?_
  refine zi_iconst (v := 0) C d_Md_complete_75 (by decide) ?_
  refine zi_istore_n (lv' := [(2, .int (0 : Int32)), (1, .int x4), (0, .ref (bs + v0))]) C d_Md_complete_76 rfl (by decide) rfl ?_
  refine zi_iload_n C d_Md_complete_77 rfl 1 rfl ?_
  refine zi_bipush (v := 64) C d_Md_complete_78 (by decide) ?_
  refine zi_icmp_ne (tgt := 132) C d_Md_complete_80 (by decide) hF (fun hF => ?_) (fun hF => ?_)
  · refine zz_sub [2, 1, 0] (lv' := [(0, .ref (bs + v0)), (1, .int x4), (2, .int (0 : Int32))]) rfl ?_
    exact g_Md_complete_132 C hlocks hr hin  hk0 _ v0 x4 (0 : Int32) hn_v0 hk_v0 hF
  · refine zi_aload_n C d_Md_complete_83 rfl 2 rfl ?_
    refine zi_bipush (v := 58) C d_Md_complete_84 (by decide) ?_
    obtain ⟨r5, M, hqr5, hF⟩ := zzcall_e hF
    refine zi_callV_v (M2 := M) (n := 1) (As := [.int (58 : Int32)]) (st := []) C (c_Md_expect hqr5 hn_v0 hk_v0) zw_49 zw_18 (by decide +kernel) ⟨Nat.le_of_ble_eq_true rfl, Nat.le_of_ble_eq_true rfl⟩ rfl (Nat.le_of_ble_eq_true rfl) ⟨Nat.le_of_ble_eq_true rfl, Nat.le_of_ble_eq_true rfl⟩ zw_50 zw_51 zw_52 zc_9.1 hn_v0 hk_v0 rfl d_Md_complete_86 ?_
    refine zi_aload_n C d_Md_complete_89 rfl 2 rfl ?_
    obtain ⟨r6, M, hqr6, hF⟩ := zzcall_e hF
    refine zi_callV_i (M2 := M) (r := r6) (n := 0) (As := []) (st := []) C (c_Md_peek hqr6 hn_v0 hk_v0) zw_31 zw_18 (by decide +kernel) ⟨Nat.le_of_ble_eq_true rfl, Nat.le_of_ble_eq_true rfl⟩ rfl (Nat.le_of_ble_eq_true rfl) ⟨Nat.le_of_ble_eq_true rfl, Nat.le_of_ble_eq_true rfl⟩ zw_32 zw_33 zw_34 zc_9.1 hn_v0 hk_v0 rfl d_Md_complete_90 ?_
    refine zi_bipush (v := 48) C d_Md_complete_93 (by decide) ?_
    refine zi_isub C d_Md_complete_95 hF (fun x7 hF => ?_)
    refine zi_istore_n (lv' := [(2, .int x7), (1, .int x4), (0, .ref (bs + v0))]) C d_Md_complete_96 rfl (by decide) rfl ?_
    refine zi_aload_n C d_Md_complete_97 rfl 2 rfl ?_
    refine zi_getI C zc_9 (k := 17) (by decide) zw_30 rfl hn_v0 hk_v0 d_Md_complete_98 (fun _ _ _ => rfl) hF (fun x8 hF => ?_)
    refine zi_iconst (v := -1) C d_Md_complete_101 (by decide) ?_
    refine zi_icmp_ne (tgt := 122) C d_Md_complete_102 (by decide) hF (fun hF => ?_) (fun hF => ?_)
    · refine zz_sub [2, 1, 0] (lv' := [(0, .ref (bs + v0)), (1, .int x4), (2, .int x7)]) rfl ?_
      exact g_Md_complete_122 C hlocks hr hin  hk0 _ v0 x4 x7 hn_v0 hk_v0 hF
    · refine zi_iload_n C d_Md_complete_105 rfl 0 rfl ?_
      refine zi_if_lt (tgt := 114) C d_Md_complete_106 (by decide) hF (fun hF => ?_) (fun hF => ?_)
      · refine zz_sub [2, 1, 0] (lv' := [(0, .ref (bs + v0)), (1, .int x4), (2, .int x7)]) rfl ?_
        exact g_Md_complete_114 C hlocks hr hin  hk0 _ v0 x4 x7 hn_v0 hk_v0 hF
      · refine zi_iload_n C d_Md_complete_109 rfl 0 rfl ?_
        refine zi_iconst (v := 5) C d_Md_complete_110 (by decide) ?_
        refine zi_icmp_le (tgt := 122) C d_Md_complete_111 (by decide) hF (fun hF => ?_) (fun hF => ?_)
        · refine zz_sub [2, 1, 0] (lv' := [(0, .ref (bs + v0)), (1, .int x4), (2, .int x7)]) rfl ?_
          exact g_Md_complete_122 C hlocks hr hin  hk0 _ v0 x4 x7 hn_v0 hk_v0 hF
        · refine zz_sub [2, 1, 0] (lv' := [(0, .ref (bs + v0)), (1, .int x4), (2, .int x7)]) rfl ?_
          exact g_Md_complete_114 C hlocks hr hin  hk0 _ v0 x4 x7 hn_v0 hk_v0 hF
def F_Md_complete_0_b (S : zzS)  (k0 : zzM → Nat → Option (Unit × zzM)) (M : zzM) (v0 : Nat) : Option (Unit × zzM) := zzlet (zzI M v0 17) fun x1 => if x1 = (-1 : Int32) then (zzlet (zzI M v0 25) fun x2 => if x2 ≤ 0 then (some ((), M)) else (zzref S 1 (zzR M v0 26) fun b3 => zzlet (zzI M v0 25) fun x4 => zzlet (x4 - (1 : Int32)) fun x5 => zzix S b3 x5 (zzlet (zzI M b3 (x5).toNatClampNeg) fun x6 => if x6 = (95 : Int32) then (F_Md_complete_63 S  k0 M v0) else (zzref S 1 (zzR M v0 26) fun b7 => zzlet (zzI M v0 25) fun x8 => zzlet (x8 - (1 : Int32)) fun x9 => zzix S b7 x9 (zzlet (zzI M b7 (x9).toNatClampNeg) fun x10 => if x10 = (39 : Int32) then (F_Md_complete_63 S  k0 M v0) else (zzref S 1 (zzR M v0 26) fun b11 => zzlet (zzI M v0 25) fun x12 => zzlet (x12 - (1 : Int32)) fun x13 => zzix S b11 x13 (zzlet (zzI M b11 (x13).toNatClampNeg) fun x14 => if x14 = (64 : Int32) then (F_Md_complete_63 S  k0 M v0) else (some ((), M))))))))) else (some ((), M))
def F_Md_complete_0 (S : zzS)   (n : Nat) : zzM → Nat → Option (Unit × zzM) := Nat.rec (fun _ _ => none) (fun _ k => F_Md_complete_0_b S   k) n
set_option maxHeartbeats 4000000 in
set_option maxRecDepth 100000 in
theorem g_Md_complete_0_b {p : Program} {l : Launch} {e : Env} {s : State} {m : MethodId} {args : Array Value} {below : List Frame} {meth : Method} {c : Code} {D : zzD} {bs : Nat} {A : Nat → Prop} {S : zzS} {hz : Nat} {out : Unit × zzM}  (C : zzC p s m args c prog_12_method_17_code "BoardScriptModel" 3 D) (hlocks : meth.locks = false) (hr : meth.sig.returnType = none) (hin : meth.name = "complete")  {k0 : zzM → Nat → Option (Unit × zzM)} (hk0 : ∀ (M : zzM) (v0 : Nat) (hn_v0 : v0 < S.2.1) (hk_v0 : zzk S v0 = 19), k0 M v0 = some out → zzB p l e { frames := 2, cells := 0, slots := 0, locals := 41 } s m args below meth c 3 D bs A (MQ below (zzQc D bs A S out.2 hz none) args s 0 0 A) 0 0 S M hz 0 [(0, .ref (bs + v0))] []) (M : zzM) (v0 : Nat) (hn_v0 : v0 < S.2.1) (hk_v0 : zzk S v0 = 19) (hF : F_Md_complete_0_b S  k0 M v0 = some out) : zzB p l e { frames := 2, cells := 0, slots := 0, locals := 41 } s m args below meth c 3 D bs A (MQ below (zzQc D bs A S out.2 hz none) args s 0 0 A) 0 0 S M hz 0 [(0, .ref (bs + v0))] [] := by
  unfold F_Md_complete_0_b at hF
  refine zi_aload_n C d_Md_complete_0 rfl 0 rfl ?_
  refine zi_getI C zc_9 (k := 17) (by decide) zw_30 rfl hn_v0 hk_v0 d_Md_complete_1 (fun _ _ _ => rfl) hF (fun x1 hF => ?_)
  refine zi_iconst (v := -1) C d_Md_complete_4 (by decide) ?_
  refine zi_icmp_ne (tgt := 170) C d_Md_complete_5 (by decide) hF (fun hF => ?_) (fun hF => ?_)
  · exact zi_vret C hlocks hr d_Md_complete_170 rfl rfl (by cases hF; rfl) rfl
  · refine zi_aload_n C d_Md_complete_8 rfl 0 rfl ?_
    refine zi_getI C zc_9 (k := 25) (by decide) zw_39 rfl hn_v0 hk_v0 d_Md_complete_9 (fun _ _ _ => rfl) hF (fun x2 hF => ?_)
    refine zi_if_le (tgt := 170) C d_Md_complete_12 (by decide) hF (fun hF => ?_) (fun hF => ?_)
    · exact zi_vret C hlocks hr d_Md_complete_170 rfl rfl (by cases hF; rfl) rfl
    · refine zi_aload_n C d_Md_complete_15 rfl 0 rfl ?_
      refine zi_getR C zc_9 (k := 26) (by decide) zw_40 rfl hn_v0 hk_v0 d_Md_complete_16 (fun _ _ _ => rfl) hF (fun b3 hn_b3 hk_b3 hF => ?_)
      refine zi_aload_n C d_Md_complete_19 rfl 0 rfl ?_
      refine zi_getI C zc_9 (k := 25) (by decide) zw_39 rfl hn_v0 hk_v0 d_Md_complete_20 (fun _ _ _ => rfl) hF (fun x4 hF => ?_)
      refine zi_iconst (v := 1) C d_Md_complete_23 (by decide) ?_
      refine zi_isub C d_Md_complete_24 hF (fun x5 hF => ?_)
      refine zi_iald C hn_b3 hk_b3 d_Md_complete_25 hF (fun x6 hF => ?_)
      refine zi_bipush (v := 95) C d_Md_complete_26 (by decide) ?_
      refine zi_icmp_eq (tgt := 63) C d_Md_complete_28 (by decide) hF (fun hF => ?_) (fun hF => ?_)
      · refine zz_sub [0] (lv' := [(0, .ref (bs + v0))]) rfl ?_
        exact g_Md_complete_63 C hlocks hr hin  hk0 _ v0 hn_v0 hk_v0 hF
      · refine zi_aload_n C d_Md_complete_31 rfl 0 rfl ?_
        refine zi_getR C zc_9 (k := 26) (by decide) zw_40 rfl hn_v0 hk_v0 d_Md_complete_32 (fun _ _ _ => rfl) hF (fun b7 hn_b7 hk_b7 hF => ?_)
        refine zi_aload_n C d_Md_complete_35 rfl 0 rfl ?_
        refine zi_getI C zc_9 (k := 25) (by decide) zw_39 rfl hn_v0 hk_v0 d_Md_complete_36 (fun _ _ _ => rfl) hF (fun x8 hF => ?_)
        refine zi_iconst (v := 1) C d_Md_complete_39 (by decide) ?_
        refine zi_isub C d_Md_complete_40 hF (fun x9 hF => ?_)
        refine zi_iald C hn_b7 hk_b7 d_Md_complete_41 hF (fun x10 hF => ?_)
        refine zi_bipush (v := 39) C d_Md_complete_42 (by decide) ?_
        refine zi_icmp_eq (tgt := 63) C d_Md_complete_44 (by decide) hF (fun hF => ?_) (fun hF => ?_)
        · refine zz_sub [0] (lv' := [(0, .ref (bs + v0))]) rfl ?_
          exact g_Md_complete_63 C hlocks hr hin  hk0 _ v0 hn_v0 hk_v0 hF
        · refine zi_aload_n C d_Md_complete_47 rfl 0 rfl ?_
          refine zi_getR C zc_9 (k := 26) (by decide) zw_40 rfl hn_v0 hk_v0 d_Md_complete_48 (fun _ _ _ => rfl) hF (fun b11 hn_b11 hk_b11 hF => ?_)
          refine zi_aload_n C d_Md_complete_51 rfl 0 rfl ?_
          refine zi_getI C zc_9 (k := 25) (by decide) zw_39 rfl hn_v0 hk_v0 d_Md_complete_52 (fun _ _ _ => rfl) hF (fun x12 hF => ?_)
          refine zi_iconst (v := 1) C d_Md_complete_55 (by decide) ?_
          refine zi_isub C d_Md_complete_56 hF (fun x13 hF => ?_)
          refine zi_iald C hn_b11 hk_b11 d_Md_complete_57 hF (fun x14 hF => ?_)
          refine zi_bipush (v := 64) C d_Md_complete_58 (by decide) ?_
          refine zi_icmp_ne (tgt := 170) C d_Md_complete_60 (by decide) hF (fun hF => ?_) (fun hF => ?_)
          · exact zi_vret C hlocks hr d_Md_complete_170 rfl rfl (by cases hF; rfl) rfl
          · refine zz_sub [0] (lv' := [(0, .ref (bs + v0))]) rfl ?_
            exact g_Md_complete_63 C hlocks hr hin  hk0 _ v0 hn_v0 hk_v0 hF
set_option maxHeartbeats 4000000 in
set_option maxRecDepth 100000 in
theorem g_Md_complete_0 {p : Program} {l : Launch} {e : Env} {s : State} {m : MethodId} {args : Array Value} {below : List Frame} {meth : Method} {c : Code} {D : zzD} {bs : Nat} {A : Nat → Prop} {S : zzS} {hz : Nat} {out : Unit × zzM}  (C : zzC p s m args c prog_12_method_17_code "BoardScriptModel" 3 D) (hlocks : meth.locks = false) (hr : meth.sig.returnType = none) (hin : meth.name = "complete")    : ∀ (n : Nat) (M : zzM) (v0 : Nat) (hn_v0 : v0 < S.2.1) (hk_v0 : zzk S v0 = 19) (hF : F_Md_complete_0 S   n M v0 = some out), zzB p l e { frames := 2, cells := 0, slots := 0, locals := 41 } s m args below meth c 3 D bs A (MQ below (zzQc D bs A S out.2 hz none) args s 0 0 A) 0 0 S M hz 0 [(0, .ref (bs + v0))] [] := by
  intro n
  induction n with
  | zero => intro M v0 hn_v0 hk_v0 hF; cases hF
  | succ n ih => intro M v0 hn_v0 hk_v0 hF; exact g_Md_complete_0_b C hlocks hr hin   ih M v0 hn_v0 hk_v0 hF
def F_Md_complete (S : zzS)  (M : zzM) (v0 : Nat) : Option (Unit × zzM) := F_Md_complete_0 S   2000 M v0
set_option maxHeartbeats 4000000 in
set_option maxRecDepth 100000 in
theorem c_Md_complete {l : Launch} {D : zzD} {bs : Nat} {A : Nat → Prop} {S : zzS} {M : zzM} {hz : Nat} {out : Unit × zzM} {v0 : Nat}   (hF : F_Md_complete S  M v0 = some out) (hn_v0 : v0 < S.2.1) (hk_v0 : zzk S v0 = 19) : Met l y_Md_complete (Cond.code y_Md_complete prog_12_method_17_code 3 none :: zzW) { frames := 2, cells := 0, slots := 0, locals := 41 } (zzPc D bs A S M hz [.ref (bs + v0)]) (zzQc D bs A S out.2 hz none) 0 0 A := by
  refine zz_met [.ref (bs + v0)] (by decide) (Nat.le_of_ble_eq_true rfl) (fun p e s m args below meth c C hr hlocks hin hsz => ?_)
  refine zz_eq (lv' := [(0, .ref (bs + v0))]) (st' := []) rfl rfl ?_
  unfold F_Md_complete at hF
  refine zz_sub [0] (lv' := [(0, .ref (bs + v0))]) rfl ?_
  exact g_Md_complete_0 C hlocks hr hin   _ _ v0 hn_v0 hk_v0 hF
