def F_Md_isObject (S : zzS)  (M : zzM) (v0 : Nat) (v1 : Int64) : Option (Int32 × zzM) := zzlet (lg_cmp v1 (0 : Int64)) fun x1 => if x1 < 0 then (some ((0 : Int32), M)) else (zzlet (zzI M v0 28) fun x2 => zzlet ((x2).toInt64) fun x3 => zzlet (lg_cmp v1 x3) fun x4 => if 0 ≤ x4 then (some ((0 : Int32), M)) else (some ((1 : Int32), M)))
set_option maxHeartbeats 4000000 in
set_option maxRecDepth 100000 in
theorem c_Md_isObject {l : Launch} {D : zzD} {bs : Nat} {A : Nat → Prop} {S : zzS} {M : zzM} {hz : Nat} {out : Int32 × zzM} {v0 : Nat} {v1 : Int64}   (hF : F_Md_isObject S  M v0 v1 = some out) (hn_v0 : v0 < S.2.1) (hk_v0 : zzk S v0 = 19) : Met l y_Md_isObject (Cond.code y_Md_isObject prog_12_method_34_code 3 (some .boolean) :: zzW) { frames := 0, cells := 0, slots := 0, locals := 0 } (zzPc D bs A S M hz [.ref (bs + v0), .long v1]) (zzQc D bs A S out.2 hz (some (.int out.1))) 0 0 A := by
  refine zz_met [.ref (bs + v0), .long v1] (by decide) (Nat.le_of_ble_eq_true rfl) (fun p e s m args below meth c C hr hlocks hin hsz => ?_)
  refine zz_eq (lv' := [(0, .ref (bs + v0)), (1, .long v1)]) (st' := []) rfl rfl ?_
  unfold F_Md_isObject at hF
  refine zi_lload_n C d_Md_isObject_0 rfl 1 rfl ?_
  refine zi_lconst (v := 0) C d_Md_isObject_1 (by decide) ?_
  refine zi_lcmp C d_Md_isObject_2 hF (fun x1 hF => ?_)
  refine zi_if_lt (tgt := 20) C d_Md_isObject_3 (by decide) hF (fun hF => ?_) (fun hF => ?_)
  · refine zi_iconst (v := 0) C d_Md_isObject_20 (by decide) ?_
    exact zi_zret C hlocks hr (by decide +kernel) d_Md_isObject_21 (by cases hF; rfl) rfl (by cases hF; rfl) rfl
  · refine zi_lload_n C d_Md_isObject_6 rfl 1 rfl ?_
    refine zi_aload_n C d_Md_isObject_7 rfl 0 rfl ?_
    refine zi_getI C zc_9 (k := 28) (by decide) zw_12 rfl hn_v0 hk_v0 d_Md_isObject_8 (fun _ _ _ => rfl) hF (fun x2 hF => ?_)
    refine zi_i2l C d_Md_isObject_11 hF (fun x3 hF => ?_)
    refine zi_lcmp C d_Md_isObject_12 hF (fun x4 hF => ?_)
    refine zi_if_ge (tgt := 20) C d_Md_isObject_13 (by decide) hF (fun hF => ?_) (fun hF => ?_)
    · refine zi_iconst (v := 0) C d_Md_isObject_20 (by decide) ?_
      exact zi_zret C hlocks hr (by decide +kernel) d_Md_isObject_21 (by cases hF; rfl) rfl (by cases hF; rfl) rfl
    · refine zi_iconst (v := 1) C d_Md_isObject_16 (by decide) ?_
      refine zi_goto (tgt := 21) C d_Md_isObject_17 (by decide) ?_
      exact zi_zret C hlocks hr (by decide +kernel) d_Md_isObject_21 (by cases hF; rfl) rfl (by cases hF; rfl) rfl
def F_Md_isField (S : zzS)  (M : zzM) (v0 : Nat) (v1 : Int32) (v2 : Int32) : Option (Int32 × zzM) := zzlet ((v1).toInt64) fun x1 => zzcall (F_Md_isObject S M v0 x1) fun r2 M => if r2 = 0 then (some ((0 : Int32), M)) else (if v2 < 0 then (some ((0 : Int32), M)) else (if (6 : Int32) ≤ v2 then (some ((0 : Int32), M)) else (some ((1 : Int32), M))))
set_option maxHeartbeats 4000000 in
set_option maxRecDepth 100000 in
theorem c_Md_isField {l : Launch} {D : zzD} {bs : Nat} {A : Nat → Prop} {S : zzS} {M : zzM} {hz : Nat} {out : Int32 × zzM} {v0 : Nat} {v1 : Int32} {v2 : Int32}   (hF : F_Md_isField S  M v0 v1 v2 = some out) (hn_v0 : v0 < S.2.1) (hk_v0 : zzk S v0 = 19) : Met l y_Md_isField (Cond.code y_Md_isField prog_12_method_35_code 3 (some .boolean) :: zzW) { frames := 1, cells := 0, slots := 0, locals := 22 } (zzPc D bs A S M hz [.ref (bs + v0), .int v1, .int v2]) (zzQc D bs A S out.2 hz (some (.int out.1))) 0 0 A := by
  refine zz_met [.ref (bs + v0), .int v1, .int v2] (by decide) (Nat.le_of_ble_eq_true rfl) (fun p e s m args below meth c C hr hlocks hin hsz => ?_)
  refine zz_eq (lv' := [(0, .ref (bs + v0)), (1, .int v1), (2, .int v2)]) (st' := []) rfl rfl ?_
  unfold F_Md_isField at hF
  refine zi_aload_n C d_Md_isField_0 rfl 0 rfl ?_
  refine zi_iload_n C d_Md_isField_1 rfl 1 rfl ?_
  refine zi_i2l C d_Md_isField_2 hF (fun x1 hF => ?_)
  obtain ⟨r2, M, hqr2, hF⟩ := zzcall_e hF
  refine zi_callV_i (M2 := M) (r := r2) (n := 1) (As := [.long x1]) (st := []) C (c_Md_isObject hqr2 hn_v0 hk_v0) zw_148 zw_18 (by decide +kernel) ⟨Nat.le_of_ble_eq_true rfl, Nat.le_of_ble_eq_true rfl⟩ rfl (Nat.le_of_ble_eq_true rfl) ⟨Nat.le_of_ble_eq_true rfl, Nat.le_of_ble_eq_true rfl⟩ zw_149 zw_150 zw_151 zc_9.1 hn_v0 hk_v0 rfl d_Md_isField_3 ?_
  refine zi_if_eq (tgt := 23) C d_Md_isField_6 (by decide) hF (fun hF => ?_) (fun hF => ?_)
  · refine zi_iconst (v := 0) C d_Md_isField_23 (by decide) ?_
    exact zi_zret C hlocks hr (by decide +kernel) d_Md_isField_24 (by cases hF; rfl) rfl (by cases hF; rfl) rfl
  · refine zi_iload_n C d_Md_isField_9 rfl 2 rfl ?_
    refine zi_if_lt (tgt := 23) C d_Md_isField_10 (by decide) hF (fun hF => ?_) (fun hF => ?_)
    · refine zi_iconst (v := 0) C d_Md_isField_23 (by decide) ?_
      exact zi_zret C hlocks hr (by decide +kernel) d_Md_isField_24 (by cases hF; rfl) rfl (by cases hF; rfl) rfl
    · refine zi_iload_n C d_Md_isField_13 rfl 2 rfl ?_
      refine zi_bipush (v := 6) C d_Md_isField_14 (by decide) ?_
      refine zi_icmp_ge (tgt := 23) C d_Md_isField_16 (by decide) hF (fun hF => ?_) (fun hF => ?_)
      · refine zi_iconst (v := 0) C d_Md_isField_23 (by decide) ?_
        exact zi_zret C hlocks hr (by decide +kernel) d_Md_isField_24 (by cases hF; rfl) rfl (by cases hF; rfl) rfl
      · refine zi_iconst (v := 1) C d_Md_isField_19 (by decide) ?_
        refine zi_goto (tgt := 24) C d_Md_isField_20 (by decide) ?_
        exact zi_zret C hlocks hr (by decide +kernel) d_Md_isField_24 (by cases hF; rfl) rfl (by cases hF; rfl) rfl
def F_Md_addObject_13_b (S : zzS)  (k13 : zzM → Nat → Int64 → Int32 → Option (Int32 × zzM)) (M : zzM) (v0 : Nat) (v1 : Int64) (v3 : Int32) : Option (Int32 × zzM) := if (6 : Int32) ≤ v3 then (zzlet (zzI M v0 28) fun x1 => zzlet (x1 + (1 : Int32)) fun x2 => zzlet (zzsI M v0 28 x2) fun M => zzlet (zzI M v0 28) fun x3 => zzlet (x3 - (1 : Int32)) fun x4 => some (x4, M)) else (zzref S 2 (zzR M v0 29) fun b5 => zzlet (zzI M v0 28) fun x6 => zzlet ((6 : Int32) * x6) fun x7 => zzlet (x7 + v3) fun x8 => if v3 = 0 then (zzix S b5 x8 (zzlet (zzsL M b5 (x8).toNatClampNeg v1) fun M => zzlet (v3 + (1 : Int32)) fun x10 => k13 M v0 v1 x10)) else (zzix S b5 x8 (zzlet (zzsL M b5 (x8).toNatClampNeg (0 : Int64)) fun M => zzlet (v3 + (1 : Int32)) fun x9 => k13 M v0 v1 x9)))
def F_Md_addObject_13 (S : zzS)   (n : Nat) : zzM → Nat → Int64 → Int32 → Option (Int32 × zzM) := Nat.rec (fun _ _ _ _ => none) (fun _ k => F_Md_addObject_13_b S   k) n
set_option maxHeartbeats 4000000 in
set_option maxRecDepth 100000 in
theorem g_Md_addObject_13_b {p : Program} {l : Launch} {e : Env} {s : State} {m : MethodId} {args : Array Value} {below : List Frame} {meth : Method} {c : Code} {D : zzD} {bs : Nat} {A : Nat → Prop} {S : zzS} {hz : Nat} {out : Int32 × zzM}  (C : zzC p s m args c prog_12_method_36_code "BoardScriptModel" 4 D) (hlocks : meth.locks = false) (hr : meth.sig.returnType = (some .int)) (hin : meth.name = "addObject")  {k13 : zzM → Nat → Int64 → Int32 → Option (Int32 × zzM)} (hk13 : ∀ (M : zzM) (v0 : Nat) (v1 : Int64) (v3 : Int32) (hn_v0 : v0 < S.2.1) (hk_v0 : zzk S v0 = 19), k13 M v0 v1 v3 = some out → zzB p l e { frames := 0, cells := 0, slots := 0, locals := 0 } s m args below meth c 4 D bs A (MQ below (zzQc D bs A S out.2 hz (some (.int out.1))) args s 0 0 A) 0 0 S M hz 13 [(0, .ref (bs + v0)), (1, .long v1), (3, .int v3)] []) (M : zzM) (v0 : Nat) (v1 : Int64) (v3 : Int32) (hn_v0 : v0 < S.2.1) (hk_v0 : zzk S v0 = 19) (hF : F_Md_addObject_13_b S  k13 M v0 v1 v3 = some out) : zzB p l e { frames := 0, cells := 0, slots := 0, locals := 0 } s m args below meth c 4 D bs A (MQ below (zzQc D bs A S out.2 hz (some (.int out.1))) args s 0 0 A) 0 0 S M hz 13 [(0, .ref (bs + v0)), (1, .long v1), (3, .int v3)] [] := by
  unfold F_Md_addObject_13_b at hF
  refine zi_iload_n C d_Md_addObject_13 rfl 2 rfl ?_
  refine zi_bipush (v := 6) C d_Md_addObject_14 (by decide) ?_
  refine zi_icmp_ge (tgt := 48) C d_Md_addObject_16 (by decide) hF (fun hF => ?_) (fun hF => ?_)
  · refine zi_aload_n C d_Md_addObject_48 rfl 0 rfl ?_
    refine zi_dup C d_Md_addObject_49 rfl ?_
    refine zi_getI C zc_9 (k := 28) (by decide) zw_12 rfl hn_v0 hk_v0 d_Md_addObject_50 (fun _ _ _ => rfl) hF (fun x1 hF => ?_)
    refine zi_iconst (v := 1) C d_Md_addObject_53 (by decide) ?_
    refine zi_iadd C d_Md_addObject_54 hF (fun x2 hF => ?_)
    refine zi_putI C zc_9 (k := 28) (by decide) zw_12 rfl (Or.inl rfl) hn_v0 hk_v0 d_Md_addObject_55 rfl hF (fun M hF => ?_)
    refine zi_aload_n C d_Md_addObject_58 rfl 0 rfl ?_
    refine zi_getI C zc_9 (k := 28) (by decide) zw_12 rfl hn_v0 hk_v0 d_Md_addObject_59 (fun _ _ _ => rfl) hF (fun x3 hF => ?_)
    refine zi_iconst (v := 1) C d_Md_addObject_62 (by decide) ?_
    refine zi_isub C d_Md_addObject_63 hF (fun x4 hF => ?_)
    exact zi_iret C hlocks hr d_Md_addObject_64 (by cases hF; rfl) rfl (by cases hF; rfl) rfl
  · refine zi_aload_n C d_Md_addObject_19 rfl 0 rfl ?_
    refine zi_getR C zc_9 (k := 29) (by decide) zw_152 rfl hn_v0 hk_v0 d_Md_addObject_20 (fun _ _ _ => rfl) hF (fun b5 hn_b5 hk_b5 hF => ?_)
    refine zi_bipush (v := 6) C d_Md_addObject_23 (by decide) ?_
    refine zi_aload_n C d_Md_addObject_25 rfl 0 rfl ?_
    refine zi_getI C zc_9 (k := 28) (by decide) zw_12 rfl hn_v0 hk_v0 d_Md_addObject_26 (fun _ _ _ => rfl) hF (fun x6 hF => ?_)
    refine zi_imul C d_Md_addObject_29 hF (fun x7 hF => ?_)
    refine zi_iload_n C d_Md_addObject_30 rfl 2 rfl ?_
    refine zi_iadd C d_Md_addObject_31 hF (fun x8 hF => ?_)
    refine zi_iload_n C d_Md_addObject_32 rfl 2 rfl ?_
    refine zi_if_ne (tgt := 40) C d_Md_addObject_33 (by decide) hF (fun hF => ?_) (fun hF => ?_)
    · refine zi_lconst (v := 0) C d_Md_addObject_40 (by decide) ?_
      refine zi_last C hn_b5 hk_b5 d_Md_addObject_41 hF (fun M hF => ?_)
      refine zi_iinc (j := 2) (v0 := 1) C d_Md_addObject_42 rfl (by decide) (by decide) hF (fun x9 => [(3, .int x9), (0, .ref (bs + v0)), (1, .long v1)]) (fun _ => rfl) (fun x9 hF => ?_)
      refine zi_goto (tgt := 13) C d_Md_addObject_45 (by decide) ?_
      refine zz_sub [1, 2, 0] (lv' := [(0, .ref (bs + v0)), (1, .long v1), (3, .int x9)]) rfl ?_
      exact hk13 _ v0 v1 x9 hn_v0 hk_v0 hF
    · refine zi_lload_n C d_Md_addObject_36 rfl 1 rfl ?_
      refine zi_goto (tgt := 41) C d_Md_addObject_37 (by decide) ?_
      refine zi_last C hn_b5 hk_b5 d_Md_addObject_41 hF (fun M hF => ?_)
      refine zi_iinc (j := 2) (v0 := 1) C d_Md_addObject_42 rfl (by decide) (by decide) hF (fun x10 => [(3, .int x10), (0, .ref (bs + v0)), (1, .long v1)]) (fun _ => rfl) (fun x10 hF => ?_)
      refine zi_goto (tgt := 13) C d_Md_addObject_45 (by decide) ?_
      refine zz_sub [1, 2, 0] (lv' := [(0, .ref (bs + v0)), (1, .long v1), (3, .int x10)]) rfl ?_
      exact hk13 _ v0 v1 x10 hn_v0 hk_v0 hF
set_option maxHeartbeats 4000000 in
set_option maxRecDepth 100000 in
theorem g_Md_addObject_13 {p : Program} {l : Launch} {e : Env} {s : State} {m : MethodId} {args : Array Value} {below : List Frame} {meth : Method} {c : Code} {D : zzD} {bs : Nat} {A : Nat → Prop} {S : zzS} {hz : Nat} {out : Int32 × zzM}  (C : zzC p s m args c prog_12_method_36_code "BoardScriptModel" 4 D) (hlocks : meth.locks = false) (hr : meth.sig.returnType = (some .int)) (hin : meth.name = "addObject")    : ∀ (n : Nat) (M : zzM) (v0 : Nat) (v1 : Int64) (v3 : Int32) (hn_v0 : v0 < S.2.1) (hk_v0 : zzk S v0 = 19) (hF : F_Md_addObject_13 S   n M v0 v1 v3 = some out), zzB p l e { frames := 0, cells := 0, slots := 0, locals := 0 } s m args below meth c 4 D bs A (MQ below (zzQc D bs A S out.2 hz (some (.int out.1))) args s 0 0 A) 0 0 S M hz 13 [(0, .ref (bs + v0)), (1, .long v1), (3, .int v3)] [] := by
  intro n
  induction n with
  | zero => intro M v0 v1 v3 hn_v0 hk_v0 hF; cases hF
  | succ n ih => intro M v0 v1 v3 hn_v0 hk_v0 hF; exact g_Md_addObject_13_b C hlocks hr hin   ih M v0 v1 v3 hn_v0 hk_v0 hF
def F_Md_addObject (S : zzS)  (M : zzM) (v0 : Nat) (v1 : Int64) : Option (Int32 × zzM) := zzlet (zzI M v0 28) fun x1 => if x1 = (12 : Int32) then (some ((-1 : Int32), M)) else (F_Md_addObject_13 S   2000 M v0 v1 (0 : Int32))
set_option maxHeartbeats 4000000 in
set_option maxRecDepth 100000 in
theorem c_Md_addObject {l : Launch} {D : zzD} {bs : Nat} {A : Nat → Prop} {S : zzS} {M : zzM} {hz : Nat} {out : Int32 × zzM} {v0 : Nat} {v1 : Int64}   (hF : F_Md_addObject S  M v0 v1 = some out) (hn_v0 : v0 < S.2.1) (hk_v0 : zzk S v0 = 19) : Met l y_Md_addObject (Cond.code y_Md_addObject prog_12_method_36_code 4 (some .int) :: zzW) { frames := 0, cells := 0, slots := 0, locals := 0 } (zzPc D bs A S M hz [.ref (bs + v0), .long v1]) (zzQc D bs A S out.2 hz (some (.int out.1))) 0 0 A := by
  refine zz_met [.ref (bs + v0), .long v1] (by decide) (Nat.le_of_ble_eq_true rfl) (fun p e s m args below meth c C hr hlocks hin hsz => ?_)
  refine zz_eq (lv' := [(0, .ref (bs + v0)), (1, .long v1)]) (st' := []) rfl rfl ?_
  unfold F_Md_addObject at hF
  refine zi_aload_n C d_Md_addObject_0 rfl 0 rfl ?_
  refine zi_getI C zc_9 (k := 28) (by decide) zw_12 rfl hn_v0 hk_v0 d_Md_addObject_1 (fun _ _ _ => rfl) hF (fun x1 hF => ?_)
  refine zi_bipush (v := 12) C d_Md_addObject_4 (by decide) ?_
  refine zi_icmp_ne (tgt := 11) C d_Md_addObject_6 (by decide) hF (fun hF => ?_) (fun hF => ?_)
  · refine zi_iconst (v := 0) C d_Md_addObject_11 (by decide) ?_
    refine zi_istore_n (lv' := [(3, .int (0 : Int32)), (0, .ref (bs + v0)), (1, .long v1)]) C d_Md_addObject_12 rfl (by decide) rfl ?_
    refine zz_sub [1, 2, 0] (lv' := [(0, .ref (bs + v0)), (1, .long v1), (3, .int (0 : Int32))]) rfl ?_
    exact g_Md_addObject_13 C hlocks hr hin   _ _ v0 v1 (0 : Int32) hn_v0 hk_v0 hF
  · refine zi_iconst (v := -1) C d_Md_addObject_9 (by decide) ?_
    exact zi_iret C hlocks hr d_Md_addObject_10 (by cases hF; rfl) rfl (by cases hF; rfl) rfl
def F_Md_object (S : zzS)  (M : zzM) (v0 : Nat) (v1 : Int32) : Option (Int32 × zzM) := zzlet (zzsI M v0 0 (0 : Int32)) fun M => zzlet ((v1).toInt64) fun x1 => zzcall (F_Md_addObject S M v0 x1) fun r2 M => some (r2, M)
set_option maxHeartbeats 4000000 in
set_option maxRecDepth 100000 in
theorem c_Md_object {l : Launch} {D : zzD} {bs : Nat} {A : Nat → Prop} {S : zzS} {M : zzM} {hz : Nat} {out : Int32 × zzM} {v0 : Nat} {v1 : Int32}   (hF : F_Md_object S  M v0 v1 = some out) (hn_v0 : v0 < S.2.1) (hk_v0 : zzk S v0 = 19) : Met l y_Md_object (Cond.code y_Md_object prog_12_method_37_code 2 (some .int) :: zzW) { frames := 1, cells := 0, slots := 0, locals := 23 } (zzPc D bs A S M hz [.ref (bs + v0), .int v1]) (zzQc D bs A S out.2 hz (some (.int out.1))) 0 0 A := by
  refine zz_met [.ref (bs + v0), .int v1] (by decide) (Nat.le_of_ble_eq_true rfl) (fun p e s m args below meth c C hr hlocks hin hsz => ?_)
  refine zz_eq (lv' := [(0, .ref (bs + v0)), (1, .int v1)]) (st' := []) rfl rfl ?_
  unfold F_Md_object at hF
  refine zi_aload_n C d_Md_object_0 rfl 0 rfl ?_
  refine zi_iconst (v := 0) C d_Md_object_1 (by decide) ?_
  refine zi_putI C zc_9 (k := 0) (by decide) zw_23 rfl (Or.inl rfl) hn_v0 hk_v0 d_Md_object_2 rfl hF (fun M hF => ?_)
  refine zi_aload_n C d_Md_object_5 rfl 0 rfl ?_
  refine zi_iload_n C d_Md_object_6 rfl 1 rfl ?_
  refine zi_i2l C d_Md_object_7 hF (fun x1 hF => ?_)
  obtain ⟨r2, M, hqr2, hF⟩ := zzcall_e hF
  refine zi_callV_i (M2 := M) (r := r2) (n := 1) (As := [.long x1]) (st := []) C (c_Md_addObject hqr2 hn_v0 hk_v0) zw_153 zw_18 (by decide +kernel) ⟨Nat.le_of_ble_eq_true rfl, Nat.le_of_ble_eq_true rfl⟩ rfl (Nat.le_of_ble_eq_true rfl) ⟨Nat.le_of_ble_eq_true rfl, Nat.le_of_ble_eq_true rfl⟩ zw_154 zw_155 zw_156 zc_9.1 hn_v0 hk_v0 rfl d_Md_object_8 ?_
  exact zi_iret C hlocks hr d_Md_object_11 (by cases hF; rfl) rfl (by cases hF; rfl) rfl
def F_Md_field_15 (S : zzS)   (M : zzM) (v0 : Nat) (v1 : Int32) (v2 : Int32) (v3 : Int64) (w0 : Int32) (w1 : Nat) : Option (Int32 × zzM) := zzlet (zzsI M w1 0 w0) fun M => zzlet (zzI M v0 0) fun x1 => if x1 = 0 then (zzref S 2 (zzR M v0 29) fun b2 => zzlet ((6 : Int32) * v1) fun x3 => zzlet (x3 + v2) fun x4 => zzix S b2 x4 (zzlet (zzL M b2 (x4).toNatClampNeg) fun x5 => zzlet (lg_cmp x5 v3) fun x6 => if x6 = 0 then (some ((0 : Int32), M)) else (zzref S 2 (zzR M v0 29) fun b7 => zzlet ((6 : Int32) * v1) fun x8 => zzlet (x8 + v2) fun x9 => zzix S b7 x9 (zzlet (zzsL M b7 (x9).toNatClampNeg v3) fun M => some ((1 : Int32), M))))) else (some ((0 : Int32), M))
set_option maxHeartbeats 4000000 in
set_option maxRecDepth 100000 in
theorem g_Md_field_15 {p : Program} {l : Launch} {e : Env} {s : State} {m : MethodId} {args : Array Value} {below : List Frame} {meth : Method} {c : Code} {D : zzD} {bs : Nat} {A : Nat → Prop} {S : zzS} {hz : Nat} {out : Int32 × zzM}  (C : zzC p s m args c prog_12_method_38_code "BoardScriptModel" 5 D) (hlocks : meth.locks = false) (hr : meth.sig.returnType = (some .boolean)) (hin : meth.name = "field")    (M : zzM) (v0 : Nat) (v1 : Int32) (v2 : Int32) (v3 : Int64) (w0 : Int32) (w1 : Nat) (hn_v0 : v0 < S.2.1) (hk_v0 : zzk S v0 = 19) (hn_w1 : w1 < S.2.1) (hk_w1 : zzk S w1 = 19) (hF : F_Md_field_15 S   M v0 v1 v2 v3 w0 w1 = some out) : zzB p l e { frames := 2, cells := 0, slots := 0, locals := 44 } s m args below meth c 5 D bs A (MQ below (zzQc D bs A S out.2 hz (some (.int out.1))) args s 0 0 A) 0 0 S M hz 15 [(0, .ref (bs + v0)), (1, .int v1), (2, .int v2), (3, .long v3)] [.int w0, .ref (bs + w1)] := by
  unfold F_Md_field_15 at hF
  refine zi_putI C zc_9 (k := 0) (by decide) zw_23 rfl (Or.inl rfl) hn_w1 hk_w1 d_Md_field_15 rfl hF (fun M hF => ?_)
  refine zi_aload_n C d_Md_field_18 rfl 0 rfl ?_
  refine zi_getI C zc_9 (k := 0) (by decide) zw_23 rfl hn_v0 hk_v0 d_Md_field_19 (fun _ _ _ => rfl) hF (fun x1 hF => ?_)
  refine zi_if_ne (tgt := 41) C d_Md_field_22 (by decide) hF (fun hF => ?_) (fun hF => ?_)
  · refine zi_iconst (v := 0) C d_Md_field_41 (by decide) ?_
    exact zi_zret C hlocks hr (by decide +kernel) d_Md_field_42 (by cases hF; rfl) rfl (by cases hF; rfl) rfl
  · refine zi_aload_n C d_Md_field_25 rfl 0 rfl ?_
    refine zi_getR C zc_9 (k := 29) (by decide) zw_152 rfl hn_v0 hk_v0 d_Md_field_26 (fun _ _ _ => rfl) hF (fun b2 hn_b2 hk_b2 hF => ?_)
    refine zi_bipush (v := 6) C d_Md_field_29 (by decide) ?_
    refine zi_iload_n C d_Md_field_31 rfl 1 rfl ?_
    refine zi_imul C d_Md_field_32 hF (fun x3 hF => ?_)
    refine zi_iload_n C d_Md_field_33 rfl 2 rfl ?_
    refine zi_iadd C d_Md_field_34 hF (fun x4 hF => ?_)
    refine zi_lald C hn_b2 hk_b2 d_Md_field_35 hF (fun x5 hF => ?_)
    refine zi_lload_n C d_Md_field_36 rfl 3 rfl ?_
    refine zi_lcmp C d_Md_field_37 hF (fun x6 hF => ?_)
    refine zi_if_ne (tgt := 43) C d_Md_field_38 (by decide) hF (fun hF => ?_) (fun hF => ?_)
    · refine zi_aload_n C d_Md_field_43 rfl 0 rfl ?_
      refine zi_getR C zc_9 (k := 29) (by decide) zw_152 rfl hn_v0 hk_v0 d_Md_field_44 (fun _ _ _ => rfl) hF (fun b7 hn_b7 hk_b7 hF => ?_)
      refine zi_bipush (v := 6) C d_Md_field_47 (by decide) ?_
      refine zi_iload_n C d_Md_field_49 rfl 1 rfl ?_
      refine zi_imul C d_Md_field_50 hF (fun x8 hF => ?_)
      refine zi_iload_n C d_Md_field_51 rfl 2 rfl ?_
      refine zi_iadd C d_Md_field_52 hF (fun x9 hF => ?_)
      refine zi_lload_n C d_Md_field_53 rfl 3 rfl ?_
      refine zi_last C hn_b7 hk_b7 d_Md_field_54 hF (fun M hF => ?_)
      refine zi_iconst (v := 1) C d_Md_field_55 (by decide) ?_
      exact zi_zret C hlocks hr (by decide +kernel) d_Md_field_56 (by cases hF; rfl) rfl (by cases hF; rfl) rfl
    · refine zi_iconst (v := 0) C d_Md_field_41 (by decide) ?_
      exact zi_zret C hlocks hr (by decide +kernel) d_Md_field_42 (by cases hF; rfl) rfl (by cases hF; rfl) rfl
def F_Md_field (S : zzS)  (M : zzM) (v0 : Nat) (v1 : Int32) (v2 : Int32) (v3 : Int64) : Option (Int32 × zzM) := zzcall (F_Md_isField S M v0 v1 v2) fun r1 M => if r1 = 0 then (F_Md_field_15 S   M v0 v1 v2 v3 (1 : Int32) v0) else (F_Md_field_15 S   M v0 v1 v2 v3 (0 : Int32) v0)
set_option maxHeartbeats 4000000 in
set_option maxRecDepth 100000 in
theorem c_Md_field {l : Launch} {D : zzD} {bs : Nat} {A : Nat → Prop} {S : zzS} {M : zzM} {hz : Nat} {out : Int32 × zzM} {v0 : Nat} {v1 : Int32} {v2 : Int32} {v3 : Int64}   (hF : F_Md_field S  M v0 v1 v2 v3 = some out) (hn_v0 : v0 < S.2.1) (hk_v0 : zzk S v0 = 19) : Met l y_Md_field (Cond.code y_Md_field prog_12_method_38_code 5 (some .boolean) :: zzW) { frames := 2, cells := 0, slots := 0, locals := 44 } (zzPc D bs A S M hz [.ref (bs + v0), .int v1, .int v2, .long v3]) (zzQc D bs A S out.2 hz (some (.int out.1))) 0 0 A := by
  refine zz_met [.ref (bs + v0), .int v1, .int v2, .long v3] (by decide) (Nat.le_of_ble_eq_true rfl) (fun p e s m args below meth c C hr hlocks hin hsz => ?_)
  refine zz_eq (lv' := [(0, .ref (bs + v0)), (1, .int v1), (2, .int v2), (3, .long v3)]) (st' := []) rfl rfl ?_
  unfold F_Md_field at hF
  refine zi_aload_n C d_Md_field_0 rfl 0 rfl ?_
  refine zi_aload_n C d_Md_field_1 rfl 0 rfl ?_
  refine zi_iload_n C d_Md_field_2 rfl 1 rfl ?_
  refine zi_iload_n C d_Md_field_3 rfl 2 rfl ?_
  obtain ⟨r1, M, hqr1, hF⟩ := zzcall_e hF
  refine zi_callV_i (M2 := M) (r := r1) (n := 2) (As := [.int v1, .int v2]) (st := [.ref (bs + v0)]) C (c_Md_isField hqr1 hn_v0 hk_v0) zw_157 zw_18 (by decide +kernel) ⟨Nat.le_of_ble_eq_true rfl, Nat.le_of_ble_eq_true rfl⟩ rfl (Nat.le_of_ble_eq_true rfl) ⟨Nat.le_of_ble_eq_true rfl, Nat.le_of_ble_eq_true rfl⟩ zw_158 zw_159 zw_160 zc_9.1 hn_v0 hk_v0 rfl d_Md_field_4 ?_
  refine zi_if_eq (tgt := 14) C d_Md_field_7 (by decide) hF (fun hF => ?_) (fun hF => ?_)
  · refine zi_iconst (v := 1) C d_Md_field_14 (by decide) ?_
    refine zz_sub [0, 1, 2, 3] (lv' := [(0, .ref (bs + v0)), (1, .int v1), (2, .int v2), (3, .long v3)]) rfl ?_
    exact g_Md_field_15 C hlocks hr hin   _ v0 v1 v2 v3 (1 : Int32) v0 hn_v0 hk_v0 hn_v0 hk_v0 hF
  · refine zi_iconst (v := 0) C d_Md_field_10 (by decide) ?_
    refine zi_goto (tgt := 15) C d_Md_field_11 (by decide) ?_
    refine zz_sub [0, 1, 2, 3] (lv' := [(0, .ref (bs + v0)), (1, .int v1), (2, .int v2), (3, .long v3)]) rfl ?_
    exact g_Md_field_15 C hlocks hr hin   _ v0 v1 v2 v3 (0 : Int32) v0 hn_v0 hk_v0 hn_v0 hk_v0 hF
def F_Md_at_15 (S : zzS)   (M : zzM) (v0 : Nat) (v1 : Int32) (v2 : Int32) (w0 : Int32) (w1 : Nat) : Option (Int64 × zzM) := zzlet (zzsI M w1 0 w0) fun M => zzlet (zzI M v0 0) fun x1 => if x1 = 0 then (zzref S 2 (zzR M v0 29) fun b2 => zzlet ((6 : Int32) * v1) fun x3 => zzlet (x3 + v2) fun x4 => zzix S b2 x4 (zzlet (zzL M b2 (x4).toNatClampNeg) fun x5 => some (x5, M))) else (some ((0 : Int64), M))
set_option maxHeartbeats 4000000 in
set_option maxRecDepth 100000 in
theorem g_Md_at_15 {p : Program} {l : Launch} {e : Env} {s : State} {m : MethodId} {args : Array Value} {below : List Frame} {meth : Method} {c : Code} {D : zzD} {bs : Nat} {A : Nat → Prop} {S : zzS} {hz : Nat} {out : Int64 × zzM}  (C : zzC p s m args c prog_12_method_39_code "BoardScriptModel" 3 D) (hlocks : meth.locks = false) (hr : meth.sig.returnType = (some .long)) (hin : meth.name = "at")    (M : zzM) (v0 : Nat) (v1 : Int32) (v2 : Int32) (w0 : Int32) (w1 : Nat) (hn_v0 : v0 < S.2.1) (hk_v0 : zzk S v0 = 19) (hn_w1 : w1 < S.2.1) (hk_w1 : zzk S w1 = 19) (hF : F_Md_at_15 S   M v0 v1 v2 w0 w1 = some out) : zzB p l e { frames := 2, cells := 0, slots := 0, locals := 44 } s m args below meth c 3 D bs A (MQ below (zzQc D bs A S out.2 hz (some (.long out.1))) args s 0 0 A) 0 0 S M hz 15 [(0, .ref (bs + v0)), (1, .int v1), (2, .int v2)] [.int w0, .ref (bs + w1)] := by
  unfold F_Md_at_15 at hF
  refine zi_putI C zc_9 (k := 0) (by decide) zw_23 rfl (Or.inl rfl) hn_w1 hk_w1 d_Md_at_15 rfl hF (fun M hF => ?_)
  refine zi_aload_n C d_Md_at_18 rfl 0 rfl ?_
  refine zi_getI C zc_9 (k := 0) (by decide) zw_23 rfl hn_v0 hk_v0 d_Md_at_19 (fun _ _ _ => rfl) hF (fun x1 hF => ?_)
  refine zi_if_ne (tgt := 39) C d_Md_at_22 (by decide) hF (fun hF => ?_) (fun hF => ?_)
  · refine zi_lconst (v := 0) C d_Md_at_39 (by decide) ?_
    exact zi_lret C hlocks hr d_Md_at_40 (by cases hF; rfl) rfl (by cases hF; rfl) rfl
  · refine zi_aload_n C d_Md_at_25 rfl 0 rfl ?_
    refine zi_getR C zc_9 (k := 29) (by decide) zw_152 rfl hn_v0 hk_v0 d_Md_at_26 (fun _ _ _ => rfl) hF (fun b2 hn_b2 hk_b2 hF => ?_)
    refine zi_bipush (v := 6) C d_Md_at_29 (by decide) ?_
    refine zi_iload_n C d_Md_at_31 rfl 1 rfl ?_
    refine zi_imul C d_Md_at_32 hF (fun x3 hF => ?_)
    refine zi_iload_n C d_Md_at_33 rfl 2 rfl ?_
    refine zi_iadd C d_Md_at_34 hF (fun x4 hF => ?_)
    refine zi_lald C hn_b2 hk_b2 d_Md_at_35 hF (fun x5 hF => ?_)
    refine zi_goto (tgt := 40) C d_Md_at_36 (by decide) ?_
    exact zi_lret C hlocks hr d_Md_at_40 (by cases hF; rfl) rfl (by cases hF; rfl) rfl
def F_Md_at (S : zzS)  (M : zzM) (v0 : Nat) (v1 : Int32) (v2 : Int32) : Option (Int64 × zzM) := zzcall (F_Md_isField S M v0 v1 v2) fun r1 M => if r1 = 0 then (F_Md_at_15 S   M v0 v1 v2 (1 : Int32) v0) else (F_Md_at_15 S   M v0 v1 v2 (0 : Int32) v0)
set_option maxHeartbeats 4000000 in
set_option maxRecDepth 100000 in
theorem c_Md_at {l : Launch} {D : zzD} {bs : Nat} {A : Nat → Prop} {S : zzS} {M : zzM} {hz : Nat} {out : Int64 × zzM} {v0 : Nat} {v1 : Int32} {v2 : Int32}   (hF : F_Md_at S  M v0 v1 v2 = some out) (hn_v0 : v0 < S.2.1) (hk_v0 : zzk S v0 = 19) : Met l y_Md_at (Cond.code y_Md_at prog_12_method_39_code 3 (some .long) :: zzW) { frames := 2, cells := 0, slots := 0, locals := 44 } (zzPc D bs A S M hz [.ref (bs + v0), .int v1, .int v2]) (zzQc D bs A S out.2 hz (some (.long out.1))) 0 0 A := by
  refine zz_met [.ref (bs + v0), .int v1, .int v2] (by decide) (Nat.le_of_ble_eq_true rfl) (fun p e s m args below meth c C hr hlocks hin hsz => ?_)
  refine zz_eq (lv' := [(0, .ref (bs + v0)), (1, .int v1), (2, .int v2)]) (st' := []) rfl rfl ?_
  unfold F_Md_at at hF
  refine zi_aload_n C d_Md_at_0 rfl 0 rfl ?_
  refine zi_aload_n C d_Md_at_1 rfl 0 rfl ?_
  refine zi_iload_n C d_Md_at_2 rfl 1 rfl ?_
  refine zi_iload_n C d_Md_at_3 rfl 2 rfl ?_
  obtain ⟨r1, M, hqr1, hF⟩ := zzcall_e hF
  refine zi_callV_i (M2 := M) (r := r1) (n := 2) (As := [.int v1, .int v2]) (st := [.ref (bs + v0)]) C (c_Md_isField hqr1 hn_v0 hk_v0) zw_157 zw_18 (by decide +kernel) ⟨Nat.le_of_ble_eq_true rfl, Nat.le_of_ble_eq_true rfl⟩ rfl (Nat.le_of_ble_eq_true rfl) ⟨Nat.le_of_ble_eq_true rfl, Nat.le_of_ble_eq_true rfl⟩ zw_158 zw_159 zw_160 zc_9.1 hn_v0 hk_v0 rfl d_Md_at_4 ?_
  refine zi_if_eq (tgt := 14) C d_Md_at_7 (by decide) hF (fun hF => ?_) (fun hF => ?_)
  · refine zi_iconst (v := 1) C d_Md_at_14 (by decide) ?_
    refine zz_sub [0, 1, 2] (lv' := [(0, .ref (bs + v0)), (1, .int v1), (2, .int v2)]) rfl ?_
    exact g_Md_at_15 C hlocks hr hin   _ v0 v1 v2 (1 : Int32) v0 hn_v0 hk_v0 hn_v0 hk_v0 hF
  · refine zi_iconst (v := 0) C d_Md_at_10 (by decide) ?_
    refine zi_goto (tgt := 15) C d_Md_at_11 (by decide) ?_
    refine zz_sub [0, 1, 2] (lv' := [(0, .ref (bs + v0)), (1, .int v1), (2, .int v2)]) rfl ?_
    exact g_Md_at_15 C hlocks hr hin   _ v0 v1 v2 (0 : Int32) v0 hn_v0 hk_v0 hn_v0 hk_v0 hF
def F_Md_makeList_24_b (S : zzS)  (k24 : zzM → Nat → Int32 → Option (Int32 × zzM)) (M : zzM) (v0 : Nat) (v3 : Int32) : Option (Int32 × zzM) := if (20 : Int32) ≤ v3 then (some ((1 : Int32), M)) else (zzref S 2 (zzR M v0 31) fun b1 => zzix S b1 v3 (zzlet (zzsL M b1 (v3).toNatClampNeg (0 : Int64)) fun M => zzlet (v3 + (1 : Int32)) fun x2 => k24 M v0 x2))
def F_Md_makeList_24 (S : zzS)   (n : Nat) : zzM → Nat → Int32 → Option (Int32 × zzM) := Nat.rec (fun _ _ _ => none) (fun _ k => F_Md_makeList_24_b S   k) n
set_option maxHeartbeats 4000000 in
set_option maxRecDepth 100000 in
theorem g_Md_makeList_24_b {p : Program} {l : Launch} {e : Env} {s : State} {m : MethodId} {args : Array Value} {below : List Frame} {meth : Method} {c : Code} {D : zzD} {bs : Nat} {A : Nat → Prop} {S : zzS} {hz : Nat} {out : Int32 × zzM}  (C : zzC p s m args c prog_12_method_40_code "BoardScriptModel" 4 D) (hlocks : meth.locks = false) (hr : meth.sig.returnType = (some .boolean)) (hin : meth.name = "makeList")  {k24 : zzM → Nat → Int32 → Option (Int32 × zzM)} (hk24 : ∀ (M : zzM) (v0 : Nat) (v3 : Int32) (hn_v0 : v0 < S.2.1) (hk_v0 : zzk S v0 = 19), k24 M v0 v3 = some out → zzB p l e { frames := 0, cells := 0, slots := 0, locals := 0 } s m args below meth c 4 D bs A (MQ below (zzQc D bs A S out.2 hz (some (.int out.1))) args s 0 0 A) 0 0 S M hz 24 [(0, .ref (bs + v0)), (3, .int v3)] []) (M : zzM) (v0 : Nat) (v3 : Int32) (hn_v0 : v0 < S.2.1) (hk_v0 : zzk S v0 = 19) (hF : F_Md_makeList_24_b S  k24 M v0 v3 = some out) : zzB p l e { frames := 0, cells := 0, slots := 0, locals := 0 } s m args below meth c 4 D bs A (MQ below (zzQc D bs A S out.2 hz (some (.int out.1))) args s 0 0 A) 0 0 S M hz 24 [(0, .ref (bs + v0)), (3, .int v3)] [] := by
  unfold F_Md_makeList_24_b at hF
  refine zi_iload_n C d_Md_makeList_24 rfl 1 rfl ?_
  refine zi_bipush (v := 20) C d_Md_makeList_25 (by decide) ?_
  refine zi_icmp_ge (tgt := 43) C d_Md_makeList_27 (by decide) hF (fun hF => ?_) (fun hF => ?_)
  · refine zi_iconst (v := 1) C d_Md_makeList_43 (by decide) ?_
    exact zi_zret C hlocks hr (by decide +kernel) d_Md_makeList_44 (by cases hF; rfl) rfl (by cases hF; rfl) rfl
  · refine zi_aload_n C d_Md_makeList_30 rfl 0 rfl ?_
    refine zi_getR C zc_9 (k := 31) (by decide) zw_162 rfl hn_v0 hk_v0 d_Md_makeList_31 (fun _ _ _ => rfl) hF (fun b1 hn_b1 hk_b1 hF => ?_)
    refine zi_iload_n C d_Md_makeList_34 rfl 1 rfl ?_
    refine zi_lconst (v := 0) C d_Md_makeList_35 (by decide) ?_
    refine zi_last C hn_b1 hk_b1 d_Md_makeList_36 hF (fun M hF => ?_)
    refine zi_iinc (j := 1) (v0 := 1) C d_Md_makeList_37 rfl (by decide) (by decide) hF (fun x2 => [(3, .int x2), (0, .ref (bs + v0))]) (fun _ => rfl) (fun x2 hF => ?_)
    refine zi_goto (tgt := 24) C d_Md_makeList_40 (by decide) ?_
    refine zz_sub [1, 0] (lv' := [(0, .ref (bs + v0)), (3, .int x2)]) rfl ?_
    exact hk24 _ v0 x2 hn_v0 hk_v0 hF
set_option maxHeartbeats 4000000 in
set_option maxRecDepth 100000 in
theorem g_Md_makeList_24 {p : Program} {l : Launch} {e : Env} {s : State} {m : MethodId} {args : Array Value} {below : List Frame} {meth : Method} {c : Code} {D : zzD} {bs : Nat} {A : Nat → Prop} {S : zzS} {hz : Nat} {out : Int32 × zzM}  (C : zzC p s m args c prog_12_method_40_code "BoardScriptModel" 4 D) (hlocks : meth.locks = false) (hr : meth.sig.returnType = (some .boolean)) (hin : meth.name = "makeList")    : ∀ (n : Nat) (M : zzM) (v0 : Nat) (v3 : Int32) (hn_v0 : v0 < S.2.1) (hk_v0 : zzk S v0 = 19) (hF : F_Md_makeList_24 S   n M v0 v3 = some out), zzB p l e { frames := 0, cells := 0, slots := 0, locals := 0 } s m args below meth c 4 D bs A (MQ below (zzQc D bs A S out.2 hz (some (.int out.1))) args s 0 0 A) 0 0 S M hz 24 [(0, .ref (bs + v0)), (3, .int v3)] [] := by
  intro n
  induction n with
  | zero => intro M v0 v3 hn_v0 hk_v0 hF; cases hF
  | succ n ih => intro M v0 v3 hn_v0 hk_v0 hF; exact g_Md_makeList_24_b C hlocks hr hin   ih M v0 v3 hn_v0 hk_v0 hF
def F_Md_makeList (S : zzS)  (M : zzM) (v0 : Nat) (v1 : Int64) : Option (Int32 × zzM) := zzlet (lg_cmp v1 (0 : Int64)) fun x1 => if x1 < 0 then (some ((0 : Int32), M)) else (zzlet (lg_cmp v1 (20 : Int64)) fun x2 => if x2 ≤ 0 then (zzlet ((v1).toInt32) fun x3 => zzlet (zzsI M v0 30 x3) fun M => F_Md_makeList_24 S   2000 M v0 (0 : Int32)) else (some ((0 : Int32), M)))
set_option maxHeartbeats 4000000 in
set_option maxRecDepth 100000 in
theorem c_Md_makeList {l : Launch} {D : zzD} {bs : Nat} {A : Nat → Prop} {S : zzS} {M : zzM} {hz : Nat} {out : Int32 × zzM} {v0 : Nat} {v1 : Int64}   (hF : F_Md_makeList S  M v0 v1 = some out) (hn_v0 : v0 < S.2.1) (hk_v0 : zzk S v0 = 19) : Met l y_Md_makeList (Cond.code y_Md_makeList prog_12_method_40_code 4 (some .boolean) :: zzW) { frames := 0, cells := 0, slots := 0, locals := 0 } (zzPc D bs A S M hz [.ref (bs + v0), .long v1]) (zzQc D bs A S out.2 hz (some (.int out.1))) 0 0 A := by
  refine zz_met [.ref (bs + v0), .long v1] (by decide) (Nat.le_of_ble_eq_true rfl) (fun p e s m args below meth c C hr hlocks hin hsz => ?_)
  refine zz_eq (lv' := [(0, .ref (bs + v0)), (1, .long v1)]) (st' := []) rfl rfl ?_
  unfold F_Md_makeList at hF
  refine zi_lload_n C d_Md_makeList_0 rfl 1 rfl ?_
  refine zi_lconst (v := 0) C d_Md_makeList_1 (by decide) ?_
  refine zi_lcmp C d_Md_makeList_2 hF (fun x1 hF => ?_)
  refine zi_if_lt (tgt := 14) C d_Md_makeList_3 (by decide) hF (fun hF => ?_) (fun hF => ?_)
  · refine zi_iconst (v := 0) C d_Md_makeList_14 (by decide) ?_
    exact zi_zret C hlocks hr (by decide +kernel) d_Md_makeList_15 (by cases hF; rfl) rfl (by cases hF; rfl) rfl
  · refine zi_lload_n C d_Md_makeList_6 rfl 1 rfl ?_
    refine zi_ldc2 (v := 20) C zw_161 d_Md_makeList_7 ?_
    refine zi_lcmp C d_Md_makeList_10 hF (fun x2 hF => ?_)
    refine zi_if_le (tgt := 16) C d_Md_makeList_11 (by decide) hF (fun hF => ?_) (fun hF => ?_)
    · refine zi_aload_n C d_Md_makeList_16 rfl 0 rfl ?_
      refine zi_lload_n C d_Md_makeList_17 rfl 1 rfl ?_
      refine zi_l2i C d_Md_makeList_18 hF (fun x3 hF => ?_)
      refine zi_putI C zc_9 (k := 30) (by decide) zw_13 rfl (Or.inl rfl) hn_v0 hk_v0 d_Md_makeList_19 rfl hF (fun M hF => ?_)
      refine zi_iconst (v := 0) C d_Md_makeList_22 (by decide) ?_
      refine zi_istore_n (lv' := [(3, .int (0 : Int32)), (0, .ref (bs + v0)), (1, .long v1)]) C d_Md_makeList_23 rfl (by decide) rfl ?_
      refine zz_sub [1, 0] (lv' := [(0, .ref (bs + v0)), (3, .int (0 : Int32))]) rfl ?_
      exact g_Md_makeList_24 C hlocks hr hin   _ _ v0 (0 : Int32) hn_v0 hk_v0 hF
    · refine zi_iconst (v := 0) C d_Md_makeList_14 (by decide) ?_
      exact zi_zret C hlocks hr (by decide +kernel) d_Md_makeList_15 (by cases hF; rfl) rfl (by cases hF; rfl) rfl
def F_Md_list (S : zzS)  (M : zzM) (v0 : Nat) (v1 : Int32) : Option (Int32 × zzM) := zzlet (zzsI M v0 0 (0 : Int32)) fun M => zzlet ((v1).toInt64) fun x1 => zzcall (F_Md_makeList S M v0 x1) fun r2 M => if r2 = 0 then (some ((3 : Int32), M)) else (some ((0 : Int32), M))
set_option maxHeartbeats 4000000 in
set_option maxRecDepth 100000 in
theorem c_Md_list {l : Launch} {D : zzD} {bs : Nat} {A : Nat → Prop} {S : zzS} {M : zzM} {hz : Nat} {out : Int32 × zzM} {v0 : Nat} {v1 : Int32}   (hF : F_Md_list S  M v0 v1 = some out) (hn_v0 : v0 < S.2.1) (hk_v0 : zzk S v0 = 19) : Met l y_Md_list (Cond.code y_Md_list prog_12_method_41_code 2 (some .int) :: zzW) { frames := 1, cells := 0, slots := 0, locals := 23 } (zzPc D bs A S M hz [.ref (bs + v0), .int v1]) (zzQc D bs A S out.2 hz (some (.int out.1))) 0 0 A := by
  refine zz_met [.ref (bs + v0), .int v1] (by decide) (Nat.le_of_ble_eq_true rfl) (fun p e s m args below meth c C hr hlocks hin hsz => ?_)
  refine zz_eq (lv' := [(0, .ref (bs + v0)), (1, .int v1)]) (st' := []) rfl rfl ?_
  unfold F_Md_list at hF
  refine zi_aload_n C d_Md_list_0 rfl 0 rfl ?_
  refine zi_iconst (v := 0) C d_Md_list_1 (by decide) ?_
  refine zi_putI C zc_9 (k := 0) (by decide) zw_23 rfl (Or.inl rfl) hn_v0 hk_v0 d_Md_list_2 rfl hF (fun M hF => ?_)
  refine zi_aload_n C d_Md_list_5 rfl 0 rfl ?_
  refine zi_iload_n C d_Md_list_6 rfl 1 rfl ?_
  refine zi_i2l C d_Md_list_7 hF (fun x1 hF => ?_)
  obtain ⟨r2, M, hqr2, hF⟩ := zzcall_e hF
  refine zi_callV_i (M2 := M) (r := r2) (n := 1) (As := [.long x1]) (st := []) C (c_Md_makeList hqr2 hn_v0 hk_v0) zw_163 zw_18 (by decide +kernel) ⟨Nat.le_of_ble_eq_true rfl, Nat.le_of_ble_eq_true rfl⟩ rfl (Nat.le_of_ble_eq_true rfl) ⟨Nat.le_of_ble_eq_true rfl, Nat.le_of_ble_eq_true rfl⟩ zw_164 zw_165 zw_166 zc_9.1 hn_v0 hk_v0 rfl d_Md_list_8 ?_
  refine zi_if_eq (tgt := 18) C d_Md_list_11 (by decide) hF (fun hF => ?_) (fun hF => ?_)
  · refine zi_iconst (v := 3) C d_Md_list_18 (by decide) ?_
    exact zi_iret C hlocks hr d_Md_list_19 (by cases hF; rfl) rfl (by cases hF; rfl) rfl
  · refine zi_iconst (v := 0) C d_Md_list_14 (by decide) ?_
    refine zi_goto (tgt := 19) C d_Md_list_15 (by decide) ?_
    exact zi_iret C hlocks hr d_Md_list_19 (by cases hF; rfl) rfl (by cases hF; rfl) rfl
def F_Md_failAt (S : zzS)  (M : zzM) (v0 : Nat) (v1 : Int32) : Option (Int32 × zzM) := zzlet (zzsI M v0 0 (0 : Int32)) fun M => if 0 ≤ v1 then (zzlet (zzI M v0 32) fun x1 => if v1 = x1 then (some ((0 : Int32), M)) else (zzlet (zzsI M v0 32 v1) fun M => some ((1 : Int32), M))) else (zzlet (zzI M v0 32) fun x2 => if (-1 : Int32) = x2 then (some ((0 : Int32), M)) else (zzlet (zzsI M v0 32 (-1 : Int32)) fun M => some ((1 : Int32), M)))
set_option maxHeartbeats 4000000 in
set_option maxRecDepth 100000 in
theorem c_Md_failAt {l : Launch} {D : zzD} {bs : Nat} {A : Nat → Prop} {S : zzS} {M : zzM} {hz : Nat} {out : Int32 × zzM} {v0 : Nat} {v1 : Int32}   (hF : F_Md_failAt S  M v0 v1 = some out) (hn_v0 : v0 < S.2.1) (hk_v0 : zzk S v0 = 19) : Met l y_Md_failAt (Cond.code y_Md_failAt prog_12_method_42_code 3 (some .boolean) :: zzW) { frames := 0, cells := 0, slots := 0, locals := 0 } (zzPc D bs A S M hz [.ref (bs + v0), .int v1]) (zzQc D bs A S out.2 hz (some (.int out.1))) 0 0 A := by
  refine zz_met [.ref (bs + v0), .int v1] (by decide) (Nat.le_of_ble_eq_true rfl) (fun p e s m args below meth c C hr hlocks hin hsz => ?_)
  refine zz_eq (lv' := [(0, .ref (bs + v0)), (1, .int v1)]) (st' := []) rfl rfl ?_
  unfold F_Md_failAt at hF
  refine zi_aload_n C d_Md_failAt_0 rfl 0 rfl ?_
  refine zi_iconst (v := 0) C d_Md_failAt_1 (by decide) ?_
  refine zi_putI C zc_9 (k := 0) (by decide) zw_23 rfl (Or.inl rfl) hn_v0 hk_v0 d_Md_failAt_2 rfl hF (fun M hF => ?_)
  refine zi_iload_n C d_Md_failAt_5 rfl 1 rfl ?_
  refine zi_if_ge (tgt := 13) C d_Md_failAt_6 (by decide) hF (fun hF => ?_) (fun hF => ?_)
  · refine zi_iload_n C d_Md_failAt_13 rfl 1 rfl ?_
    refine zi_istore_n (lv' := [(2, .int v1), (0, .ref (bs + v0)), (1, .int v1)]) C d_Md_failAt_14 rfl (by decide) rfl ?_
    refine zi_iload_n C d_Md_failAt_15 rfl 0 rfl ?_
    refine zi_aload_n C d_Md_failAt_16 rfl 1 rfl ?_
    refine zi_getI C zc_9 (k := 32) (by decide) zw_14 rfl hn_v0 hk_v0 d_Md_failAt_17 (fun _ _ _ => rfl) hF (fun x1 hF => ?_)
    refine zi_icmp_ne (tgt := 25) C d_Md_failAt_20 (by decide) hF (fun hF => ?_) (fun hF => ?_)
    · refine zi_aload_n C d_Md_failAt_25 rfl 1 rfl ?_
      refine zi_iload_n C d_Md_failAt_26 rfl 0 rfl ?_
      refine zi_putI C zc_9 (k := 32) (by decide) zw_14 rfl (Or.inl rfl) hn_v0 hk_v0 d_Md_failAt_27 rfl hF (fun M hF => ?_)
      refine zi_iconst (v := 1) C d_Md_failAt_30 (by decide) ?_
      exact zi_zret C hlocks hr (by decide +kernel) d_Md_failAt_31 (by cases hF; rfl) rfl (by cases hF; rfl) rfl
    · refine zi_iconst (v := 0) C d_Md_failAt_23 (by decide) ?_
      exact zi_zret C hlocks hr (by decide +kernel) d_Md_failAt_24 (by cases hF; rfl) rfl (by cases hF; rfl) rfl
  · refine zi_iconst (v := -1) C d_Md_failAt_9 (by decide) ?_
    refine zi_goto (tgt := 14) C d_Md_failAt_10 (by decide) ?_
    refine zi_istore_n (lv' := [(2, .int (-1 : Int32)), (0, .ref (bs + v0)), (1, .int v1)]) C d_Md_failAt_14 rfl (by decide) rfl ?_
    refine zi_iload_n C d_Md_failAt_15 rfl 0 rfl ?_
    refine zi_aload_n C d_Md_failAt_16 rfl 1 rfl ?_
    refine zi_getI C zc_9 (k := 32) (by decide) zw_14 rfl hn_v0 hk_v0 d_Md_failAt_17 (fun _ _ _ => rfl) hF (fun x2 hF => ?_)
    refine zi_icmp_ne (tgt := 25) C d_Md_failAt_20 (by decide) hF (fun hF => ?_) (fun hF => ?_)
    · refine zi_aload_n C d_Md_failAt_25 rfl 1 rfl ?_
      refine zi_iload_n C d_Md_failAt_26 rfl 0 rfl ?_
      refine zi_putI C zc_9 (k := 32) (by decide) zw_14 rfl (Or.inl rfl) hn_v0 hk_v0 d_Md_failAt_27 rfl hF (fun M hF => ?_)
      refine zi_iconst (v := 1) C d_Md_failAt_30 (by decide) ?_
      exact zi_zret C hlocks hr (by decide +kernel) d_Md_failAt_31 (by cases hF; rfl) rfl (by cases hF; rfl) rfl
    · refine zi_iconst (v := 0) C d_Md_failAt_23 (by decide) ?_
      exact zi_zret C hlocks hr (by decide +kernel) d_Md_failAt_24 (by cases hF; rfl) rfl (by cases hF; rfl) rfl
def F_Md_reckon (S : zzS)  (M : zzM) (v0 : Int32) (v1 : Int64) (v3 : Int64) : Option (Int64 × zzM) := if v0 = (37 : Int32) then (zzck (!(v3 == 0)) (zzlet (v1 - v1 / v3 * v3) fun x2 => some (x2, M))) else (if v0 = (42 : Int32) then (zzlet (v1 * v3) fun x4 => some (x4, M)) else (if v0 = (43 : Int32) then (zzlet (v1 + v3) fun x6 => some (x6, M)) else (if v0 = (45 : Int32) then (zzlet (v1 - v3) fun x8 => some (x8, M)) else (if v0 = (47 : Int32) then (zzck (!(v3 == 0)) (zzlet (v1 / v3) fun x10 => some (x10, M))) else (if v0 = (60 : Int32) then (zzlet (lg_cmp v1 v3) fun x12 => if 0 ≤ x12 then (some ((0 : Int64), M)) else (some ((1 : Int64), M))) else (zzlet (lg_cmp v1 v3) fun x13 => if x13 = 0 then (some ((1 : Int64), M)) else (some ((0 : Int64), M))))))))
set_option maxHeartbeats 4000000 in
set_option maxRecDepth 100000 in
theorem c_Md_reckon {l : Launch} {D : zzD} {bs : Nat} {A : Nat → Prop} {S : zzS} {M : zzM} {hz : Nat} {out : Int64 × zzM} {v0 : Int32} {v1 : Int64} {v3 : Int64}   (hF : F_Md_reckon S  M v0 v1 v3 = some out)  : Met l y_Md_reckon (Cond.code y_Md_reckon prog_12_method_43_code 5 (some .long) :: zzW) { frames := 0, cells := 0, slots := 0, locals := 0 } (zzPc D bs A S M hz [.int v0, .long v1, .long v3]) (zzQc D bs A S out.2 hz (some (.long out.1))) 0 0 A := by
  refine zz_met [.int v0, .long v1, .long v3] (by decide) (Nat.le_of_ble_eq_true rfl) (fun p e s m args below meth c C hr hlocks hin hsz => ?_)
  refine zz_eq (lv' := [(0, .int v0), (1, .long v1), (3, .long v3)]) (st' := []) rfl rfl ?_
  unfold F_Md_reckon at hF
  refine zi_iload_n C d_Md_reckon_0 rfl 0 rfl ?_
  by_cases hs1 : v0 = (37 : Int32)
  · rw [if_pos hs1] at hF
    refine zi_lookup C d_Md_reckon_1 (by decide) 67 68 (by rw [hs1]; decide +kernel) (by decide) ?_
    refine zi_lload_n C d_Md_reckon_68 rfl 1 rfl ?_
    refine zi_lload_n C d_Md_reckon_69 rfl 2 rfl ?_
    refine zi_lrem C d_Md_reckon_70 hF (fun x2 hF => ?_)
    exact zi_lret C hlocks hr d_Md_reckon_71 (by cases hF; rfl) rfl (by cases hF; rfl) rfl
  · rw [if_neg hs1] at hF
    by_cases hs3 : v0 = (42 : Int32)
    · rw [if_pos hs3] at hF
      refine zi_lookup C d_Md_reckon_1 (by decide) 59 60 (by rw [hs3]; decide +kernel) (by decide) ?_
      refine zi_lload_n C d_Md_reckon_60 rfl 1 rfl ?_
      refine zi_lload_n C d_Md_reckon_61 rfl 2 rfl ?_
      refine zi_lmul C d_Md_reckon_62 hF (fun x4 hF => ?_)
      exact zi_lret C hlocks hr d_Md_reckon_63 (by cases hF; rfl) rfl (by cases hF; rfl) rfl
    · rw [if_neg hs3] at hF
      by_cases hs5 : v0 = (43 : Int32)
      · rw [if_pos hs5] at hF
        refine zi_lookup C d_Md_reckon_1 (by decide) 71 72 (by rw [hs5]; decide +kernel) (by decide) ?_
        refine zi_lload_n C d_Md_reckon_72 rfl 1 rfl ?_
        refine zi_lload_n C d_Md_reckon_73 rfl 2 rfl ?_
        refine zi_ladd C d_Md_reckon_74 hF (fun x6 hF => ?_)
        exact zi_lret C hlocks hr d_Md_reckon_75 (by cases hF; rfl) rfl (by cases hF; rfl) rfl
      · rw [if_neg hs5] at hF
        by_cases hs7 : v0 = (45 : Int32)
        · rw [if_pos hs7] at hF
          refine zi_lookup C d_Md_reckon_1 (by decide) 75 76 (by rw [hs7]; decide +kernel) (by decide) ?_
          refine zi_lload_n C d_Md_reckon_76 rfl 1 rfl ?_
          refine zi_lload_n C d_Md_reckon_77 rfl 2 rfl ?_
          refine zi_lsub C d_Md_reckon_78 hF (fun x8 hF => ?_)
          exact zi_lret C hlocks hr d_Md_reckon_79 (by cases hF; rfl) rfl (by cases hF; rfl) rfl
        · rw [if_neg hs7] at hF
          by_cases hs9 : v0 = (47 : Int32)
          · rw [if_pos hs9] at hF
            refine zi_lookup C d_Md_reckon_1 (by decide) 63 64 (by rw [hs9]; decide +kernel) (by decide) ?_
            refine zi_lload_n C d_Md_reckon_64 rfl 1 rfl ?_
            refine zi_lload_n C d_Md_reckon_65 rfl 2 rfl ?_
            refine zi_ldiv C d_Md_reckon_66 hF (fun x10 hF => ?_)
            exact zi_lret C hlocks hr d_Md_reckon_67 (by cases hF; rfl) rfl (by cases hF; rfl) rfl
          · rw [if_neg hs9] at hF
            by_cases hs11 : v0 = (60 : Int32)
            · rw [if_pos hs11] at hF
              refine zi_lookup C d_Md_reckon_1 (by decide) 79 80 (by rw [hs11]; decide +kernel) (by decide) ?_
              refine zi_lload_n C d_Md_reckon_80 rfl 1 rfl ?_
              refine zi_lload_n C d_Md_reckon_81 rfl 2 rfl ?_
              refine zi_lcmp C d_Md_reckon_82 hF (fun x12 hF => ?_)
              refine zi_if_ge (tgt := 90) C d_Md_reckon_83 (by decide) hF (fun hF => ?_) (fun hF => ?_)
              · refine zi_lconst (v := 0) C d_Md_reckon_90 (by decide) ?_
                exact zi_lret C hlocks hr d_Md_reckon_91 (by cases hF; rfl) rfl (by cases hF; rfl) rfl
              · refine zi_lconst (v := 1) C d_Md_reckon_86 (by decide) ?_
                refine zi_goto (tgt := 91) C d_Md_reckon_87 (by decide) ?_
                exact zi_lret C hlocks hr d_Md_reckon_91 (by cases hF; rfl) rfl (by cases hF; rfl) rfl
            · rw [if_neg hs11] at hF
              refine zi_lookup C d_Md_reckon_1 (by decide) 91 92 ((lv_osw hs1 (by decide)).trans ((lv_osw hs3 (by decide)).trans ((lv_osw hs5 (by decide)).trans ((lv_osw hs7 (by decide)).trans ((lv_osw hs9 (by decide)).trans ((lv_osw hs11 (by decide)).trans (rfl))))))) (by decide) ?_
              refine zi_lload_n C d_Md_reckon_92 rfl 1 rfl ?_
              refine zi_lload_n C d_Md_reckon_93 rfl 2 rfl ?_
              refine zi_lcmp C d_Md_reckon_94 hF (fun x13 hF => ?_)
              refine zi_if_ne (tgt := 102) C d_Md_reckon_95 (by decide) hF (fun hF => ?_) (fun hF => ?_)
              · refine zi_lconst (v := 0) C d_Md_reckon_102 (by decide) ?_
                exact zi_lret C hlocks hr d_Md_reckon_103 (by cases hF; rfl) rfl (by cases hF; rfl) rfl
              · refine zi_lconst (v := 1) C d_Md_reckon_98 (by decide) ?_
                refine zi_goto (tgt := 103) C d_Md_reckon_99 (by decide) ?_
                exact zi_lret C hlocks hr d_Md_reckon_103 (by cases hF; rfl) rfl (by cases hF; rfl) rfl
def F_Md_ask_348 (S : zzS)   (M : zzM) (v0 : Nat) (v2 : Int32) : Option (Int32 × zzM) := if v2 ≤ 0 then (zzlet (zzsL M v0 65 (0 : Int64)) fun M => zzlet (zzI M v0 66) fun x1 => if x1 = 0 then (some ((1 : Int32), M)) else (some ((0 : Int32), M))) else (zzref S 2 (zzR M v0 64) fun b2 => zzlet (v2 - (1 : Int32)) fun x3 => zzix S b2 x3 (zzlet (zzL M b2 (x3).toNatClampNeg) fun x4 => zzlet (zzsL M v0 65 x4) fun M => zzlet (zzI M v0 66) fun x5 => if x5 = 0 then (some ((1 : Int32), M)) else (some ((0 : Int32), M))))
set_option maxHeartbeats 4000000 in
set_option maxRecDepth 100000 in
theorem g_Md_ask_348 {p : Program} {l : Launch} {e : Env} {s : State} {m : MethodId} {args : Array Value} {below : List Frame} {meth : Method} {c : Code} {D : zzD} {bs : Nat} {A : Nat → Prop} {S : zzS} {hz : Nat} {out : Int32 × zzM}  (C : zzC p s m args c prog_12_method_44_code "BoardScriptModel" 7 D) (hlocks : meth.locks = false) (hr : meth.sig.returnType = (some .boolean)) (hin : meth.name = "ask")    (M : zzM) (v0 : Nat) (v2 : Int32) (hn_v0 : v0 < S.2.1) (hk_v0 : zzk S v0 = 19) (hF : F_Md_ask_348 S   M v0 v2 = some out) : zzB p l e { frames := 1, cells := 0, slots := 0, locals := 24 } s m args below meth c 7 D bs A (MQ below (zzQc D bs A S out.2 hz (some (.int out.1))) args s 0 0 A) 0 0 S M hz 348 [(0, .ref (bs + v0)), (2, .int v2)] [] := by
  unfold F_Md_ask_348 at hF
  refine zi_aload_n C d_Md_ask_348 rfl 0 rfl ?_
  refine zi_iload_n C d_Md_ask_349 rfl 1 rfl ?_
  refine zi_if_le (tgt := 364) C d_Md_ask_350 (by decide) hF (fun hF => ?_) (fun hF => ?_)
  · refine zi_lconst (v := 0) C d_Md_ask_364 (by decide) ?_
    refine zi_putL C zc_9 (k := 65) (by decide) zw_169 rfl (Or.inl rfl) hn_v0 hk_v0 d_Md_ask_365 rfl hF (fun M hF => ?_)
    refine zi_aload_n C d_Md_ask_368 rfl 0 rfl ?_
    refine zi_getI C zc_9 (k := 66) (by decide) zw_167 rfl hn_v0 hk_v0 d_Md_ask_369 (fun _ _ _ => rfl) hF (fun x1 hF => ?_)
    refine zi_if_ne (tgt := 379) C d_Md_ask_372 (by decide) hF (fun hF => ?_) (fun hF => ?_)
    · refine zi_iconst (v := 0) C d_Md_ask_379 (by decide) ?_
      exact zi_zret C hlocks hr (by decide +kernel) d_Md_ask_380 (by cases hF; rfl) rfl (by cases hF; rfl) rfl
    · refine zi_iconst (v := 1) C d_Md_ask_375 (by decide) ?_
      refine zi_goto (tgt := 380) C d_Md_ask_376 (by decide) ?_
      exact zi_zret C hlocks hr (by decide +kernel) d_Md_ask_380 (by cases hF; rfl) rfl (by cases hF; rfl) rfl
  · refine zi_aload_n C d_Md_ask_353 rfl 0 rfl ?_
    refine zi_getR C zc_9 (k := 64) (by decide) zw_168 rfl hn_v0 hk_v0 d_Md_ask_354 (fun _ _ _ => rfl) hF (fun b2 hn_b2 hk_b2 hF => ?_)
    refine zi_iload_n C d_Md_ask_357 rfl 1 rfl ?_
    refine zi_iconst (v := 1) C d_Md_ask_358 (by decide) ?_
    refine zi_isub C d_Md_ask_359 hF (fun x3 hF => ?_)
    refine zi_lald C hn_b2 hk_b2 d_Md_ask_360 hF (fun x4 hF => ?_)
    refine zi_goto (tgt := 365) C d_Md_ask_361 (by decide) ?_
    refine zi_putL C zc_9 (k := 65) (by decide) zw_169 rfl (Or.inl rfl) hn_v0 hk_v0 d_Md_ask_365 rfl hF (fun M hF => ?_)
    refine zi_aload_n C d_Md_ask_368 rfl 0 rfl ?_
    refine zi_getI C zc_9 (k := 66) (by decide) zw_167 rfl hn_v0 hk_v0 d_Md_ask_369 (fun _ _ _ => rfl) hF (fun x5 hF => ?_)
    refine zi_if_ne (tgt := 379) C d_Md_ask_372 (by decide) hF (fun hF => ?_) (fun hF => ?_)
    · refine zi_iconst (v := 0) C d_Md_ask_379 (by decide) ?_
      exact zi_zret C hlocks hr (by decide +kernel) d_Md_ask_380 (by cases hF; rfl) rfl (by cases hF; rfl) rfl
    · refine zi_iconst (v := 1) C d_Md_ask_375 (by decide) ?_
      refine zi_goto (tgt := 380) C d_Md_ask_376 (by decide) ?_
      exact zi_zret C hlocks hr (by decide +kernel) d_Md_ask_380 (by cases hF; rfl) rfl (by cases hF; rfl) rfl
def F_Md_ask_81 (S : zzS)  (k18 : zzM → Nat → Int32 → Int32 → Option (Int32 × zzM)) (M : zzM) (v0 : Nat) (v2 : Int32) (v3 : Int32) (v4 : Int32) : Option (Int32 × zzM) := zzref S 2 (zzR M v0 64) fun b1 => if v4 = (48 : Int32) then (zzref S 1 (zzR M v0 14) fun b12 => zzix S b12 v3 (zzlet (zzI M b12 (v3).toNatClampNeg) fun x13 => zzlet ((x13).toInt64) fun x14 => zzix S b1 v2 (zzlet (zzsL M b1 (v2).toNatClampNeg x14) fun M => zzlet (v2 + (1 : Int32)) fun x15 => zzlet (v3 + (1 : Int32)) fun x16 => k18 M v0 x15 x16))) else (if v4 = (97 : Int32) then (zzref S 2 (zzR M v0 33) fun b6 => zzref S 1 (zzR M v0 14) fun b7 => zzix S b7 v3 (zzlet (zzI M b7 (v3).toNatClampNeg) fun x8 => zzix S b6 x8 (zzlet (zzL M b6 (x8).toNatClampNeg) fun x9 => zzix S b1 v2 (zzlet (zzsL M b1 (v2).toNatClampNeg x9) fun M => zzlet (v2 + (1 : Int32)) fun x10 => zzlet (v3 + (1 : Int32)) fun x11 => k18 M v0 x10 x11)))) else (zzlet (zzI M v0 28) fun x2 => zzlet ((x2).toInt64) fun x3 => zzix S b1 v2 (zzlet (zzsL M b1 (v2).toNatClampNeg x3) fun M => zzlet (v2 + (1 : Int32)) fun x4 => zzlet (v3 + (1 : Int32)) fun x5 => k18 M v0 x4 x5)))
set_option maxHeartbeats 4000000 in
set_option maxRecDepth 100000 in
theorem g_Md_ask_81 {p : Program} {l : Launch} {e : Env} {s : State} {m : MethodId} {args : Array Value} {below : List Frame} {meth : Method} {c : Code} {D : zzD} {bs : Nat} {A : Nat → Prop} {S : zzS} {hz : Nat} {out : Int32 × zzM}  (C : zzC p s m args c prog_12_method_44_code "BoardScriptModel" 7 D) (hlocks : meth.locks = false) (hr : meth.sig.returnType = (some .boolean)) (hin : meth.name = "ask")  {k18 : zzM → Nat → Int32 → Int32 → Option (Int32 × zzM)} (hk18 : ∀ (M : zzM) (v0 : Nat) (v2 : Int32) (v3 : Int32) (hn_v0 : v0 < S.2.1) (hk_v0 : zzk S v0 = 19), k18 M v0 v2 v3 = some out → zzB p l e { frames := 1, cells := 0, slots := 0, locals := 24 } s m args below meth c 7 D bs A (MQ below (zzQc D bs A S out.2 hz (some (.int out.1))) args s 0 0 A) 0 0 S M hz 18 [(0, .ref (bs + v0)), (2, .int v2), (3, .int v3)] []) (M : zzM) (v0 : Nat) (v2 : Int32) (v3 : Int32) (v4 : Int32) (hn_v0 : v0 < S.2.1) (hk_v0 : zzk S v0 = 19) (hF : F_Md_ask_81 S  k18 M v0 v2 v3 v4 = some out) : zzB p l e { frames := 1, cells := 0, slots := 0, locals := 24 } s m args below meth c 7 D bs A (MQ below (zzQc D bs A S out.2 hz (some (.int out.1))) args s 0 0 A) 0 0 S M hz 81 [(0, .ref (bs + v0)), (2, .int v2), (3, .int v3), (4, .int v4)] [] := by
  unfold F_Md_ask_81 at hF
  refine zi_aload_n C d_Md_ask_81 rfl 0 rfl ?_
  refine zi_getR C zc_9 (k := 64) (by decide) zw_168 rfl hn_v0 hk_v0 d_Md_ask_82 (fun _ _ _ => rfl) hF (fun b1 hn_b1 hk_b1 hF => ?_)
  refine zi_iload_n C d_Md_ask_85 rfl 1 rfl ?_
  refine zi_iload C d_Md_ask_86 3 rfl ?_
  refine zi_bipush (v := 48) C d_Md_ask_88 (by decide) ?_
  refine zi_icmp_ne (tgt := 103) C d_Md_ask_90 (by decide) hF (fun hF => ?_) (fun hF => ?_)
  · refine zi_iload C d_Md_ask_103 3 rfl ?_
    refine zi_bipush (v := 97) C d_Md_ask_105 (by decide) ?_
    refine zi_icmp_ne (tgt := 124) C d_Md_ask_107 (by decide) hF (fun hF => ?_) (fun hF => ?_)
    · refine zi_aload_n C d_Md_ask_124 rfl 0 rfl ?_
      refine zi_getI C zc_9 (k := 28) (by decide) zw_12 rfl hn_v0 hk_v0 d_Md_ask_125 (fun _ _ _ => rfl) hF (fun x2 hF => ?_)
      refine zi_i2l C d_Md_ask_128 hF (fun x3 hF => ?_)
      refine zi_last C hn_b1 hk_b1 d_Md_ask_129 hF (fun M hF => ?_)
      refine zi_iinc (j := 1) (v0 := 1) C d_Md_ask_130 rfl (by decide) (by decide) hF (fun x4 => [(2, .int x4), (0, .ref (bs + v0)), (3, .int v3), (4, .int v4)]) (fun _ => rfl) (fun x4 hF => ?_)
      refine zi_goto (tgt := 342) C d_Md_ask_133 (by decide) ?_
      refine zi_iinc (j := 2) (v0 := 1) C d_Md_ask_342 rfl (by decide) (by decide) hF (fun x5 => [(3, .int x5), (2, .int x4), (0, .ref (bs + v0)), (4, .int v4)]) (fun _ => rfl) (fun x5 hF => ?_)
      refine zi_goto (tgt := 18) C d_Md_ask_345 (by decide) ?_
      refine zz_sub [2, 1, 0] (lv' := [(0, .ref (bs + v0)), (2, .int x4), (3, .int x5)]) rfl ?_
      exact hk18 _ v0 x4 x5 hn_v0 hk_v0 hF
    · refine zi_aload_n C d_Md_ask_110 rfl 0 rfl ?_
      refine zi_getR C zc_9 (k := 33) (by decide) zw_10 rfl hn_v0 hk_v0 d_Md_ask_111 (fun _ _ _ => rfl) hF (fun b6 hn_b6 hk_b6 hF => ?_)
      refine zi_aload_n C d_Md_ask_114 rfl 0 rfl ?_
      refine zi_getR C zc_9 (k := 14) (by decide) zw_38 rfl hn_v0 hk_v0 d_Md_ask_115 (fun _ _ _ => rfl) hF (fun b7 hn_b7 hk_b7 hF => ?_)
      refine zi_iload_n C d_Md_ask_118 rfl 2 rfl ?_
      refine zi_iald C hn_b7 hk_b7 d_Md_ask_119 hF (fun x8 hF => ?_)
      refine zi_lald C hn_b6 hk_b6 d_Md_ask_120 hF (fun x9 hF => ?_)
      refine zi_goto (tgt := 129) C d_Md_ask_121 (by decide) ?_
      refine zi_last C hn_b1 hk_b1 d_Md_ask_129 hF (fun M hF => ?_)
      refine zi_iinc (j := 1) (v0 := 1) C d_Md_ask_130 rfl (by decide) (by decide) hF (fun x10 => [(2, .int x10), (0, .ref (bs + v0)), (3, .int v3), (4, .int v4)]) (fun _ => rfl) (fun x10 hF => ?_)
      refine zi_goto (tgt := 342) C d_Md_ask_133 (by decide) ?_
      refine zi_iinc (j := 2) (v0 := 1) C d_Md_ask_342 rfl (by decide) (by decide) hF (fun x11 => [(3, .int x11), (2, .int x10), (0, .ref (bs + v0)), (4, .int v4)]) (fun _ => rfl) (fun x11 hF => ?_)
      refine zi_goto (tgt := 18) C d_Md_ask_345 (by decide) ?_
      refine zz_sub [2, 1, 0] (lv' := [(0, .ref (bs + v0)), (2, .int x10), (3, .int x11)]) rfl ?_
      exact hk18 _ v0 x10 x11 hn_v0 hk_v0 hF
  · refine zi_aload_n C d_Md_ask_93 rfl 0 rfl ?_
    refine zi_getR C zc_9 (k := 14) (by decide) zw_38 rfl hn_v0 hk_v0 d_Md_ask_94 (fun _ _ _ => rfl) hF (fun b12 hn_b12 hk_b12 hF => ?_)
    refine zi_iload_n C d_Md_ask_97 rfl 2 rfl ?_
    refine zi_iald C hn_b12 hk_b12 d_Md_ask_98 hF (fun x13 hF => ?_)
    refine zi_i2l C d_Md_ask_99 hF (fun x14 hF => ?_)
    refine zi_goto (tgt := 129) C d_Md_ask_100 (by decide) ?_
    refine zi_last C hn_b1 hk_b1 d_Md_ask_129 hF (fun M hF => ?_)
    refine zi_iinc (j := 1) (v0 := 1) C d_Md_ask_130 rfl (by decide) (by decide) hF (fun x15 => [(2, .int x15), (0, .ref (bs + v0)), (3, .int v3), (4, .int v4)]) (fun _ => rfl) (fun x15 hF => ?_)
    refine zi_goto (tgt := 342) C d_Md_ask_133 (by decide) ?_
    refine zi_iinc (j := 2) (v0 := 1) C d_Md_ask_342 rfl (by decide) (by decide) hF (fun x16 => [(3, .int x16), (2, .int x15), (0, .ref (bs + v0)), (4, .int v4)]) (fun _ => rfl) (fun x16 hF => ?_)
    refine zi_goto (tgt := 18) C d_Md_ask_345 (by decide) ?_
    refine zz_sub [2, 1, 0] (lv' := [(0, .ref (bs + v0)), (2, .int x15), (3, .int x16)]) rfl ?_
    exact hk18 _ v0 x15 x16 hn_v0 hk_v0 hF
def F_Md_ask_180 (S : zzS)  (k18 : zzM → Nat → Int32 → Int32 → Option (Int32 × zzM)) (M : zzM) (v0 : Nat) (v2 : Int32) (v3 : Int32) (v5 : Int64) (w0 : Int32) (w1 : Nat) : Option (Int32 × zzM) := zzlet (zzsI M w1 66 w0) fun M => zzlet (zzI M v0 66) fun x1 => if x1 = 0 then (zzref S 2 (zzR M v0 64) fun b3 => zzlet (v2 - (1 : Int32)) fun x4 => zzref S 2 (zzR M v0 29) fun b5 => zzlet ((v5).toInt32) fun x6 => zzlet ((6 : Int32) * x6) fun x7 => zzref S 1 (zzR M v0 14) fun b8 => zzix S b8 v3 (zzlet (zzI M b8 (v3).toNatClampNeg) fun x9 => zzlet (x7 + x9) fun x10 => zzix S b5 x10 (zzlet (zzL M b5 (x10).toNatClampNeg) fun x11 => zzix S b3 x4 (zzlet (zzsL M b3 (x4).toNatClampNeg x11) fun M => zzlet (v3 + (1 : Int32)) fun x12 => k18 M v0 v2 x12)))) else (zzlet (v3 + (1 : Int32)) fun x2 => k18 M v0 v2 x2)
set_option maxHeartbeats 4000000 in
set_option maxRecDepth 100000 in
theorem g_Md_ask_180 {p : Program} {l : Launch} {e : Env} {s : State} {m : MethodId} {args : Array Value} {below : List Frame} {meth : Method} {c : Code} {D : zzD} {bs : Nat} {A : Nat → Prop} {S : zzS} {hz : Nat} {out : Int32 × zzM}  (C : zzC p s m args c prog_12_method_44_code "BoardScriptModel" 7 D) (hlocks : meth.locks = false) (hr : meth.sig.returnType = (some .boolean)) (hin : meth.name = "ask")  {k18 : zzM → Nat → Int32 → Int32 → Option (Int32 × zzM)} (hk18 : ∀ (M : zzM) (v0 : Nat) (v2 : Int32) (v3 : Int32) (hn_v0 : v0 < S.2.1) (hk_v0 : zzk S v0 = 19), k18 M v0 v2 v3 = some out → zzB p l e { frames := 1, cells := 0, slots := 0, locals := 24 } s m args below meth c 7 D bs A (MQ below (zzQc D bs A S out.2 hz (some (.int out.1))) args s 0 0 A) 0 0 S M hz 18 [(0, .ref (bs + v0)), (2, .int v2), (3, .int v3)] []) (M : zzM) (v0 : Nat) (v2 : Int32) (v3 : Int32) (v5 : Int64) (w0 : Int32) (w1 : Nat) (hn_v0 : v0 < S.2.1) (hk_v0 : zzk S v0 = 19) (hn_w1 : w1 < S.2.1) (hk_w1 : zzk S w1 = 19) (hF : F_Md_ask_180 S  k18 M v0 v2 v3 v5 w0 w1 = some out) : zzB p l e { frames := 1, cells := 0, slots := 0, locals := 24 } s m args below meth c 7 D bs A (MQ below (zzQc D bs A S out.2 hz (some (.int out.1))) args s 0 0 A) 0 0 S M hz 180 [(0, .ref (bs + v0)), (2, .int v2), (3, .int v3), (5, .long v5)] [.int w0, .ref (bs + w1)] := by
  unfold F_Md_ask_180 at hF
  refine zi_putI C zc_9 (k := 66) (by decide) zw_167 rfl (Or.inl rfl) hn_w1 hk_w1 d_Md_ask_180 rfl hF (fun M hF => ?_)
  refine zi_aload_n C d_Md_ask_183 rfl 0 rfl ?_
  refine zi_getI C zc_9 (k := 66) (by decide) zw_167 rfl hn_v0 hk_v0 d_Md_ask_184 (fun _ _ _ => rfl) hF (fun x1 hF => ?_)
  refine zi_if_ne (tgt := 342) C d_Md_ask_187 (by decide) hF (fun hF => ?_) (fun hF => ?_)
  · refine zi_iinc (j := 2) (v0 := 1) C d_Md_ask_342 rfl (by decide) (by decide) hF (fun x2 => [(3, .int x2), (0, .ref (bs + v0)), (2, .int v2), (5, .long v5)]) (fun _ => rfl) (fun x2 hF => ?_)
    refine zi_goto (tgt := 18) C d_Md_ask_345 (by decide) ?_
    refine zz_sub [1, 2, 0] (lv' := [(0, .ref (bs + v0)), (2, .int v2), (3, .int x2)]) rfl ?_
    exact hk18 _ v0 v2 x2 hn_v0 hk_v0 hF
  · refine zi_aload_n C d_Md_ask_190 rfl 0 rfl ?_
    refine zi_getR C zc_9 (k := 64) (by decide) zw_168 rfl hn_v0 hk_v0 d_Md_ask_191 (fun _ _ _ => rfl) hF (fun b3 hn_b3 hk_b3 hF => ?_)
    refine zi_iload_n C d_Md_ask_194 rfl 1 rfl ?_
    refine zi_iconst (v := 1) C d_Md_ask_195 (by decide) ?_
    refine zi_isub C d_Md_ask_196 hF (fun x4 hF => ?_)
    refine zi_aload_n C d_Md_ask_197 rfl 0 rfl ?_
    refine zi_getR C zc_9 (k := 29) (by decide) zw_152 rfl hn_v0 hk_v0 d_Md_ask_198 (fun _ _ _ => rfl) hF (fun b5 hn_b5 hk_b5 hF => ?_)
    refine zi_bipush (v := 6) C d_Md_ask_201 (by decide) ?_
    refine zi_lload C d_Md_ask_203 3 rfl ?_
    refine zi_l2i C d_Md_ask_205 hF (fun x6 hF => ?_)
    refine zi_imul C d_Md_ask_206 hF (fun x7 hF => ?_)
    refine zi_aload_n C d_Md_ask_207 rfl 0 rfl ?_
    refine zi_getR C zc_9 (k := 14) (by decide) zw_38 rfl hn_v0 hk_v0 d_Md_ask_208 (fun _ _ _ => rfl) hF (fun b8 hn_b8 hk_b8 hF => ?_)
    refine zi_iload_n C d_Md_ask_211 rfl 2 rfl ?_
    refine zi_iald C hn_b8 hk_b8 d_Md_ask_212 hF (fun x9 hF => ?_)
    refine zi_iadd C d_Md_ask_213 hF (fun x10 hF => ?_)
    refine zi_lald C hn_b5 hk_b5 d_Md_ask_214 hF (fun x11 hF => ?_)
    refine zi_last C hn_b3 hk_b3 d_Md_ask_215 hF (fun M hF => ?_)
    refine zi_goto (tgt := 342) C d_Md_ask_216 (by decide) ?_
    refine zi_iinc (j := 2) (v0 := 1) C d_Md_ask_342 rfl (by decide) (by decide) hF (fun x12 => [(3, .int x12), (0, .ref (bs + v0)), (2, .int v2), (5, .long v5)]) (fun _ => rfl) (fun x12 hF => ?_)
    refine zi_goto (tgt := 18) C d_Md_ask_345 (by decide) ?_
    refine zz_sub [1, 2, 0] (lv' := [(0, .ref (bs + v0)), (2, .int v2), (3, .int x12)]) rfl ?_
    exact hk18 _ v0 v2 x12 hn_v0 hk_v0 hF
def F_Md_ask_250 (S : zzS)  (k18 : zzM → Nat → Int32 → Int32 → Option (Int32 × zzM)) (M : zzM) (v0 : Nat) (v2 : Int32) (v3 : Int32) (v5 : Int64) (w0 : Int32) (w1 : Nat) : Option (Int32 × zzM) := zzlet (zzsI M w1 66 w0) fun M => zzlet (zzI M v0 66) fun x1 => if x1 = 0 then (zzref S 2 (zzR M v0 64) fun b3 => zzlet (v2 - (1 : Int32)) fun x4 => zzref S 2 (zzR M v0 31) fun b5 => zzlet ((v5).toInt32) fun x6 => zzix S b5 x6 (zzlet (zzL M b5 (x6).toNatClampNeg) fun x7 => zzix S b3 x4 (zzlet (zzsL M b3 (x4).toNatClampNeg x7) fun M => zzlet (v3 + (1 : Int32)) fun x8 => k18 M v0 v2 x8))) else (zzlet (v3 + (1 : Int32)) fun x2 => k18 M v0 v2 x2)
set_option maxHeartbeats 4000000 in
set_option maxRecDepth 100000 in
theorem g_Md_ask_250 {p : Program} {l : Launch} {e : Env} {s : State} {m : MethodId} {args : Array Value} {below : List Frame} {meth : Method} {c : Code} {D : zzD} {bs : Nat} {A : Nat → Prop} {S : zzS} {hz : Nat} {out : Int32 × zzM}  (C : zzC p s m args c prog_12_method_44_code "BoardScriptModel" 7 D) (hlocks : meth.locks = false) (hr : meth.sig.returnType = (some .boolean)) (hin : meth.name = "ask")  {k18 : zzM → Nat → Int32 → Int32 → Option (Int32 × zzM)} (hk18 : ∀ (M : zzM) (v0 : Nat) (v2 : Int32) (v3 : Int32) (hn_v0 : v0 < S.2.1) (hk_v0 : zzk S v0 = 19), k18 M v0 v2 v3 = some out → zzB p l e { frames := 1, cells := 0, slots := 0, locals := 24 } s m args below meth c 7 D bs A (MQ below (zzQc D bs A S out.2 hz (some (.int out.1))) args s 0 0 A) 0 0 S M hz 18 [(0, .ref (bs + v0)), (2, .int v2), (3, .int v3)] []) (M : zzM) (v0 : Nat) (v2 : Int32) (v3 : Int32) (v5 : Int64) (w0 : Int32) (w1 : Nat) (hn_v0 : v0 < S.2.1) (hk_v0 : zzk S v0 = 19) (hn_w1 : w1 < S.2.1) (hk_w1 : zzk S w1 = 19) (hF : F_Md_ask_250 S  k18 M v0 v2 v3 v5 w0 w1 = some out) : zzB p l e { frames := 1, cells := 0, slots := 0, locals := 24 } s m args below meth c 7 D bs A (MQ below (zzQc D bs A S out.2 hz (some (.int out.1))) args s 0 0 A) 0 0 S M hz 250 [(0, .ref (bs + v0)), (2, .int v2), (3, .int v3), (5, .long v5)] [.int w0, .ref (bs + w1)] := by
  unfold F_Md_ask_250 at hF
  refine zi_putI C zc_9 (k := 66) (by decide) zw_167 rfl (Or.inl rfl) hn_w1 hk_w1 d_Md_ask_250 rfl hF (fun M hF => ?_)
  refine zi_aload_n C d_Md_ask_253 rfl 0 rfl ?_
  refine zi_getI C zc_9 (k := 66) (by decide) zw_167 rfl hn_v0 hk_v0 d_Md_ask_254 (fun _ _ _ => rfl) hF (fun x1 hF => ?_)
  refine zi_if_ne (tgt := 342) C d_Md_ask_257 (by decide) hF (fun hF => ?_) (fun hF => ?_)
  · refine zi_iinc (j := 2) (v0 := 1) C d_Md_ask_342 rfl (by decide) (by decide) hF (fun x2 => [(3, .int x2), (0, .ref (bs + v0)), (2, .int v2), (5, .long v5)]) (fun _ => rfl) (fun x2 hF => ?_)
    refine zi_goto (tgt := 18) C d_Md_ask_345 (by decide) ?_
    refine zz_sub [1, 2, 0] (lv' := [(0, .ref (bs + v0)), (2, .int v2), (3, .int x2)]) rfl ?_
    exact hk18 _ v0 v2 x2 hn_v0 hk_v0 hF
  · refine zi_aload_n C d_Md_ask_260 rfl 0 rfl ?_
    refine zi_getR C zc_9 (k := 64) (by decide) zw_168 rfl hn_v0 hk_v0 d_Md_ask_261 (fun _ _ _ => rfl) hF (fun b3 hn_b3 hk_b3 hF => ?_)
    refine zi_iload_n C d_Md_ask_264 rfl 1 rfl ?_
    refine zi_iconst (v := 1) C d_Md_ask_265 (by decide) ?_
    refine zi_isub C d_Md_ask_266 hF (fun x4 hF => ?_)
    refine zi_aload_n C d_Md_ask_267 rfl 0 rfl ?_
    refine zi_getR C zc_9 (k := 31) (by decide) zw_162 rfl hn_v0 hk_v0 d_Md_ask_268 (fun _ _ _ => rfl) hF (fun b5 hn_b5 hk_b5 hF => ?_)
    refine zi_lload C d_Md_ask_271 3 rfl ?_
    refine zi_l2i C d_Md_ask_273 hF (fun x6 hF => ?_)
    refine zi_lald C hn_b5 hk_b5 d_Md_ask_274 hF (fun x7 hF => ?_)
    refine zi_last C hn_b3 hk_b3 d_Md_ask_275 hF (fun M hF => ?_)
    refine zi_goto (tgt := 342) C d_Md_ask_276 (by decide) ?_
    refine zi_iinc (j := 2) (v0 := 1) C d_Md_ask_342 rfl (by decide) (by decide) hF (fun x8 => [(3, .int x8), (0, .ref (bs + v0)), (2, .int v2), (5, .long v5)]) (fun _ => rfl) (fun x8 hF => ?_)
    refine zi_goto (tgt := 18) C d_Md_ask_345 (by decide) ?_
    refine zz_sub [1, 2, 0] (lv' := [(0, .ref (bs + v0)), (2, .int v2), (3, .int x8)]) rfl ?_
    exact hk18 _ v0 v2 x8 hn_v0 hk_v0 hF
def F_Md_ask_249 (S : zzS)  (k18 : zzM → Nat → Int32 → Int32 → Option (Int32 × zzM)) (M : zzM) (v0 : Nat) (v2 : Int32) (v3 : Int32) (v5 : Int64) (w0 : Nat) : Option (Int32 × zzM) := F_Md_ask_250 S  k18 M v0 v2 v3 v5 (2 : Int32) w0
set_option maxHeartbeats 4000000 in
set_option maxRecDepth 100000 in
theorem g_Md_ask_249 {p : Program} {l : Launch} {e : Env} {s : State} {m : MethodId} {args : Array Value} {below : List Frame} {meth : Method} {c : Code} {D : zzD} {bs : Nat} {A : Nat → Prop} {S : zzS} {hz : Nat} {out : Int32 × zzM}  (C : zzC p s m args c prog_12_method_44_code "BoardScriptModel" 7 D) (hlocks : meth.locks = false) (hr : meth.sig.returnType = (some .boolean)) (hin : meth.name = "ask")  {k18 : zzM → Nat → Int32 → Int32 → Option (Int32 × zzM)} (hk18 : ∀ (M : zzM) (v0 : Nat) (v2 : Int32) (v3 : Int32) (hn_v0 : v0 < S.2.1) (hk_v0 : zzk S v0 = 19), k18 M v0 v2 v3 = some out → zzB p l e { frames := 1, cells := 0, slots := 0, locals := 24 } s m args below meth c 7 D bs A (MQ below (zzQc D bs A S out.2 hz (some (.int out.1))) args s 0 0 A) 0 0 S M hz 18 [(0, .ref (bs + v0)), (2, .int v2), (3, .int v3)] []) (M : zzM) (v0 : Nat) (v2 : Int32) (v3 : Int32) (v5 : Int64) (w0 : Nat) (hn_v0 : v0 < S.2.1) (hk_v0 : zzk S v0 = 19) (hn_w0 : w0 < S.2.1) (hk_w0 : zzk S w0 = 19) (hF : F_Md_ask_249 S  k18 M v0 v2 v3 v5 w0 = some out) : zzB p l e { frames := 1, cells := 0, slots := 0, locals := 24 } s m args below meth c 7 D bs A (MQ below (zzQc D bs A S out.2 hz (some (.int out.1))) args s 0 0 A) 0 0 S M hz 249 [(0, .ref (bs + v0)), (2, .int v2), (3, .int v3), (5, .long v5)] [.ref (bs + w0)] := by
  unfold F_Md_ask_249 at hF
  refine zi_iconst (v := 2) C d_Md_ask_249 (by decide) ?_
  refine zz_sub [0, 1, 2, 3] (lv' := [(0, .ref (bs + v0)), (2, .int v2), (3, .int v3), (5, .long v5)]) rfl ?_
  exact g_Md_ask_250 C hlocks hr hin  hk18 _ v0 v2 v3 v5 (2 : Int32) w0 hn_v0 hk_v0 hn_w0 hk_w0 hF
def F_Md_ask_306 (S : zzS)  (k18 : zzM → Nat → Int32 → Int32 → Option (Int32 × zzM)) (M : zzM) (v0 : Nat) (v2 : Int32) (v3 : Int32) (v4 : Int32) (v5 : Int64) (w0 : Int32) (w1 : Nat) : Option (Int32 × zzM) := zzlet (zzsI M w1 66 w0) fun M => zzlet (v2 + (-1 : Int32)) fun x1 => zzlet (zzI M v0 66) fun x2 => if x2 = 0 then (zzref S 2 (zzR M v0 64) fun b4 => zzlet (x1 - (1 : Int32)) fun x5 => zzref S 2 (zzR M v0 64) fun b6 => zzlet (x1 - (1 : Int32)) fun x7 => zzix S b6 x7 (zzlet (zzL M b6 (x7).toNatClampNeg) fun x8 => zzcall (F_Md_reckon S M v4 x8 v5) fun r9 M => zzix S b4 x5 (zzlet (zzsL M b4 (x5).toNatClampNeg r9) fun M => zzlet (v3 + (1 : Int32)) fun x10 => k18 M v0 x1 x10))) else (zzlet (v3 + (1 : Int32)) fun x3 => k18 M v0 x1 x3)
set_option maxHeartbeats 4000000 in
set_option maxRecDepth 100000 in
theorem g_Md_ask_306 {p : Program} {l : Launch} {e : Env} {s : State} {m : MethodId} {args : Array Value} {below : List Frame} {meth : Method} {c : Code} {D : zzD} {bs : Nat} {A : Nat → Prop} {S : zzS} {hz : Nat} {out : Int32 × zzM}  (C : zzC p s m args c prog_12_method_44_code "BoardScriptModel" 7 D) (hlocks : meth.locks = false) (hr : meth.sig.returnType = (some .boolean)) (hin : meth.name = "ask")  {k18 : zzM → Nat → Int32 → Int32 → Option (Int32 × zzM)} (hk18 : ∀ (M : zzM) (v0 : Nat) (v2 : Int32) (v3 : Int32) (hn_v0 : v0 < S.2.1) (hk_v0 : zzk S v0 = 19), k18 M v0 v2 v3 = some out → zzB p l e { frames := 1, cells := 0, slots := 0, locals := 24 } s m args below meth c 7 D bs A (MQ below (zzQc D bs A S out.2 hz (some (.int out.1))) args s 0 0 A) 0 0 S M hz 18 [(0, .ref (bs + v0)), (2, .int v2), (3, .int v3)] []) (M : zzM) (v0 : Nat) (v2 : Int32) (v3 : Int32) (v4 : Int32) (v5 : Int64) (w0 : Int32) (w1 : Nat) (hn_v0 : v0 < S.2.1) (hk_v0 : zzk S v0 = 19) (hn_w1 : w1 < S.2.1) (hk_w1 : zzk S w1 = 19) (hF : F_Md_ask_306 S  k18 M v0 v2 v3 v4 v5 w0 w1 = some out) : zzB p l e { frames := 1, cells := 0, slots := 0, locals := 24 } s m args below meth c 7 D bs A (MQ below (zzQc D bs A S out.2 hz (some (.int out.1))) args s 0 0 A) 0 0 S M hz 306 [(0, .ref (bs + v0)), (2, .int v2), (3, .int v3), (4, .int v4), (5, .long v5)] [.int w0, .ref (bs + w1)] := by
  unfold F_Md_ask_306 at hF
  refine zi_putI C zc_9 (k := 66) (by decide) zw_167 rfl (Or.inl rfl) hn_w1 hk_w1 d_Md_ask_306 rfl hF (fun M hF => ?_)
  refine zi_iinc (j := 1) (v0 := -1) C d_Md_ask_309 rfl (by decide) (by decide) hF (fun x1 => [(2, .int x1), (0, .ref (bs + v0)), (3, .int v3), (4, .int v4), (5, .long v5)]) (fun _ => rfl) (fun x1 hF => ?_)
  refine zi_aload_n C d_Md_ask_312 rfl 1 rfl ?_
  refine zi_getI C zc_9 (k := 66) (by decide) zw_167 rfl hn_v0 hk_v0 d_Md_ask_313 (fun _ _ _ => rfl) hF (fun x2 hF => ?_)
  refine zi_if_ne (tgt := 342) C d_Md_ask_316 (by decide) hF (fun hF => ?_) (fun hF => ?_)
  · refine zi_iinc (j := 2) (v0 := 1) C d_Md_ask_342 rfl (by decide) (by decide) hF (fun x3 => [(3, .int x3), (2, .int x1), (0, .ref (bs + v0)), (4, .int v4), (5, .long v5)]) (fun _ => rfl) (fun x3 hF => ?_)
    refine zi_goto (tgt := 18) C d_Md_ask_345 (by decide) ?_
    refine zz_sub [2, 1, 0] (lv' := [(0, .ref (bs + v0)), (2, .int x1), (3, .int x3)]) rfl ?_
    exact hk18 _ v0 x1 x3 hn_v0 hk_v0 hF
  · refine zi_aload_n C d_Md_ask_319 rfl 1 rfl ?_
    refine zi_getR C zc_9 (k := 64) (by decide) zw_168 rfl hn_v0 hk_v0 d_Md_ask_320 (fun _ _ _ => rfl) hF (fun b4 hn_b4 hk_b4 hF => ?_)
    refine zi_iload_n C d_Md_ask_323 rfl 0 rfl ?_
    refine zi_iconst (v := 1) C d_Md_ask_324 (by decide) ?_
    refine zi_isub C d_Md_ask_325 hF (fun x5 hF => ?_)
    refine zi_iload C d_Md_ask_326 3 rfl ?_
    refine zi_aload_n C d_Md_ask_328 rfl 1 rfl ?_
    refine zi_getR C zc_9 (k := 64) (by decide) zw_168 rfl hn_v0 hk_v0 d_Md_ask_329 (fun _ _ _ => rfl) hF (fun b6 hn_b6 hk_b6 hF => ?_)
    refine zi_iload_n C d_Md_ask_332 rfl 0 rfl ?_
    refine zi_iconst (v := 1) C d_Md_ask_333 (by decide) ?_
    refine zi_isub C d_Md_ask_334 hF (fun x7 hF => ?_)
    refine zi_lald C hn_b6 hk_b6 d_Md_ask_335 hF (fun x8 hF => ?_)
    refine zi_lload C d_Md_ask_336 4 rfl ?_
    obtain ⟨r9, M, hqr9, hF⟩ := zzcall_e hF
    refine zi_callS_l (M2 := M) (r := r9) (n := 3) (As := [.int v4, .long x8, .long v5]) (st := [.int x5, .ref (bs + b4)]) C (c_Md_reckon hqr9 ) zw_170 zw_18 (by decide +kernel) ⟨Nat.le_of_ble_eq_true rfl, Nat.le_of_ble_eq_true rfl⟩ rfl (Nat.le_of_ble_eq_true rfl) ⟨Nat.le_of_ble_eq_true rfl, Nat.le_of_ble_eq_true rfl⟩ zw_171 zw_172 rfl d_Md_ask_338 ?_
    refine zi_last C hn_b4 hk_b4 d_Md_ask_341 hF (fun M hF => ?_)
    refine zi_iinc (j := 2) (v0 := 1) C d_Md_ask_342 rfl (by decide) (by decide) hF (fun x10 => [(3, .int x10), (2, .int x1), (0, .ref (bs + v0)), (4, .int v4), (5, .long v5)]) (fun _ => rfl) (fun x10 hF => ?_)
    refine zi_goto (tgt := 18) C d_Md_ask_345 (by decide) ?_
    refine zz_sub [2, 1, 0] (lv' := [(0, .ref (bs + v0)), (2, .int x1), (3, .int x10)]) rfl ?_
    exact hk18 _ v0 x1 x10 hn_v0 hk_v0 hF
def F_Md_ask_301 (S : zzS)  (k18 : zzM → Nat → Int32 → Int32 → Option (Int32 × zzM)) (M : zzM) (v0 : Nat) (v2 : Int32) (v3 : Int32) (v4 : Int32) (v5 : Int64) (w0 : Nat) : Option (Int32 × zzM) := F_Md_ask_306 S  k18 M v0 v2 v3 v4 v5 (1 : Int32) w0
set_option maxHeartbeats 4000000 in
set_option maxRecDepth 100000 in
theorem g_Md_ask_301 {p : Program} {l : Launch} {e : Env} {s : State} {m : MethodId} {args : Array Value} {below : List Frame} {meth : Method} {c : Code} {D : zzD} {bs : Nat} {A : Nat → Prop} {S : zzS} {hz : Nat} {out : Int32 × zzM}  (C : zzC p s m args c prog_12_method_44_code "BoardScriptModel" 7 D) (hlocks : meth.locks = false) (hr : meth.sig.returnType = (some .boolean)) (hin : meth.name = "ask")  {k18 : zzM → Nat → Int32 → Int32 → Option (Int32 × zzM)} (hk18 : ∀ (M : zzM) (v0 : Nat) (v2 : Int32) (v3 : Int32) (hn_v0 : v0 < S.2.1) (hk_v0 : zzk S v0 = 19), k18 M v0 v2 v3 = some out → zzB p l e { frames := 1, cells := 0, slots := 0, locals := 24 } s m args below meth c 7 D bs A (MQ below (zzQc D bs A S out.2 hz (some (.int out.1))) args s 0 0 A) 0 0 S M hz 18 [(0, .ref (bs + v0)), (2, .int v2), (3, .int v3)] []) (M : zzM) (v0 : Nat) (v2 : Int32) (v3 : Int32) (v4 : Int32) (v5 : Int64) (w0 : Nat) (hn_v0 : v0 < S.2.1) (hk_v0 : zzk S v0 = 19) (hn_w0 : w0 < S.2.1) (hk_w0 : zzk S w0 = 19) (hF : F_Md_ask_301 S  k18 M v0 v2 v3 v4 v5 w0 = some out) : zzB p l e { frames := 1, cells := 0, slots := 0, locals := 24 } s m args below meth c 7 D bs A (MQ below (zzQc D bs A S out.2 hz (some (.int out.1))) args s 0 0 A) 0 0 S M hz 301 [(0, .ref (bs + v0)), (2, .int v2), (3, .int v3), (4, .int v4), (5, .long v5)] [.ref (bs + w0)] := by
  unfold F_Md_ask_301 at hF
  refine zi_iconst (v := 1) C d_Md_ask_301 (by decide) ?_
  refine zi_goto (tgt := 306) C d_Md_ask_302 (by decide) ?_
  refine zz_sub [0, 1, 2, 3, 4] (lv' := [(0, .ref (bs + v0)), (2, .int v2), (3, .int v3), (4, .int v4), (5, .long v5)]) rfl ?_
  exact g_Md_ask_306 C hlocks hr hin  hk18 _ v0 v2 v3 v4 v5 (1 : Int32) w0 hn_v0 hk_v0 hn_w0 hk_w0 hF
def F_Md_ask_305 (S : zzS)  (k18 : zzM → Nat → Int32 → Int32 → Option (Int32 × zzM)) (M : zzM) (v0 : Nat) (v2 : Int32) (v3 : Int32) (v4 : Int32) (v5 : Int64) (w0 : Nat) : Option (Int32 × zzM) := F_Md_ask_306 S  k18 M v0 v2 v3 v4 v5 (0 : Int32) w0
set_option maxHeartbeats 4000000 in
set_option maxRecDepth 100000 in
theorem g_Md_ask_305 {p : Program} {l : Launch} {e : Env} {s : State} {m : MethodId} {args : Array Value} {below : List Frame} {meth : Method} {c : Code} {D : zzD} {bs : Nat} {A : Nat → Prop} {S : zzS} {hz : Nat} {out : Int32 × zzM}  (C : zzC p s m args c prog_12_method_44_code "BoardScriptModel" 7 D) (hlocks : meth.locks = false) (hr : meth.sig.returnType = (some .boolean)) (hin : meth.name = "ask")  {k18 : zzM → Nat → Int32 → Int32 → Option (Int32 × zzM)} (hk18 : ∀ (M : zzM) (v0 : Nat) (v2 : Int32) (v3 : Int32) (hn_v0 : v0 < S.2.1) (hk_v0 : zzk S v0 = 19), k18 M v0 v2 v3 = some out → zzB p l e { frames := 1, cells := 0, slots := 0, locals := 24 } s m args below meth c 7 D bs A (MQ below (zzQc D bs A S out.2 hz (some (.int out.1))) args s 0 0 A) 0 0 S M hz 18 [(0, .ref (bs + v0)), (2, .int v2), (3, .int v3)] []) (M : zzM) (v0 : Nat) (v2 : Int32) (v3 : Int32) (v4 : Int32) (v5 : Int64) (w0 : Nat) (hn_v0 : v0 < S.2.1) (hk_v0 : zzk S v0 = 19) (hn_w0 : w0 < S.2.1) (hk_w0 : zzk S w0 = 19) (hF : F_Md_ask_305 S  k18 M v0 v2 v3 v4 v5 w0 = some out) : zzB p l e { frames := 1, cells := 0, slots := 0, locals := 24 } s m args below meth c 7 D bs A (MQ below (zzQc D bs A S out.2 hz (some (.int out.1))) args s 0 0 A) 0 0 S M hz 305 [(0, .ref (bs + v0)), (2, .int v2), (3, .int v3), (4, .int v4), (5, .long v5)] [.ref (bs + w0)] := by
  unfold F_Md_ask_305 at hF
  refine zi_iconst (v := 0) C d_Md_ask_305 (by decide) ?_
  refine zz_sub [0, 1, 2, 3, 4] (lv' := [(0, .ref (bs + v0)), (2, .int v2), (3, .int v3), (4, .int v4), (5, .long v5)]) rfl ?_
  exact g_Md_ask_306 C hlocks hr hin  hk18 _ v0 v2 v3 v4 v5 (0 : Int32) w0 hn_v0 hk_v0 hn_w0 hk_w0 hF
def F_Md_ask_58 (S : zzS)  (k18 : zzM → Nat → Int32 → Int32 → Option (Int32 × zzM)) (M : zzM) (v0 : Nat) (v2 : Int32) (v3 : Int32) (v4 : Int32) (w0 : Int64) : Option (Int32 × zzM) := if v4 = (48 : Int32) then (F_Md_ask_81 S  k18 M v0 v2 v3 v4) else (if v4 = (97 : Int32) then (F_Md_ask_81 S  k18 M v0 v2 v3 v4) else (if v4 = (35 : Int32) then (F_Md_ask_81 S  k18 M v0 v2 v3 v4) else (if v4 = (95 : Int32) then (zzref S 2 (zzR M v0 64) fun b7 => zzlet (v2 - (1 : Int32)) fun x8 => zzlet ((0 : Int64) - w0) fun x9 => zzix S b7 x8 (zzlet (zzsL M b7 (x8).toNatClampNeg x9) fun M => zzlet (v3 + (1 : Int32)) fun x10 => k18 M v0 v2 x10)) else (if v4 = (64 : Int32) then (zzcall (F_Md_isObject S M v0 w0) fun r6 M => if r6 = 0 then (F_Md_ask_180 S  k18 M v0 v2 v3 w0 (2 : Int32) v0) else (F_Md_ask_180 S  k18 M v0 v2 v3 w0 (0 : Int32) v0)) else (if v4 = (39 : Int32) then (zzlet (lg_cmp w0 (0 : Int64)) fun x2 => if x2 < 0 then (F_Md_ask_249 S  k18 M v0 v2 v3 w0 v0) else (zzlet (zzI M v0 30) fun x3 => zzlet ((x3).toInt64) fun x4 => zzlet (lg_cmp w0 x4) fun x5 => if 0 ≤ x5 then (F_Md_ask_249 S  k18 M v0 v2 v3 w0 v0) else (F_Md_ask_250 S  k18 M v0 v2 v3 w0 (0 : Int32) v0))) else (zzlet (lg_cmp w0 (0 : Int64)) fun x1 => if x1 = 0 then (if v4 = (47 : Int32) then (F_Md_ask_301 S  k18 M v0 v2 v3 v4 w0 v0) else (if v4 = (37 : Int32) then (F_Md_ask_301 S  k18 M v0 v2 v3 v4 w0 v0) else (F_Md_ask_305 S  k18 M v0 v2 v3 v4 w0 v0))) else (F_Md_ask_305 S  k18 M v0 v2 v3 v4 w0 v0)))))))
set_option maxHeartbeats 4000000 in
set_option maxRecDepth 100000 in
theorem g_Md_ask_58 {p : Program} {l : Launch} {e : Env} {s : State} {m : MethodId} {args : Array Value} {below : List Frame} {meth : Method} {c : Code} {D : zzD} {bs : Nat} {A : Nat → Prop} {S : zzS} {hz : Nat} {out : Int32 × zzM}  (C : zzC p s m args c prog_12_method_44_code "BoardScriptModel" 7 D) (hlocks : meth.locks = false) (hr : meth.sig.returnType = (some .boolean)) (hin : meth.name = "ask")  {k18 : zzM → Nat → Int32 → Int32 → Option (Int32 × zzM)} (hk18 : ∀ (M : zzM) (v0 : Nat) (v2 : Int32) (v3 : Int32) (hn_v0 : v0 < S.2.1) (hk_v0 : zzk S v0 = 19), k18 M v0 v2 v3 = some out → zzB p l e { frames := 1, cells := 0, slots := 0, locals := 24 } s m args below meth c 7 D bs A (MQ below (zzQc D bs A S out.2 hz (some (.int out.1))) args s 0 0 A) 0 0 S M hz 18 [(0, .ref (bs + v0)), (2, .int v2), (3, .int v3)] []) (M : zzM) (v0 : Nat) (v2 : Int32) (v3 : Int32) (v4 : Int32) (w0 : Int64) (hn_v0 : v0 < S.2.1) (hk_v0 : zzk S v0 = 19) (hF : F_Md_ask_58 S  k18 M v0 v2 v3 v4 w0 = some out) : zzB p l e { frames := 1, cells := 0, slots := 0, locals := 24 } s m args below meth c 7 D bs A (MQ below (zzQc D bs A S out.2 hz (some (.int out.1))) args s 0 0 A) 0 0 S M hz 58 [(0, .ref (bs + v0)), (2, .int v2), (3, .int v3), (4, .int v4)] [.long w0] := by
  unfold F_Md_ask_58 at hF
  refine zi_lstore (lv' := [(5, .long w0), (0, .ref (bs + v0)), (2, .int v2), (3, .int v3), (4, .int v4)]) C d_Md_ask_58 (by decide) rfl ?_
  refine zi_iload C d_Md_ask_60 4 rfl ?_
  refine zi_bipush (v := 48) C d_Md_ask_62 (by decide) ?_
  refine zi_icmp_eq (tgt := 81) C d_Md_ask_64 (by decide) hF (fun hF => ?_) (fun hF => ?_)
  · refine zz_sub [1, 2, 3, 4] (lv' := [(0, .ref (bs + v0)), (2, .int v2), (3, .int v3), (4, .int v4)]) rfl ?_
    exact g_Md_ask_81 C hlocks hr hin  hk18 _ v0 v2 v3 v4 hn_v0 hk_v0 hF
  · refine zi_iload C d_Md_ask_67 4 rfl ?_
    refine zi_bipush (v := 97) C d_Md_ask_69 (by decide) ?_
    refine zi_icmp_eq (tgt := 81) C d_Md_ask_71 (by decide) hF (fun hF => ?_) (fun hF => ?_)
    · refine zz_sub [1, 2, 3, 4] (lv' := [(0, .ref (bs + v0)), (2, .int v2), (3, .int v3), (4, .int v4)]) rfl ?_
      exact g_Md_ask_81 C hlocks hr hin  hk18 _ v0 v2 v3 v4 hn_v0 hk_v0 hF
    · refine zi_iload C d_Md_ask_74 4 rfl ?_
      refine zi_bipush (v := 35) C d_Md_ask_76 (by decide) ?_
      refine zi_icmp_ne (tgt := 136) C d_Md_ask_78 (by decide) hF (fun hF => ?_) (fun hF => ?_)
      · refine zi_iload C d_Md_ask_136 4 rfl ?_
        refine zi_bipush (v := 95) C d_Md_ask_138 (by decide) ?_
        refine zi_icmp_ne (tgt := 158) C d_Md_ask_140 (by decide) hF (fun hF => ?_) (fun hF => ?_)
        · refine zi_iload C d_Md_ask_158 4 rfl ?_
          refine zi_bipush (v := 64) C d_Md_ask_160 (by decide) ?_
          refine zi_icmp_ne (tgt := 219) C d_Md_ask_162 (by decide) hF (fun hF => ?_) (fun hF => ?_)
          · refine zi_iload C d_Md_ask_219 4 rfl ?_
            refine zi_bipush (v := 39) C d_Md_ask_221 (by decide) ?_
            refine zi_icmp_ne (tgt := 279) C d_Md_ask_223 (by decide) hF (fun hF => ?_) (fun hF => ?_)
            · refine zi_aload_n C d_Md_ask_279 rfl 1 rfl ?_
              refine zi_lload C d_Md_ask_280 0 rfl ?_
              refine zi_lconst (v := 0) C d_Md_ask_282 (by decide) ?_
              refine zi_lcmp C d_Md_ask_283 hF (fun x1 hF => ?_)
              refine zi_if_ne (tgt := 305) C d_Md_ask_284 (by decide) hF (fun hF => ?_) (fun hF => ?_)
              · refine zz_sub [1, 2, 3, 4, 0] (lv' := [(0, .ref (bs + v0)), (2, .int v2), (3, .int v3), (4, .int v4), (5, .long w0)]) rfl ?_
                exact g_Md_ask_305 C hlocks hr hin  hk18 _ v0 v2 v3 v4 w0 v0 hn_v0 hk_v0 hn_v0 hk_v0 hF
              · refine zi_iload C d_Md_ask_287 4 rfl ?_
                refine zi_bipush (v := 47) C d_Md_ask_289 (by decide) ?_
                refine zi_icmp_eq (tgt := 301) C d_Md_ask_291 (by decide) hF (fun hF => ?_) (fun hF => ?_)
                · refine zz_sub [1, 2, 3, 4, 0] (lv' := [(0, .ref (bs + v0)), (2, .int v2), (3, .int v3), (4, .int v4), (5, .long w0)]) rfl ?_
                  exact g_Md_ask_301 C hlocks hr hin  hk18 _ v0 v2 v3 v4 w0 v0 hn_v0 hk_v0 hn_v0 hk_v0 hF
                · refine zi_iload C d_Md_ask_294 4 rfl ?_
                  refine zi_bipush (v := 37) C d_Md_ask_296 (by decide) ?_
                  refine zi_icmp_ne (tgt := 305) C d_Md_ask_298 (by decide) hF (fun hF => ?_) (fun hF => ?_)
                  · refine zz_sub [1, 2, 3, 4, 0] (lv' := [(0, .ref (bs + v0)), (2, .int v2), (3, .int v3), (4, .int v4), (5, .long w0)]) rfl ?_
                    exact g_Md_ask_305 C hlocks hr hin  hk18 _ v0 v2 v3 v4 w0 v0 hn_v0 hk_v0 hn_v0 hk_v0 hF
                  · refine zz_sub [1, 2, 3, 4, 0] (lv' := [(0, .ref (bs + v0)), (2, .int v2), (3, .int v3), (4, .int v4), (5, .long w0)]) rfl ?_
                    exact g_Md_ask_301 C hlocks hr hin  hk18 _ v0 v2 v3 v4 w0 v0 hn_v0 hk_v0 hn_v0 hk_v0 hF
            · refine zi_aload_n C d_Md_ask_226 rfl 1 rfl ?_
              refine zi_lload C d_Md_ask_227 0 rfl ?_
              refine zi_lconst (v := 0) C d_Md_ask_229 (by decide) ?_
              refine zi_lcmp C d_Md_ask_230 hF (fun x2 hF => ?_)
              refine zi_if_lt (tgt := 249) C d_Md_ask_231 (by decide) hF (fun hF => ?_) (fun hF => ?_)
              · refine zz_sub [1, 2, 3, 0] (lv' := [(0, .ref (bs + v0)), (2, .int v2), (3, .int v3), (5, .long w0)]) rfl ?_
                exact g_Md_ask_249 C hlocks hr hin  hk18 _ v0 v2 v3 w0 v0 hn_v0 hk_v0 hn_v0 hk_v0 hF
              · refine zi_lload C d_Md_ask_234 0 rfl ?_
                refine zi_aload_n C d_Md_ask_236 rfl 1 rfl ?_
                refine zi_getI C zc_9 (k := 30) (by decide) zw_13 rfl hn_v0 hk_v0 d_Md_ask_237 (fun _ _ _ => rfl) hF (fun x3 hF => ?_)
                refine zi_i2l C d_Md_ask_240 hF (fun x4 hF => ?_)
                refine zi_lcmp C d_Md_ask_241 hF (fun x5 hF => ?_)
                refine zi_if_ge (tgt := 249) C d_Md_ask_242 (by decide) hF (fun hF => ?_) (fun hF => ?_)
                · refine zz_sub [1, 2, 3, 0] (lv' := [(0, .ref (bs + v0)), (2, .int v2), (3, .int v3), (5, .long w0)]) rfl ?_
                  exact g_Md_ask_249 C hlocks hr hin  hk18 _ v0 v2 v3 w0 v0 hn_v0 hk_v0 hn_v0 hk_v0 hF
                · refine zi_iconst (v := 0) C d_Md_ask_245 (by decide) ?_
                  refine zi_goto (tgt := 250) C d_Md_ask_246 (by decide) ?_
                  refine zz_sub [1, 2, 3, 0] (lv' := [(0, .ref (bs + v0)), (2, .int v2), (3, .int v3), (5, .long w0)]) rfl ?_
                  exact g_Md_ask_250 C hlocks hr hin  hk18 _ v0 v2 v3 w0 (0 : Int32) v0 hn_v0 hk_v0 hn_v0 hk_v0 hF
          · refine zi_aload_n C d_Md_ask_165 rfl 1 rfl ?_
            refine zi_aload_n C d_Md_ask_166 rfl 1 rfl ?_
            refine zi_lload C d_Md_ask_167 0 rfl ?_
            obtain ⟨r6, M, hqr6, hF⟩ := zzcall_e hF
            refine zi_callV_i (M2 := M) (r := r6) (n := 1) (As := [.long w0]) (st := [.ref (bs + v0)]) C (c_Md_isObject hqr6 hn_v0 hk_v0) zw_148 zw_18 (by decide +kernel) ⟨Nat.le_of_ble_eq_true rfl, Nat.le_of_ble_eq_true rfl⟩ rfl (Nat.le_of_ble_eq_true rfl) ⟨Nat.le_of_ble_eq_true rfl, Nat.le_of_ble_eq_true rfl⟩ zw_149 zw_150 zw_151 zc_9.1 hn_v0 hk_v0 rfl d_Md_ask_169 ?_
            refine zi_if_eq (tgt := 179) C d_Md_ask_172 (by decide) hF (fun hF => ?_) (fun hF => ?_)
            · refine zi_iconst (v := 2) C d_Md_ask_179 (by decide) ?_
              refine zz_sub [1, 2, 3, 0] (lv' := [(0, .ref (bs + v0)), (2, .int v2), (3, .int v3), (5, .long w0)]) rfl ?_
              exact g_Md_ask_180 C hlocks hr hin  hk18 _ v0 v2 v3 w0 (2 : Int32) v0 hn_v0 hk_v0 hn_v0 hk_v0 hF
            · refine zi_iconst (v := 0) C d_Md_ask_175 (by decide) ?_
              refine zi_goto (tgt := 180) C d_Md_ask_176 (by decide) ?_
              refine zz_sub [1, 2, 3, 0] (lv' := [(0, .ref (bs + v0)), (2, .int v2), (3, .int v3), (5, .long w0)]) rfl ?_
              exact g_Md_ask_180 C hlocks hr hin  hk18 _ v0 v2 v3 w0 (0 : Int32) v0 hn_v0 hk_v0 hn_v0 hk_v0 hF
        · refine zi_aload_n C d_Md_ask_143 rfl 1 rfl ?_
          refine zi_getR C zc_9 (k := 64) (by decide) zw_168 rfl hn_v0 hk_v0 d_Md_ask_144 (fun _ _ _ => rfl) hF (fun b7 hn_b7 hk_b7 hF => ?_)
          refine zi_iload_n C d_Md_ask_147 rfl 2 rfl ?_
          refine zi_iconst (v := 1) C d_Md_ask_148 (by decide) ?_
          refine zi_isub C d_Md_ask_149 hF (fun x8 hF => ?_)
          refine zi_lconst (v := 0) C d_Md_ask_150 (by decide) ?_
          refine zi_lload C d_Md_ask_151 0 rfl ?_
          refine zi_lsub C d_Md_ask_153 hF (fun x9 hF => ?_)
          refine zi_last C hn_b7 hk_b7 d_Md_ask_154 hF (fun M hF => ?_)
          refine zi_goto (tgt := 342) C d_Md_ask_155 (by decide) ?_
          refine zi_iinc (j := 3) (v0 := 1) C d_Md_ask_342 rfl (by decide) (by decide) hF (fun x10 => [(3, .int x10), (5, .long w0), (0, .ref (bs + v0)), (2, .int v2), (4, .int v4)]) (fun _ => rfl) (fun x10 hF => ?_)
          refine zi_goto (tgt := 18) C d_Md_ask_345 (by decide) ?_
          refine zz_sub [2, 3, 0] (lv' := [(0, .ref (bs + v0)), (2, .int v2), (3, .int x10)]) rfl ?_
          exact hk18 _ v0 v2 x10 hn_v0 hk_v0 hF
      · refine zz_sub [1, 2, 3, 4] (lv' := [(0, .ref (bs + v0)), (2, .int v2), (3, .int v3), (4, .int v4)]) rfl ?_
        exact g_Md_ask_81 C hlocks hr hin  hk18 _ v0 v2 v3 v4 hn_v0 hk_v0 hF
def F_Md_ask_18_b (S : zzS)  (k18 : zzM → Nat → Int32 → Int32 → Option (Int32 × zzM)) (M : zzM) (v0 : Nat) (v2 : Int32) (v3 : Int32) : Option (Int32 × zzM) := zzref S 1 (zzR M v0 13) fun b1 => zzix S b1 v3 (zzlet (zzI M b1 (v3).toNatClampNeg) fun x2 => if x2 = 0 then (F_Md_ask_348 S   M v0 v2) else (zzlet (zzI M v0 66) fun x3 => if x3 = 0 then (zzref S 1 (zzR M v0 13) fun b4 => zzix S b4 v3 (zzlet (zzI M b4 (v3).toNatClampNeg) fun x5 => if v2 ≤ 0 then (F_Md_ask_58 S  k18 M v0 v2 v3 x5 (0 : Int64)) else (zzref S 2 (zzR M v0 64) fun b6 => zzlet (v2 - (1 : Int32)) fun x7 => zzix S b6 x7 (zzlet (zzL M b6 (x7).toNatClampNeg) fun x8 => F_Md_ask_58 S  k18 M v0 v2 v3 x5 x8)))) else (F_Md_ask_348 S   M v0 v2)))
def F_Md_ask_18 (S : zzS)   (n : Nat) : zzM → Nat → Int32 → Int32 → Option (Int32 × zzM) := Nat.rec (fun _ _ _ _ => none) (fun _ k => F_Md_ask_18_b S   k) n
set_option maxHeartbeats 4000000 in
set_option maxRecDepth 100000 in
theorem g_Md_ask_18_b {p : Program} {l : Launch} {e : Env} {s : State} {m : MethodId} {args : Array Value} {below : List Frame} {meth : Method} {c : Code} {D : zzD} {bs : Nat} {A : Nat → Prop} {S : zzS} {hz : Nat} {out : Int32 × zzM}  (C : zzC p s m args c prog_12_method_44_code "BoardScriptModel" 7 D) (hlocks : meth.locks = false) (hr : meth.sig.returnType = (some .boolean)) (hin : meth.name = "ask")  {k18 : zzM → Nat → Int32 → Int32 → Option (Int32 × zzM)} (hk18 : ∀ (M : zzM) (v0 : Nat) (v2 : Int32) (v3 : Int32) (hn_v0 : v0 < S.2.1) (hk_v0 : zzk S v0 = 19), k18 M v0 v2 v3 = some out → zzB p l e { frames := 1, cells := 0, slots := 0, locals := 24 } s m args below meth c 7 D bs A (MQ below (zzQc D bs A S out.2 hz (some (.int out.1))) args s 0 0 A) 0 0 S M hz 18 [(0, .ref (bs + v0)), (2, .int v2), (3, .int v3)] []) (M : zzM) (v0 : Nat) (v2 : Int32) (v3 : Int32) (hn_v0 : v0 < S.2.1) (hk_v0 : zzk S v0 = 19) (hF : F_Md_ask_18_b S  k18 M v0 v2 v3 = some out) : zzB p l e { frames := 1, cells := 0, slots := 0, locals := 24 } s m args below meth c 7 D bs A (MQ below (zzQc D bs A S out.2 hz (some (.int out.1))) args s 0 0 A) 0 0 S M hz 18 [(0, .ref (bs + v0)), (2, .int v2), (3, .int v3)] [] := by
  unfold F_Md_ask_18_b at hF
  refine zi_aload_n C d_Md_ask_18 rfl 0 rfl ?_
  refine zi_getR C zc_9 (k := 13) (by decide) zw_35 rfl hn_v0 hk_v0 d_Md_ask_19 (fun _ _ _ => rfl) hF (fun b1 hn_b1 hk_b1 hF => ?_)
  refine zi_iload_n C d_Md_ask_22 rfl 2 rfl ?_
  refine zi_iald C hn_b1 hk_b1 d_Md_ask_23 hF (fun x2 hF => ?_)
  refine zi_if_eq (tgt := 348) C d_Md_ask_24 (by decide) hF (fun hF => ?_) (fun hF => ?_)
  · refine zz_sub [0, 1] (lv' := [(0, .ref (bs + v0)), (2, .int v2)]) rfl ?_
    exact g_Md_ask_348 C hlocks hr hin   _ v0 v2 hn_v0 hk_v0 hF
  · refine zi_aload_n C d_Md_ask_27 rfl 0 rfl ?_
    refine zi_getI C zc_9 (k := 66) (by decide) zw_167 rfl hn_v0 hk_v0 d_Md_ask_28 (fun _ _ _ => rfl) hF (fun x3 hF => ?_)
    refine zi_if_ne (tgt := 348) C d_Md_ask_31 (by decide) hF (fun hF => ?_) (fun hF => ?_)
    · refine zz_sub [0, 1] (lv' := [(0, .ref (bs + v0)), (2, .int v2)]) rfl ?_
      exact g_Md_ask_348 C hlocks hr hin   _ v0 v2 hn_v0 hk_v0 hF
    · refine zi_aload_n C d_Md_ask_34 rfl 0 rfl ?_
      refine zi_getR C zc_9 (k := 13) (by decide) zw_35 rfl hn_v0 hk_v0 d_Md_ask_35 (fun _ _ _ => rfl) hF (fun b4 hn_b4 hk_b4 hF => ?_)
      refine zi_iload_n C d_Md_ask_38 rfl 2 rfl ?_
      refine zi_iald C hn_b4 hk_b4 d_Md_ask_39 hF (fun x5 hF => ?_)
      refine zi_istore (lv' := [(4, .int x5), (0, .ref (bs + v0)), (2, .int v2), (3, .int v3)]) C d_Md_ask_40 (by decide) rfl ?_
      refine zi_iload_n C d_Md_ask_42 rfl 2 rfl ?_
      refine zi_if_le (tgt := 57) C d_Md_ask_43 (by decide) hF (fun hF => ?_) (fun hF => ?_)
      · refine zi_lconst (v := 0) C d_Md_ask_57 (by decide) ?_
        refine zz_sub [1, 2, 3, 0] (lv' := [(0, .ref (bs + v0)), (2, .int v2), (3, .int v3), (4, .int x5)]) rfl ?_
        exact g_Md_ask_58 C hlocks hr hin  hk18 _ v0 v2 v3 x5 (0 : Int64) hn_v0 hk_v0 hF
      · refine zi_aload_n C d_Md_ask_46 rfl 1 rfl ?_
        refine zi_getR C zc_9 (k := 64) (by decide) zw_168 rfl hn_v0 hk_v0 d_Md_ask_47 (fun _ _ _ => rfl) hF (fun b6 hn_b6 hk_b6 hF => ?_)
        refine zi_iload_n C d_Md_ask_50 rfl 2 rfl ?_
        refine zi_iconst (v := 1) C d_Md_ask_51 (by decide) ?_
        refine zi_isub C d_Md_ask_52 hF (fun x7 hF => ?_)
        refine zi_lald C hn_b6 hk_b6 d_Md_ask_53 hF (fun x8 hF => ?_)
        refine zi_goto (tgt := 58) C d_Md_ask_54 (by decide) ?_
        refine zz_sub [1, 2, 3, 0] (lv' := [(0, .ref (bs + v0)), (2, .int v2), (3, .int v3), (4, .int x5)]) rfl ?_
        exact g_Md_ask_58 C hlocks hr hin  hk18 _ v0 v2 v3 x5 x8 hn_v0 hk_v0 hF
set_option maxHeartbeats 4000000 in
set_option maxRecDepth 100000 in
theorem g_Md_ask_18 {p : Program} {l : Launch} {e : Env} {s : State} {m : MethodId} {args : Array Value} {below : List Frame} {meth : Method} {c : Code} {D : zzD} {bs : Nat} {A : Nat → Prop} {S : zzS} {hz : Nat} {out : Int32 × zzM}  (C : zzC p s m args c prog_12_method_44_code "BoardScriptModel" 7 D) (hlocks : meth.locks = false) (hr : meth.sig.returnType = (some .boolean)) (hin : meth.name = "ask")    : ∀ (n : Nat) (M : zzM) (v0 : Nat) (v2 : Int32) (v3 : Int32) (hn_v0 : v0 < S.2.1) (hk_v0 : zzk S v0 = 19) (hF : F_Md_ask_18 S   n M v0 v2 v3 = some out), zzB p l e { frames := 1, cells := 0, slots := 0, locals := 24 } s m args below meth c 7 D bs A (MQ below (zzQc D bs A S out.2 hz (some (.int out.1))) args s 0 0 A) 0 0 S M hz 18 [(0, .ref (bs + v0)), (2, .int v2), (3, .int v3)] [] := by
  intro n
  induction n with
  | zero => intro M v0 v2 v3 hn_v0 hk_v0 hF; cases hF
  | succ n ih => intro M v0 v2 v3 hn_v0 hk_v0 hF; exact g_Md_ask_18_b C hlocks hr hin   ih M v0 v2 v3 hn_v0 hk_v0 hF
def F_Md_ask (S : zzS)  (M : zzM) (v0 : Nat) (v1 : Int32) : Option (Int32 × zzM) := zzlet (zzsI M v0 66 (0 : Int32)) fun M => zzlet (zzI M v0 3) fun x1 => zzlet ((1000 : Int32) * x1) fun x2 => zzlet (x2 + v1) fun x3 => F_Md_ask_18 S   2000 M v0 (0 : Int32) x3
set_option maxHeartbeats 4000000 in
set_option maxRecDepth 100000 in
theorem c_Md_ask {l : Launch} {D : zzD} {bs : Nat} {A : Nat → Prop} {S : zzS} {M : zzM} {hz : Nat} {out : Int32 × zzM} {v0 : Nat} {v1 : Int32}   (hF : F_Md_ask S  M v0 v1 = some out) (hn_v0 : v0 < S.2.1) (hk_v0 : zzk S v0 = 19) : Met l y_Md_ask (Cond.code y_Md_ask prog_12_method_44_code 7 (some .boolean) :: zzW) { frames := 1, cells := 0, slots := 0, locals := 24 } (zzPc D bs A S M hz [.ref (bs + v0), .int v1]) (zzQc D bs A S out.2 hz (some (.int out.1))) 0 0 A := by
  refine zz_met [.ref (bs + v0), .int v1] (by decide) (Nat.le_of_ble_eq_true rfl) (fun p e s m args below meth c C hr hlocks hin hsz => ?_)
  refine zz_eq (lv' := [(0, .ref (bs + v0)), (1, .int v1)]) (st' := []) rfl rfl ?_
  unfold F_Md_ask at hF
  refine zi_iconst (v := 0) C d_Md_ask_0 (by decide) ?_
  refine zi_istore_n (lv' := [(2, .int (0 : Int32)), (0, .ref (bs + v0)), (1, .int v1)]) C d_Md_ask_1 rfl (by decide) rfl ?_
  refine zi_aload_n C d_Md_ask_2 rfl 1 rfl ?_
  refine zi_iconst (v := 0) C d_Md_ask_3 (by decide) ?_
  refine zi_putI C zc_9 (k := 66) (by decide) zw_167 rfl (Or.inl rfl) hn_v0 hk_v0 d_Md_ask_4 rfl hF (fun M hF => ?_)
  refine zi_sipush (v := 1000) C d_Md_ask_7 (by decide) ?_
  refine zi_aload_n C d_Md_ask_10 rfl 1 rfl ?_
  refine zi_getI C zc_9 (k := 3) (by decide) zw_16 rfl hn_v0 hk_v0 d_Md_ask_11 (fun _ _ _ => rfl) hF (fun x1 hF => ?_)
  refine zi_imul C d_Md_ask_14 hF (fun x2 hF => ?_)
  refine zi_iload_n C d_Md_ask_15 rfl 2 rfl ?_
  refine zi_iadd C d_Md_ask_16 hF (fun x3 hF => ?_)
  refine zi_istore_n (lv' := [(3, .int x3), (2, .int (0 : Int32)), (0, .ref (bs + v0)), (1, .int v1)]) C d_Md_ask_17 rfl (by decide) rfl ?_
  refine zz_sub [2, 1, 0] (lv' := [(0, .ref (bs + v0)), (2, .int (0 : Int32)), (3, .int x3)]) rfl ?_
  exact g_Md_ask_18 C hlocks hr hin   _ _ v0 (0 : Int32) x3 hn_v0 hk_v0 hF
