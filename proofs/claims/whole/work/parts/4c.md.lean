def F_Md_readFunction (S : zzS)  (M : zzM) (v0 : Nat) (v1 : Int32) : Option (Unit × zzM) := zzlet (zzI M v0 16) fun x1 => zzlet (x1 + (1 : Int32)) fun x2 => zzlet (zzsI M v0 16 x2) fun M => zzcall (F_Md_peek S M v0) fun r3 M => zzlet (r3 - (65 : Int32)) fun x4 => zzcall (F_Md_peek S M v0) fun r5 M => zzcall (F_Md_isFunction S M r5) fun r6 M => if r6 = 0 then (zzlet (zzI M v0 16) fun x22 => zzlet (zzsI M v0 17 x22) fun M => some ((), M)) else (zzlet (zzI M v0 21) fun x7 => if 0 < x7 then (zzlet (zzsI M v0 17 v1) fun M => some ((), M)) else (zzref S 1 (zzR M v0 12) fun b8 => zzlet (zzI M v0 15) fun x9 => zzlet ((26 : Int32) * x9) fun x10 => zzlet (x10 + x4) fun x11 => zzix S b8 x11 (zzlet (zzI M b8 (x11).toNatClampNeg) fun x12 => if x12 = (-1 : Int32) then (zzlet (zzI M v0 16) fun x13 => zzlet (x13 + (1 : Int32)) fun x14 => zzlet (zzsI M v0 16 x14) fun M => zzcall (F_Md_order S M v0 (17 : Int32) v1) fun r15 M => zzref S 1 (zzR M v0 12) fun b16 => zzlet (zzI M v0 15) fun x17 => zzlet ((26 : Int32) * x17) fun x18 => zzlet (x18 + x4) fun x19 => zzlet (zzI M v0 18) fun x20 => zzix S b16 x19 (zzlet (zzsI M b16 (x19).toNatClampNeg x20) fun M => zzcall (F_Md_open S M v0 (7 : Int32) (123 : Int32) r15) fun r21 M => some ((), M))) else (zzlet (zzsI M v0 17 v1) fun M => some ((), M)))))
set_option maxHeartbeats 4000000 in
set_option maxRecDepth 100000 in
theorem c_Md_readFunction {l : Launch} {D : zzD} {bs : Nat} {A : Nat → Prop} {S : zzS} {M : zzM} {hz : Nat} {out : Unit × zzM} {v0 : Nat} {v1 : Int32}   (hF : F_Md_readFunction S  M v0 v1 = some out) (hn_v0 : v0 < S.2.1) (hk_v0 : zzk S v0 = 19) : Met l y_Md_readFunction (Cond.code y_Md_readFunction prog_12_method_26_code 4 none :: zzW) { frames := 2, cells := 0, slots := 0, locals := 43 } (zzPc D bs A S M hz [.ref (bs + v0), .int v1]) (zzQc D bs A S out.2 hz none) 0 0 A := by
  refine zz_met [.ref (bs + v0), .int v1] (by decide) (Nat.le_of_ble_eq_true rfl) (fun p e s m args below meth c C hr hlocks hin hsz => ?_)
  refine zz_eq (lv' := [(0, .ref (bs + v0)), (1, .int v1)]) (st' := []) rfl rfl ?_
  unfold F_Md_readFunction at hF
  refine zi_aload_n C d_Md_readFunction_0 rfl 0 rfl ?_
  refine zi_dup C d_Md_readFunction_1 rfl ?_
  refine zi_getI C zc_9 (k := 16) (by decide) zw_29 rfl hn_v0 hk_v0 d_Md_readFunction_2 (fun _ _ _ => rfl) hF (fun x1 hF => ?_)
  refine zi_iconst (v := 1) C d_Md_readFunction_5 (by decide) ?_
  refine zi_iadd C d_Md_readFunction_6 hF (fun x2 hF => ?_)
  refine zi_putI C zc_9 (k := 16) (by decide) zw_29 rfl (Or.inl rfl) hn_v0 hk_v0 d_Md_readFunction_7 rfl hF (fun M hF => ?_)
  refine zi_aload_n C d_Md_readFunction_10 rfl 0 rfl ?_
  obtain ⟨r3, M, hqr3, hF⟩ := zzcall_e hF
  refine zi_callV_i (M2 := M) (r := r3) (n := 0) (As := []) (st := []) C (c_Md_peek hqr3 hn_v0 hk_v0) zw_31 zw_18 (by decide +kernel) ⟨Nat.le_of_ble_eq_true rfl, Nat.le_of_ble_eq_true rfl⟩ rfl (Nat.le_of_ble_eq_true rfl) ⟨Nat.le_of_ble_eq_true rfl, Nat.le_of_ble_eq_true rfl⟩ zw_32 zw_33 zw_34 zc_9.1 hn_v0 hk_v0 rfl d_Md_readFunction_11 ?_
  refine zi_bipush (v := 65) C d_Md_readFunction_14 (by decide) ?_
  refine zi_isub C d_Md_readFunction_16 hF (fun x4 hF => ?_)
  refine zi_istore_n (lv' := [(2, .int x4), (0, .ref (bs + v0)), (1, .int v1)]) C d_Md_readFunction_17 rfl (by decide) rfl ?_
  refine zi_aload_n C d_Md_readFunction_18 rfl 1 rfl ?_
  obtain ⟨r5, M, hqr5, hF⟩ := zzcall_e hF
  refine zi_callV_i (M2 := M) (r := r5) (n := 0) (As := []) (st := []) C (c_Md_peek hqr5 hn_v0 hk_v0) zw_31 zw_18 (by decide +kernel) ⟨Nat.le_of_ble_eq_true rfl, Nat.le_of_ble_eq_true rfl⟩ rfl (Nat.le_of_ble_eq_true rfl) ⟨Nat.le_of_ble_eq_true rfl, Nat.le_of_ble_eq_true rfl⟩ zw_32 zw_33 zw_34 zc_9.1 hn_v0 hk_v0 rfl d_Md_readFunction_19 ?_
  obtain ⟨r6, M, hqr6, hF⟩ := zzcall_e hF
  refine zi_callS_i (M2 := M) (r := r6) (n := 1) (As := [.int r5]) (st := []) C (c_Md_isFunction hqr6 ) zw_107 zw_18 (by decide +kernel) ⟨Nat.le_of_ble_eq_true rfl, Nat.le_of_ble_eq_true rfl⟩ rfl (Nat.le_of_ble_eq_true rfl) ⟨Nat.le_of_ble_eq_true rfl, Nat.le_of_ble_eq_true rfl⟩ zw_108 zw_109 rfl d_Md_readFunction_22 ?_
  refine zi_if_ne (tgt := 37) C d_Md_readFunction_25 (by decide) hF (fun hF => ?_) (fun hF => ?_)
  · refine zi_aload_n C d_Md_readFunction_37 rfl 1 rfl ?_
    refine zi_getI C zc_9 (k := 21) (by decide) zw_92 rfl hn_v0 hk_v0 d_Md_readFunction_38 (fun _ _ _ => rfl) hF (fun x7 hF => ?_)
    refine zi_if_gt (tgt := 62) C d_Md_readFunction_41 (by decide) hF (fun hF => ?_) (fun hF => ?_)
    · refine zi_aload_n C d_Md_readFunction_62 rfl 1 rfl ?_
      refine zi_iload_n C d_Md_readFunction_63 rfl 2 rfl ?_
      refine zi_putI C zc_9 (k := 17) (by decide) zw_30 rfl (Or.inl rfl) hn_v0 hk_v0 d_Md_readFunction_64 rfl hF (fun M hF => ?_)
      exact zi_vret C hlocks hr d_Md_readFunction_67 rfl rfl (by cases hF; rfl) rfl
    · refine zi_aload_n C d_Md_readFunction_44 rfl 1 rfl ?_
      refine zi_getR C zc_9 (k := 12) (by decide) zw_110 rfl hn_v0 hk_v0 d_Md_readFunction_45 (fun _ _ _ => rfl) hF (fun b8 hn_b8 hk_b8 hF => ?_)
      refine zi_bipush (v := 26) C d_Md_readFunction_48 (by decide) ?_
      refine zi_aload_n C d_Md_readFunction_50 rfl 1 rfl ?_
      refine zi_getI C zc_9 (k := 15) (by decide) zw_36 rfl hn_v0 hk_v0 d_Md_readFunction_51 (fun _ _ _ => rfl) hF (fun x9 hF => ?_)
      refine zi_imul C d_Md_readFunction_54 hF (fun x10 hF => ?_)
      refine zi_iload_n C d_Md_readFunction_55 rfl 0 rfl ?_
      refine zi_iadd C d_Md_readFunction_56 hF (fun x11 hF => ?_)
      refine zi_iald C hn_b8 hk_b8 d_Md_readFunction_57 hF (fun x12 hF => ?_)
      refine zi_iconst (v := -1) C d_Md_readFunction_58 (by decide) ?_
      refine zi_icmp_eq (tgt := 68) C d_Md_readFunction_59 (by decide) hF (fun hF => ?_) (fun hF => ?_)
      · refine zi_aload_n C d_Md_readFunction_68 rfl 1 rfl ?_
        refine zi_dup C d_Md_readFunction_69 rfl ?_
        refine zi_getI C zc_9 (k := 16) (by decide) zw_29 rfl hn_v0 hk_v0 d_Md_readFunction_70 (fun _ _ _ => rfl) hF (fun x13 hF => ?_)
        refine zi_iconst (v := 1) C d_Md_readFunction_73 (by decide) ?_
        refine zi_iadd C d_Md_readFunction_74 hF (fun x14 hF => ?_)
        refine zi_putI C zc_9 (k := 16) (by decide) zw_29 rfl (Or.inl rfl) hn_v0 hk_v0 d_Md_readFunction_75 rfl hF (fun M hF => ?_)
        refine zi_aload_n C d_Md_readFunction_78 rfl 1 rfl ?_
        refine zi_bipush (v := 17) C d_Md_readFunction_79 (by decide) ?_
        refine zi_iload_n C d_Md_readFunction_81 rfl 2 rfl ?_
        obtain ⟨r15, M, hqr15, hF⟩ := zzcall_e hF
        refine zi_callV_i (M2 := M) (r := r15) (n := 2) (As := [.int (17 : Int32), .int v1]) (st := []) C (c_Md_order hqr15 hn_v0 hk_v0) zw_95 zw_18 (by decide +kernel) ⟨Nat.le_of_ble_eq_true rfl, Nat.le_of_ble_eq_true rfl⟩ rfl (Nat.le_of_ble_eq_true rfl) ⟨Nat.le_of_ble_eq_true rfl, Nat.le_of_ble_eq_true rfl⟩ zw_96 zw_97 zw_98 zc_9.1 hn_v0 hk_v0 rfl d_Md_readFunction_82 ?_
        refine zi_istore_n (lv' := [(3, .int r15), (2, .int x4), (0, .ref (bs + v0)), (1, .int v1)]) C d_Md_readFunction_85 rfl (by decide) rfl ?_
        refine zi_aload_n C d_Md_readFunction_86 rfl 2 rfl ?_
        refine zi_getR C zc_9 (k := 12) (by decide) zw_110 rfl hn_v0 hk_v0 d_Md_readFunction_87 (fun _ _ _ => rfl) hF (fun b16 hn_b16 hk_b16 hF => ?_)
        refine zi_bipush (v := 26) C d_Md_readFunction_90 (by decide) ?_
        refine zi_aload_n C d_Md_readFunction_92 rfl 2 rfl ?_
        refine zi_getI C zc_9 (k := 15) (by decide) zw_36 rfl hn_v0 hk_v0 d_Md_readFunction_93 (fun _ _ _ => rfl) hF (fun x17 hF => ?_)
        refine zi_imul C d_Md_readFunction_96 hF (fun x18 hF => ?_)
        refine zi_iload_n C d_Md_readFunction_97 rfl 1 rfl ?_
        refine zi_iadd C d_Md_readFunction_98 hF (fun x19 hF => ?_)
        refine zi_aload_n C d_Md_readFunction_99 rfl 2 rfl ?_
        refine zi_getI C zc_9 (k := 18) (by decide) zw_86 rfl hn_v0 hk_v0 d_Md_readFunction_100 (fun _ _ _ => rfl) hF (fun x20 hF => ?_)
        refine zi_iast C hn_b16 hk_b16 d_Md_readFunction_103 hF (fun M hF => ?_)
        refine zi_aload_n C d_Md_readFunction_104 rfl 2 rfl ?_
        refine zi_bipush (v := 7) C d_Md_readFunction_105 (by decide) ?_
        refine zi_bipush (v := 123) C d_Md_readFunction_107 (by decide) ?_
        refine zi_iload_n C d_Md_readFunction_109 rfl 0 rfl ?_
        obtain ⟨r21, M, hqr21, hF⟩ := zzcall_e hF
        refine zi_callV_v (M2 := M) (n := 3) (As := [.int (7 : Int32), .int (123 : Int32), .int r15]) (st := []) C (c_Md_open hqr21 hn_v0 hk_v0) zw_103 zw_18 (by decide +kernel) ⟨Nat.le_of_ble_eq_true rfl, Nat.le_of_ble_eq_true rfl⟩ rfl (Nat.le_of_ble_eq_true rfl) ⟨Nat.le_of_ble_eq_true rfl, Nat.le_of_ble_eq_true rfl⟩ zw_104 zw_105 zw_106 zc_9.1 hn_v0 hk_v0 rfl d_Md_readFunction_110 ?_
        exact zi_vret C hlocks hr d_Md_readFunction_113 rfl rfl (by cases hF; rfl) rfl
      · refine zi_aload_n C d_Md_readFunction_62 rfl 1 rfl ?_
        refine zi_iload_n C d_Md_readFunction_63 rfl 2 rfl ?_
        refine zi_putI C zc_9 (k := 17) (by decide) zw_30 rfl (Or.inl rfl) hn_v0 hk_v0 d_Md_readFunction_64 rfl hF (fun M hF => ?_)
        exact zi_vret C hlocks hr d_Md_readFunction_67 rfl rfl (by cases hF; rfl) rfl
  · refine zi_aload_n C d_Md_readFunction_28 rfl 1 rfl ?_
    refine zi_aload_n C d_Md_readFunction_29 rfl 1 rfl ?_
    refine zi_getI C zc_9 (k := 16) (by decide) zw_29 rfl hn_v0 hk_v0 d_Md_readFunction_30 (fun _ _ _ => rfl) hF (fun x22 hF => ?_)
    refine zi_putI C zc_9 (k := 17) (by decide) zw_30 rfl (Or.inl rfl) hn_v0 hk_v0 d_Md_readFunction_33 rfl hF (fun M hF => ?_)
    exact zi_vret C hlocks hr d_Md_readFunction_36 rfl rfl (by cases hF; rfl) rfl
def F_Md_readSimple (S : zzS)  (M : zzM) (v0 : Nat) (v1 : Int32) (v2 : Int32) : Option (Int32 × zzM) := zzlet (zzI M v0 16) fun x1 => zzlet (x1 + (1 : Int32)) fun x2 => zzlet (zzsI M v0 16 x2) fun M => zzcall (F_Md_order S M v0 v1 v2) fun r3 M => zzref S 1 (zzR M v0 10) fun b4 => zzlet (zzI M v0 15) fun x5 => zzlet ((600 : Int32) * x5) fun x6 => zzlet (x6 + r3) fun x7 => zzcall (F_Md_readCodes S M v0 (1 : Int32)) fun r8 M => zzix S b4 x7 (zzlet (zzsI M b4 (x7).toNatClampNeg r8) fun M => zzcall (F_Md_expect S M v0 (59 : Int32)) fun r9 M => some (r3, M))
set_option maxHeartbeats 4000000 in
set_option maxRecDepth 100000 in
theorem c_Md_readSimple {l : Launch} {D : zzD} {bs : Nat} {A : Nat → Prop} {S : zzS} {M : zzM} {hz : Nat} {out : Int32 × zzM} {v0 : Nat} {v1 : Int32} {v2 : Int32}   (hF : F_Md_readSimple S  M v0 v1 v2 = some out) (hn_v0 : v0 < S.2.1) (hk_v0 : zzk S v0 = 19) : Met l y_Md_readSimple (Cond.code y_Md_readSimple prog_12_method_27_code 4 (some .int) :: zzW) { frames := 5, cells := 0, slots := 0, locals := 111 } (zzPc D bs A S M hz [.ref (bs + v0), .int v1, .int v2]) (zzQc D bs A S out.2 hz (some (.int out.1))) 0 0 A := by
  refine zz_met [.ref (bs + v0), .int v1, .int v2] (by decide) (Nat.le_of_ble_eq_true rfl) (fun p e s m args below meth c C hr hlocks hin hsz => ?_)
  refine zz_eq (lv' := [(0, .ref (bs + v0)), (1, .int v1), (2, .int v2)]) (st' := []) rfl rfl ?_
  unfold F_Md_readSimple at hF
  refine zi_aload_n C d_Md_readSimple_0 rfl 0 rfl ?_
  refine zi_dup C d_Md_readSimple_1 rfl ?_
  refine zi_getI C zc_9 (k := 16) (by decide) zw_29 rfl hn_v0 hk_v0 d_Md_readSimple_2 (fun _ _ _ => rfl) hF (fun x1 hF => ?_)
  refine zi_iconst (v := 1) C d_Md_readSimple_5 (by decide) ?_
  refine zi_iadd C d_Md_readSimple_6 hF (fun x2 hF => ?_)
  refine zi_putI C zc_9 (k := 16) (by decide) zw_29 rfl (Or.inl rfl) hn_v0 hk_v0 d_Md_readSimple_7 rfl hF (fun M hF => ?_)
  refine zi_aload_n C d_Md_readSimple_10 rfl 0 rfl ?_
  refine zi_iload_n C d_Md_readSimple_11 rfl 1 rfl ?_
  refine zi_iload_n C d_Md_readSimple_12 rfl 2 rfl ?_
  obtain ⟨r3, M, hqr3, hF⟩ := zzcall_e hF
  refine zi_callV_i (M2 := M) (r := r3) (n := 2) (As := [.int v1, .int v2]) (st := []) C (c_Md_order hqr3 hn_v0 hk_v0) zw_95 zw_18 (by decide +kernel) ⟨Nat.le_of_ble_eq_true rfl, Nat.le_of_ble_eq_true rfl⟩ rfl (Nat.le_of_ble_eq_true rfl) ⟨Nat.le_of_ble_eq_true rfl, Nat.le_of_ble_eq_true rfl⟩ zw_96 zw_97 zw_98 zc_9.1 hn_v0 hk_v0 rfl d_Md_readSimple_13 ?_
  refine zi_istore_n (lv' := [(3, .int r3), (0, .ref (bs + v0)), (1, .int v1), (2, .int v2)]) C d_Md_readSimple_16 rfl (by decide) rfl ?_
  refine zi_aload_n C d_Md_readSimple_17 rfl 1 rfl ?_
  refine zi_getR C zc_9 (k := 10) (by decide) zw_90 rfl hn_v0 hk_v0 d_Md_readSimple_18 (fun _ _ _ => rfl) hF (fun b4 hn_b4 hk_b4 hF => ?_)
  refine zi_sipush (v := 600) C d_Md_readSimple_21 (by decide) ?_
  refine zi_aload_n C d_Md_readSimple_24 rfl 1 rfl ?_
  refine zi_getI C zc_9 (k := 15) (by decide) zw_36 rfl hn_v0 hk_v0 d_Md_readSimple_25 (fun _ _ _ => rfl) hF (fun x5 hF => ?_)
  refine zi_imul C d_Md_readSimple_28 hF (fun x6 hF => ?_)
  refine zi_iload_n C d_Md_readSimple_29 rfl 0 rfl ?_
  refine zi_iadd C d_Md_readSimple_30 hF (fun x7 hF => ?_)
  refine zi_aload_n C d_Md_readSimple_31 rfl 1 rfl ?_
  refine zi_iconst (v := 1) C d_Md_readSimple_32 (by decide) ?_
  obtain ⟨r8, M, hqr8, hF⟩ := zzcall_e hF
  refine zi_callV_i (M2 := M) (r := r8) (n := 1) (As := [.int (1 : Int32)]) (st := [.int x7, .ref (bs + b4)]) C (c_Md_readCodes hqr8 hn_v0 hk_v0) zw_111 zw_18 (by decide +kernel) ⟨Nat.le_of_ble_eq_true rfl, Nat.le_of_ble_eq_true rfl⟩ rfl (Nat.le_of_ble_eq_true rfl) ⟨Nat.le_of_ble_eq_true rfl, Nat.le_of_ble_eq_true rfl⟩ zw_112 zw_113 zw_114 zc_9.1 hn_v0 hk_v0 rfl d_Md_readSimple_33 ?_
  refine zi_iast C hn_b4 hk_b4 d_Md_readSimple_36 hF (fun M hF => ?_)
  refine zi_aload_n C d_Md_readSimple_37 rfl 1 rfl ?_
  refine zi_bipush (v := 59) C d_Md_readSimple_38 (by decide) ?_
  obtain ⟨r9, M, hqr9, hF⟩ := zzcall_e hF
  refine zi_callV_v (M2 := M) (n := 1) (As := [.int (59 : Int32)]) (st := []) C (c_Md_expect hqr9 hn_v0 hk_v0) zw_49 zw_18 (by decide +kernel) ⟨Nat.le_of_ble_eq_true rfl, Nat.le_of_ble_eq_true rfl⟩ rfl (Nat.le_of_ble_eq_true rfl) ⟨Nat.le_of_ble_eq_true rfl, Nat.le_of_ble_eq_true rfl⟩ zw_50 zw_51 zw_52 zc_9.1 hn_v0 hk_v0 rfl d_Md_readSimple_40 ?_
  refine zi_iload_n C d_Md_readSimple_43 rfl 0 rfl ?_
  exact zi_iret C hlocks hr d_Md_readSimple_44 (by cases hF; rfl) rfl (by cases hF; rfl) rfl
def F_Md_readSet_154 (S : zzS)   (M : zzM) (v0 : Nat) (v4 : Int32) : Option (Unit × zzM) := zzcall (F_Md_expect S M v0 (61 : Int32)) fun r1 M => zzlet (zzI M v0 17) fun x2 => if x2 = (-1 : Int32) then (zzref S 1 (zzR M v0 10) fun b3 => zzcall (F_Md_readCodes S M v0 (1 : Int32)) fun r4 M => zzix S b3 v4 (zzlet (zzsI M b3 (v4).toNatClampNeg r4) fun M => zzcall (F_Md_expect S M v0 (59 : Int32)) fun r5 M => some ((), M))) else (some ((), M))
set_option maxHeartbeats 4000000 in
set_option maxRecDepth 100000 in
theorem g_Md_readSet_154 {p : Program} {l : Launch} {e : Env} {s : State} {m : MethodId} {args : Array Value} {below : List Frame} {meth : Method} {c : Code} {D : zzD} {bs : Nat} {A : Nat → Prop} {S : zzS} {hz : Nat} {out : Unit × zzM}  (C : zzC p s m args c prog_12_method_28_code "BoardScriptModel" 6 D) (hlocks : meth.locks = false) (hr : meth.sig.returnType = none) (hin : meth.name = "readSet")    (M : zzM) (v0 : Nat) (v4 : Int32) (hn_v0 : v0 < S.2.1) (hk_v0 : zzk S v0 = 19) (hF : F_Md_readSet_154 S   M v0 v4 = some out) : zzB p l e { frames := 5, cells := 0, slots := 0, locals := 111 } s m args below meth c 6 D bs A (MQ below (zzQc D bs A S out.2 hz none) args s 0 0 A) 0 0 S M hz 154 [(0, .ref (bs + v0)), (4, .int v4)] [] := by
  unfold F_Md_readSet_154 at hF
  refine zi_aload_n C d_Md_readSet_154 rfl 0 rfl ?_
  refine zi_bipush (v := 61) C d_Md_readSet_155 (by decide) ?_
  obtain ⟨r1, M, hqr1, hF⟩ := zzcall_e hF
  refine zi_callV_v (M2 := M) (n := 1) (As := [.int (61 : Int32)]) (st := []) C (c_Md_expect hqr1 hn_v0 hk_v0) zw_49 zw_18 (by decide +kernel) ⟨Nat.le_of_ble_eq_true rfl, Nat.le_of_ble_eq_true rfl⟩ rfl (Nat.le_of_ble_eq_true rfl) ⟨Nat.le_of_ble_eq_true rfl, Nat.le_of_ble_eq_true rfl⟩ zw_50 zw_51 zw_52 zc_9.1 hn_v0 hk_v0 rfl d_Md_readSet_157 ?_
  refine zi_aload_n C d_Md_readSet_160 rfl 0 rfl ?_
  refine zi_getI C zc_9 (k := 17) (by decide) zw_30 rfl hn_v0 hk_v0 d_Md_readSet_161 (fun _ _ _ => rfl) hF (fun x2 hF => ?_)
  refine zi_iconst (v := -1) C d_Md_readSet_164 (by decide) ?_
  refine zi_icmp_eq (tgt := 169) C d_Md_readSet_165 (by decide) hF (fun hF => ?_) (fun hF => ?_)
  · refine zi_aload_n C d_Md_readSet_169 rfl 0 rfl ?_
    refine zi_getR C zc_9 (k := 10) (by decide) zw_90 rfl hn_v0 hk_v0 d_Md_readSet_170 (fun _ _ _ => rfl) hF (fun b3 hn_b3 hk_b3 hF => ?_)
    refine zi_iload C d_Md_readSet_173 1 rfl ?_
    refine zi_aload_n C d_Md_readSet_175 rfl 0 rfl ?_
    refine zi_iconst (v := 1) C d_Md_readSet_176 (by decide) ?_
    obtain ⟨r4, M, hqr4, hF⟩ := zzcall_e hF
    refine zi_callV_i (M2 := M) (r := r4) (n := 1) (As := [.int (1 : Int32)]) (st := [.int v4, .ref (bs + b3)]) C (c_Md_readCodes hqr4 hn_v0 hk_v0) zw_111 zw_18 (by decide +kernel) ⟨Nat.le_of_ble_eq_true rfl, Nat.le_of_ble_eq_true rfl⟩ rfl (Nat.le_of_ble_eq_true rfl) ⟨Nat.le_of_ble_eq_true rfl, Nat.le_of_ble_eq_true rfl⟩ zw_112 zw_113 zw_114 zc_9.1 hn_v0 hk_v0 rfl d_Md_readSet_177 ?_
    refine zi_iast C hn_b3 hk_b3 d_Md_readSet_180 hF (fun M hF => ?_)
    refine zi_aload_n C d_Md_readSet_181 rfl 0 rfl ?_
    refine zi_bipush (v := 59) C d_Md_readSet_182 (by decide) ?_
    obtain ⟨r5, M, hqr5, hF⟩ := zzcall_e hF
    refine zi_callV_v (M2 := M) (n := 1) (As := [.int (59 : Int32)]) (st := []) C (c_Md_expect hqr5 hn_v0 hk_v0) zw_49 zw_18 (by decide +kernel) ⟨Nat.le_of_ble_eq_true rfl, Nat.le_of_ble_eq_true rfl⟩ rfl (Nat.le_of_ble_eq_true rfl) ⟨Nat.le_of_ble_eq_true rfl, Nat.le_of_ble_eq_true rfl⟩ zw_50 zw_51 zw_52 zc_9.1 hn_v0 hk_v0 rfl d_Md_readSet_184 ?_
    exact zi_vret C hlocks hr d_Md_readSet_187 rfl rfl (by cases hF; rfl) rfl
  · exact zi_vret C hlocks hr d_Md_readSet_168 rfl rfl (by cases hF; rfl) rfl
def F_Md_readSet_135 (S : zzS)   (M : zzM) (v0 : Nat) (v4 : Int32) (v5 : Int32) : Option (Unit × zzM) := zzlet (zzI M v0 16) fun x1 => zzlet (x1 + (1 : Int32)) fun x2 => zzlet (zzsI M v0 16 x2) fun M => zzref S 1 (zzR M v0 8) fun b3 => zzix S b3 v4 (zzlet (zzsI M b3 (v4).toNatClampNeg v5) fun M => F_Md_readSet_154 S   M v0 v4)
set_option maxHeartbeats 4000000 in
set_option maxRecDepth 100000 in
theorem g_Md_readSet_135 {p : Program} {l : Launch} {e : Env} {s : State} {m : MethodId} {args : Array Value} {below : List Frame} {meth : Method} {c : Code} {D : zzD} {bs : Nat} {A : Nat → Prop} {S : zzS} {hz : Nat} {out : Unit × zzM}  (C : zzC p s m args c prog_12_method_28_code "BoardScriptModel" 6 D) (hlocks : meth.locks = false) (hr : meth.sig.returnType = none) (hin : meth.name = "readSet")    (M : zzM) (v0 : Nat) (v4 : Int32) (v5 : Int32) (hn_v0 : v0 < S.2.1) (hk_v0 : zzk S v0 = 19) (hF : F_Md_readSet_135 S   M v0 v4 v5 = some out) : zzB p l e { frames := 5, cells := 0, slots := 0, locals := 111 } s m args below meth c 6 D bs A (MQ below (zzQc D bs A S out.2 hz none) args s 0 0 A) 0 0 S M hz 135 [(0, .ref (bs + v0)), (4, .int v4), (5, .int v5)] [] := by
  unfold F_Md_readSet_135 at hF
  refine zi_aload_n C d_Md_readSet_135 rfl 0 rfl ?_
  refine zi_dup C d_Md_readSet_136 rfl ?_
  refine zi_getI C zc_9 (k := 16) (by decide) zw_29 rfl hn_v0 hk_v0 d_Md_readSet_137 (fun _ _ _ => rfl) hF (fun x1 hF => ?_)
  refine zi_iconst (v := 1) C d_Md_readSet_140 (by decide) ?_
  refine zi_iadd C d_Md_readSet_141 hF (fun x2 hF => ?_)
  refine zi_putI C zc_9 (k := 16) (by decide) zw_29 rfl (Or.inl rfl) hn_v0 hk_v0 d_Md_readSet_142 rfl hF (fun M hF => ?_)
  refine zi_aload_n C d_Md_readSet_145 rfl 0 rfl ?_
  refine zi_getR C zc_9 (k := 8) (by decide) zw_88 rfl hn_v0 hk_v0 d_Md_readSet_146 (fun _ _ _ => rfl) hF (fun b3 hn_b3 hk_b3 hF => ?_)
  refine zi_iload C d_Md_readSet_149 1 rfl ?_
  refine zi_iload C d_Md_readSet_151 2 rfl ?_
  refine zi_iast C hn_b3 hk_b3 d_Md_readSet_153 hF (fun M hF => ?_)
  refine zz_sub [0, 1] (lv' := [(0, .ref (bs + v0)), (4, .int v4)]) rfl ?_
  exact g_Md_readSet_154 C hlocks hr hin   _ v0 v4 hn_v0 hk_v0 hF
def F_Md_readSet_127 (S : zzS)   (M : zzM) (v0 : Nat) (v4 : Int32) (v5 : Int32) : Option (Unit × zzM) := zzlet (zzI M v0 16) fun x1 => zzlet (zzsI M v0 17 x1) fun M => F_Md_readSet_135 S   M v0 v4 v5
set_option maxHeartbeats 4000000 in
set_option maxRecDepth 100000 in
theorem g_Md_readSet_127 {p : Program} {l : Launch} {e : Env} {s : State} {m : MethodId} {args : Array Value} {below : List Frame} {meth : Method} {c : Code} {D : zzD} {bs : Nat} {A : Nat → Prop} {S : zzS} {hz : Nat} {out : Unit × zzM}  (C : zzC p s m args c prog_12_method_28_code "BoardScriptModel" 6 D) (hlocks : meth.locks = false) (hr : meth.sig.returnType = none) (hin : meth.name = "readSet")    (M : zzM) (v0 : Nat) (v4 : Int32) (v5 : Int32) (hn_v0 : v0 < S.2.1) (hk_v0 : zzk S v0 = 19) (hF : F_Md_readSet_127 S   M v0 v4 v5 = some out) : zzB p l e { frames := 5, cells := 0, slots := 0, locals := 111 } s m args below meth c 6 D bs A (MQ below (zzQc D bs A S out.2 hz none) args s 0 0 A) 0 0 S M hz 127 [(0, .ref (bs + v0)), (4, .int v4), (5, .int v5)] [] := by
  unfold F_Md_readSet_127 at hF
  refine zi_aload_n C d_Md_readSet_127 rfl 0 rfl ?_
  refine zi_aload_n C d_Md_readSet_128 rfl 0 rfl ?_
  refine zi_getI C zc_9 (k := 16) (by decide) zw_29 rfl hn_v0 hk_v0 d_Md_readSet_129 (fun _ _ _ => rfl) hF (fun x1 hF => ?_)
  refine zi_putI C zc_9 (k := 17) (by decide) zw_30 rfl (Or.inl rfl) hn_v0 hk_v0 d_Md_readSet_132 rfl hF (fun M hF => ?_)
  refine zz_sub [0, 1, 2] (lv' := [(0, .ref (bs + v0)), (4, .int v4), (5, .int v5)]) rfl ?_
  exact g_Md_readSet_135 C hlocks hr hin   _ v0 v4 v5 hn_v0 hk_v0 hF
def F_Md_readSet_87 (S : zzS)   (M : zzM) (v0 : Nat) (v2 : Int32) (v4 : Int32) : Option (Unit × zzM) := if v2 = (64 : Int32) then (zzcall (F_Md_expect S M v0 (58 : Int32)) fun r1 M => zzcall (F_Md_peek S M v0) fun r2 M => zzlet (r2 - (48 : Int32)) fun x3 => zzlet (zzI M v0 17) fun x4 => if x4 = (-1 : Int32) then (if x3 < 0 then (F_Md_readSet_127 S   M v0 v4 x3) else (if x3 ≤ (5 : Int32) then (F_Md_readSet_135 S   M v0 v4 x3) else (F_Md_readSet_127 S   M v0 v4 x3))) else (F_Md_readSet_135 S   M v0 v4 x3)) else (F_Md_readSet_154 S   M v0 v4)
set_option maxHeartbeats 4000000 in
set_option maxRecDepth 100000 in
theorem g_Md_readSet_87 {p : Program} {l : Launch} {e : Env} {s : State} {m : MethodId} {args : Array Value} {below : List Frame} {meth : Method} {c : Code} {D : zzD} {bs : Nat} {A : Nat → Prop} {S : zzS} {hz : Nat} {out : Unit × zzM}  (C : zzC p s m args c prog_12_method_28_code "BoardScriptModel" 6 D) (hlocks : meth.locks = false) (hr : meth.sig.returnType = none) (hin : meth.name = "readSet")    (M : zzM) (v0 : Nat) (v2 : Int32) (v4 : Int32) (hn_v0 : v0 < S.2.1) (hk_v0 : zzk S v0 = 19) (hF : F_Md_readSet_87 S   M v0 v2 v4 = some out) : zzB p l e { frames := 5, cells := 0, slots := 0, locals := 111 } s m args below meth c 6 D bs A (MQ below (zzQc D bs A S out.2 hz none) args s 0 0 A) 0 0 S M hz 87 [(0, .ref (bs + v0)), (2, .int v2), (4, .int v4)] [] := by
  unfold F_Md_readSet_87 at hF
  refine zi_iload_n C d_Md_readSet_87 rfl 1 rfl ?_
  refine zi_bipush (v := 64) C d_Md_readSet_88 (by decide) ?_
  refine zi_icmp_ne (tgt := 154) C d_Md_readSet_90 (by decide) hF (fun hF => ?_) (fun hF => ?_)
  · refine zz_sub [0, 2] (lv' := [(0, .ref (bs + v0)), (4, .int v4)]) rfl ?_
    exact g_Md_readSet_154 C hlocks hr hin   _ v0 v4 hn_v0 hk_v0 hF
  · refine zi_aload_n C d_Md_readSet_93 rfl 0 rfl ?_
    refine zi_bipush (v := 58) C d_Md_readSet_94 (by decide) ?_
    obtain ⟨r1, M, hqr1, hF⟩ := zzcall_e hF
    refine zi_callV_v (M2 := M) (n := 1) (As := [.int (58 : Int32)]) (st := []) C (c_Md_expect hqr1 hn_v0 hk_v0) zw_49 zw_18 (by decide +kernel) ⟨Nat.le_of_ble_eq_true rfl, Nat.le_of_ble_eq_true rfl⟩ rfl (Nat.le_of_ble_eq_true rfl) ⟨Nat.le_of_ble_eq_true rfl, Nat.le_of_ble_eq_true rfl⟩ zw_50 zw_51 zw_52 zc_9.1 hn_v0 hk_v0 rfl d_Md_readSet_96 ?_
    refine zi_aload_n C d_Md_readSet_99 rfl 0 rfl ?_
    obtain ⟨r2, M, hqr2, hF⟩ := zzcall_e hF
    refine zi_callV_i (M2 := M) (r := r2) (n := 0) (As := []) (st := []) C (c_Md_peek hqr2 hn_v0 hk_v0) zw_31 zw_18 (by decide +kernel) ⟨Nat.le_of_ble_eq_true rfl, Nat.le_of_ble_eq_true rfl⟩ rfl (Nat.le_of_ble_eq_true rfl) ⟨Nat.le_of_ble_eq_true rfl, Nat.le_of_ble_eq_true rfl⟩ zw_32 zw_33 zw_34 zc_9.1 hn_v0 hk_v0 rfl d_Md_readSet_100 ?_
    refine zi_bipush (v := 48) C d_Md_readSet_103 (by decide) ?_
    refine zi_isub C d_Md_readSet_105 hF (fun x3 hF => ?_)
    refine zi_istore (lv' := [(5, .int x3), (0, .ref (bs + v0)), (2, .int v2), (4, .int v4)]) C d_Md_readSet_106 (by decide) rfl ?_
    refine zi_aload_n C d_Md_readSet_108 rfl 1 rfl ?_
    refine zi_getI C zc_9 (k := 17) (by decide) zw_30 rfl hn_v0 hk_v0 d_Md_readSet_109 (fun _ _ _ => rfl) hF (fun x4 hF => ?_)
    refine zi_iconst (v := -1) C d_Md_readSet_112 (by decide) ?_
    refine zi_icmp_ne (tgt := 135) C d_Md_readSet_113 (by decide) hF (fun hF => ?_) (fun hF => ?_)
    · refine zz_sub [1, 3, 0] (lv' := [(0, .ref (bs + v0)), (4, .int v4), (5, .int x3)]) rfl ?_
      exact g_Md_readSet_135 C hlocks hr hin   _ v0 v4 x3 hn_v0 hk_v0 hF
    · refine zi_iload C d_Md_readSet_116 0 rfl ?_
      refine zi_if_lt (tgt := 127) C d_Md_readSet_118 (by decide) hF (fun hF => ?_) (fun hF => ?_)
      · refine zz_sub [1, 3, 0] (lv' := [(0, .ref (bs + v0)), (4, .int v4), (5, .int x3)]) rfl ?_
        exact g_Md_readSet_127 C hlocks hr hin   _ v0 v4 x3 hn_v0 hk_v0 hF
      · refine zi_iload C d_Md_readSet_121 0 rfl ?_
        refine zi_iconst (v := 5) C d_Md_readSet_123 (by decide) ?_
        refine zi_icmp_le (tgt := 135) C d_Md_readSet_124 (by decide) hF (fun hF => ?_) (fun hF => ?_)
        · refine zz_sub [1, 3, 0] (lv' := [(0, .ref (bs + v0)), (4, .int v4), (5, .int x3)]) rfl ?_
          exact g_Md_readSet_135 C hlocks hr hin   _ v0 v4 x3 hn_v0 hk_v0 hF
        · refine zz_sub [1, 3, 0] (lv' := [(0, .ref (bs + v0)), (4, .int v4), (5, .int x3)]) rfl ?_
          exact g_Md_readSet_127 C hlocks hr hin   _ v0 v4 x3 hn_v0 hk_v0 hF
def F_Md_readSet_27 (S : zzS)   (M : zzM) (v0 : Nat) (v1 : Int32) (v2 : Int32) (w0 : Int32) (w1 : Nat) : Option (Unit × zzM) := zzcall (F_Md_order S M w1 w0 v1) fun r1 M => zzlet (zzI M v0 15) fun x2 => zzlet ((600 : Int32) * x2) fun x3 => zzlet (x3 + r1) fun x4 => zzlet (zzI M v0 16) fun x5 => zzlet (x5 + (1 : Int32)) fun x6 => zzlet (zzsI M v0 16 x6) fun M => zzcall (F_Md_isVariable S M v2) fun r7 M => if r7 = 0 then (zzref S 1 (zzR M v0 9) fun b8 => zzcall (F_Md_readCodes S M v0 (0 : Int32)) fun r9 M => zzix S b8 x4 (zzlet (zzsI M b8 (x4).toNatClampNeg r9) fun M => F_Md_readSet_87 S   M v0 v2 x4)) else (zzref S 1 (zzR M v0 8) fun b10 => zzlet (v2 - (97 : Int32)) fun x11 => zzix S b10 x4 (zzlet (zzsI M b10 (x4).toNatClampNeg x11) fun M => F_Md_readSet_87 S   M v0 v2 x4))
set_option maxHeartbeats 4000000 in
set_option maxRecDepth 100000 in
theorem g_Md_readSet_27 {p : Program} {l : Launch} {e : Env} {s : State} {m : MethodId} {args : Array Value} {below : List Frame} {meth : Method} {c : Code} {D : zzD} {bs : Nat} {A : Nat → Prop} {S : zzS} {hz : Nat} {out : Unit × zzM}  (C : zzC p s m args c prog_12_method_28_code "BoardScriptModel" 6 D) (hlocks : meth.locks = false) (hr : meth.sig.returnType = none) (hin : meth.name = "readSet")    (M : zzM) (v0 : Nat) (v1 : Int32) (v2 : Int32) (w0 : Int32) (w1 : Nat) (hn_v0 : v0 < S.2.1) (hk_v0 : zzk S v0 = 19) (hn_w1 : w1 < S.2.1) (hk_w1 : zzk S w1 = 19) (hF : F_Md_readSet_27 S   M v0 v1 v2 w0 w1 = some out) : zzB p l e { frames := 5, cells := 0, slots := 0, locals := 111 } s m args below meth c 6 D bs A (MQ below (zzQc D bs A S out.2 hz none) args s 0 0 A) 0 0 S M hz 27 [(0, .ref (bs + v0)), (1, .int v1), (2, .int v2)] [.int w0, .ref (bs + w1)] := by
  unfold F_Md_readSet_27 at hF
  refine zi_iload_n C d_Md_readSet_27 rfl 1 rfl ?_
  obtain ⟨r1, M, hqr1, hF⟩ := zzcall_e hF
  refine zi_callV_i (M2 := M) (r := r1) (n := 2) (As := [.int w0, .int v1]) (st := []) C (c_Md_order hqr1 hn_w1 hk_w1) zw_95 zw_18 (by decide +kernel) ⟨Nat.le_of_ble_eq_true rfl, Nat.le_of_ble_eq_true rfl⟩ rfl (Nat.le_of_ble_eq_true rfl) ⟨Nat.le_of_ble_eq_true rfl, Nat.le_of_ble_eq_true rfl⟩ zw_96 zw_97 zw_98 zc_9.1 hn_w1 hk_w1 rfl d_Md_readSet_28 ?_
  refine zi_istore_n (lv' := [(3, .int r1), (0, .ref (bs + v0)), (1, .int v1), (2, .int v2)]) C d_Md_readSet_31 rfl (by decide) rfl ?_
  refine zi_sipush (v := 600) C d_Md_readSet_32 (by decide) ?_
  refine zi_aload_n C d_Md_readSet_35 rfl 1 rfl ?_
  refine zi_getI C zc_9 (k := 15) (by decide) zw_36 rfl hn_v0 hk_v0 d_Md_readSet_36 (fun _ _ _ => rfl) hF (fun x2 hF => ?_)
  refine zi_imul C d_Md_readSet_39 hF (fun x3 hF => ?_)
  refine zi_iload_n C d_Md_readSet_40 rfl 0 rfl ?_
  refine zi_iadd C d_Md_readSet_41 hF (fun x4 hF => ?_)
  refine zi_istore (lv' := [(4, .int x4), (3, .int r1), (0, .ref (bs + v0)), (1, .int v1), (2, .int v2)]) C d_Md_readSet_42 (by decide) rfl ?_
  refine zi_aload_n C d_Md_readSet_44 rfl 2 rfl ?_
  refine zi_dup C d_Md_readSet_45 rfl ?_
  refine zi_getI C zc_9 (k := 16) (by decide) zw_29 rfl hn_v0 hk_v0 d_Md_readSet_46 (fun _ _ _ => rfl) hF (fun x5 hF => ?_)
  refine zi_iconst (v := 1) C d_Md_readSet_49 (by decide) ?_
  refine zi_iadd C d_Md_readSet_50 hF (fun x6 hF => ?_)
  refine zi_putI C zc_9 (k := 16) (by decide) zw_29 rfl (Or.inl rfl) hn_v0 hk_v0 d_Md_readSet_51 rfl hF (fun M hF => ?_)
  refine zi_iload_n C d_Md_readSet_54 rfl 4 rfl ?_
  obtain ⟨r7, M, hqr7, hF⟩ := zzcall_e hF
  refine zi_callS_i (M2 := M) (r := r7) (n := 1) (As := [.int v2]) (st := []) C (c_Md_isVariable hqr7 ) zw_56 zw_18 (by decide +kernel) ⟨Nat.le_of_ble_eq_true rfl, Nat.le_of_ble_eq_true rfl⟩ rfl (Nat.le_of_ble_eq_true rfl) ⟨Nat.le_of_ble_eq_true rfl, Nat.le_of_ble_eq_true rfl⟩ zw_57 zw_58 rfl d_Md_readSet_55 ?_
  refine zi_if_eq (tgt := 75) C d_Md_readSet_58 (by decide) hF (fun hF => ?_) (fun hF => ?_)
  · refine zi_aload_n C d_Md_readSet_75 rfl 2 rfl ?_
    refine zi_getR C zc_9 (k := 9) (by decide) zw_89 rfl hn_v0 hk_v0 d_Md_readSet_76 (fun _ _ _ => rfl) hF (fun b8 hn_b8 hk_b8 hF => ?_)
    refine zi_iload C d_Md_readSet_79 0 rfl ?_
    refine zi_aload_n C d_Md_readSet_81 rfl 2 rfl ?_
    refine zi_iconst (v := 0) C d_Md_readSet_82 (by decide) ?_
    obtain ⟨r9, M, hqr9, hF⟩ := zzcall_e hF
    refine zi_callV_i (M2 := M) (r := r9) (n := 1) (As := [.int (0 : Int32)]) (st := [.int x4, .ref (bs + b8)]) C (c_Md_readCodes hqr9 hn_v0 hk_v0) zw_111 zw_18 (by decide +kernel) ⟨Nat.le_of_ble_eq_true rfl, Nat.le_of_ble_eq_true rfl⟩ rfl (Nat.le_of_ble_eq_true rfl) ⟨Nat.le_of_ble_eq_true rfl, Nat.le_of_ble_eq_true rfl⟩ zw_112 zw_113 zw_114 zc_9.1 hn_v0 hk_v0 rfl d_Md_readSet_83 ?_
    refine zi_iast C hn_b8 hk_b8 d_Md_readSet_86 hF (fun M hF => ?_)
    refine zz_sub [2, 4, 0] (lv' := [(0, .ref (bs + v0)), (2, .int v2), (4, .int x4)]) rfl ?_
    exact g_Md_readSet_87 C hlocks hr hin   _ v0 v2 x4 hn_v0 hk_v0 hF
  · refine zi_aload_n C d_Md_readSet_61 rfl 2 rfl ?_
    refine zi_getR C zc_9 (k := 8) (by decide) zw_88 rfl hn_v0 hk_v0 d_Md_readSet_62 (fun _ _ _ => rfl) hF (fun b10 hn_b10 hk_b10 hF => ?_)
    refine zi_iload C d_Md_readSet_65 0 rfl ?_
    refine zi_iload_n C d_Md_readSet_67 rfl 4 rfl ?_
    refine zi_bipush (v := 97) C d_Md_readSet_68 (by decide) ?_
    refine zi_isub C d_Md_readSet_70 hF (fun x11 hF => ?_)
    refine zi_iast C hn_b10 hk_b10 d_Md_readSet_71 hF (fun M hF => ?_)
    refine zi_goto (tgt := 87) C d_Md_readSet_72 (by decide) ?_
    refine zz_sub [2, 4, 0] (lv' := [(0, .ref (bs + v0)), (2, .int v2), (4, .int x4)]) rfl ?_
    exact g_Md_readSet_87 C hlocks hr hin   _ v0 v2 x4 hn_v0 hk_v0 hF
def F_Md_readSet (S : zzS)  (M : zzM) (v0 : Nat) (v1 : Int32) : Option (Unit × zzM) := zzcall (F_Md_peek S M v0) fun r1 M => if r1 = (64 : Int32) then (F_Md_readSet_27 S   M v0 v1 r1 (2 : Int32) v0) else (if r1 = (39 : Int32) then (F_Md_readSet_27 S   M v0 v1 r1 (3 : Int32) v0) else (F_Md_readSet_27 S   M v0 v1 r1 (1 : Int32) v0))
set_option maxHeartbeats 4000000 in
set_option maxRecDepth 100000 in
theorem c_Md_readSet {l : Launch} {D : zzD} {bs : Nat} {A : Nat → Prop} {S : zzS} {M : zzM} {hz : Nat} {out : Unit × zzM} {v0 : Nat} {v1 : Int32}   (hF : F_Md_readSet S  M v0 v1 = some out) (hn_v0 : v0 < S.2.1) (hk_v0 : zzk S v0 = 19) : Met l y_Md_readSet (Cond.code y_Md_readSet prog_12_method_28_code 6 none :: zzW) { frames := 5, cells := 0, slots := 0, locals := 111 } (zzPc D bs A S M hz [.ref (bs + v0), .int v1]) (zzQc D bs A S out.2 hz none) 0 0 A := by
  refine zz_met [.ref (bs + v0), .int v1] (by decide) (Nat.le_of_ble_eq_true rfl) (fun p e s m args below meth c C hr hlocks hin hsz => ?_)
  refine zz_eq (lv' := [(0, .ref (bs + v0)), (1, .int v1)]) (st' := []) rfl rfl ?_
  unfold F_Md_readSet at hF
  refine zi_aload_n C d_Md_readSet_0 rfl 0 rfl ?_
  obtain ⟨r1, M, hqr1, hF⟩ := zzcall_e hF
  refine zi_callV_i (M2 := M) (r := r1) (n := 0) (As := []) (st := []) C (c_Md_peek hqr1 hn_v0 hk_v0) zw_31 zw_18 (by decide +kernel) ⟨Nat.le_of_ble_eq_true rfl, Nat.le_of_ble_eq_true rfl⟩ rfl (Nat.le_of_ble_eq_true rfl) ⟨Nat.le_of_ble_eq_true rfl, Nat.le_of_ble_eq_true rfl⟩ zw_32 zw_33 zw_34 zc_9.1 hn_v0 hk_v0 rfl d_Md_readSet_1 ?_
  refine zi_istore_n (lv' := [(2, .int r1), (0, .ref (bs + v0)), (1, .int v1)]) C d_Md_readSet_4 rfl (by decide) rfl ?_
  refine zi_aload_n C d_Md_readSet_5 rfl 1 rfl ?_
  refine zi_iload_n C d_Md_readSet_6 rfl 0 rfl ?_
  refine zi_bipush (v := 64) C d_Md_readSet_7 (by decide) ?_
  refine zi_icmp_ne (tgt := 16) C d_Md_readSet_9 (by decide) hF (fun hF => ?_) (fun hF => ?_)
  · refine zi_iload_n C d_Md_readSet_16 rfl 0 rfl ?_
    refine zi_bipush (v := 39) C d_Md_readSet_17 (by decide) ?_
    refine zi_icmp_ne (tgt := 26) C d_Md_readSet_19 (by decide) hF (fun hF => ?_) (fun hF => ?_)
    · refine zi_iconst (v := 1) C d_Md_readSet_26 (by decide) ?_
      refine zz_sub [1, 2, 0] (lv' := [(0, .ref (bs + v0)), (1, .int v1), (2, .int r1)]) rfl ?_
      exact g_Md_readSet_27 C hlocks hr hin   _ v0 v1 r1 (1 : Int32) v0 hn_v0 hk_v0 hn_v0 hk_v0 hF
    · refine zi_iconst (v := 3) C d_Md_readSet_22 (by decide) ?_
      refine zi_goto (tgt := 27) C d_Md_readSet_23 (by decide) ?_
      refine zz_sub [1, 2, 0] (lv' := [(0, .ref (bs + v0)), (1, .int v1), (2, .int r1)]) rfl ?_
      exact g_Md_readSet_27 C hlocks hr hin   _ v0 v1 r1 (3 : Int32) v0 hn_v0 hk_v0 hn_v0 hk_v0 hF
  · refine zi_iconst (v := 2) C d_Md_readSet_12 (by decide) ?_
    refine zi_goto (tgt := 27) C d_Md_readSet_13 (by decide) ?_
    refine zz_sub [1, 2, 0] (lv' := [(0, .ref (bs + v0)), (1, .int v1), (2, .int r1)]) rfl ?_
    exact g_Md_readSet_27 C hlocks hr hin   _ v0 v1 r1 (2 : Int32) v0 hn_v0 hk_v0 hn_v0 hk_v0 hF
def F_Md_simpleOf (S : zzS)  (M : zzM) (v0 : Int32) : Option (Int32 × zzM) := if v0 = (33 : Int32) then (some ((4 : Int32), M)) else (if v0 = (38 : Int32) then (some ((14 : Int32), M)) else (if v0 = (43 : Int32) then (some ((13 : Int32), M)) else (if v0 = (60 : Int32) then (some ((16 : Int32), M)) else (if v0 = (94 : Int32) then (some ((12 : Int32), M)) else (if v0 = (124 : Int32) then (some ((15 : Int32), M)) else (some ((0 : Int32), M)))))))
set_option maxHeartbeats 4000000 in
set_option maxRecDepth 100000 in
theorem c_Md_simpleOf {l : Launch} {D : zzD} {bs : Nat} {A : Nat → Prop} {S : zzS} {M : zzM} {hz : Nat} {out : Int32 × zzM} {v0 : Int32}   (hF : F_Md_simpleOf S  M v0 = some out)  : Met l y_Md_simpleOf (Cond.code y_Md_simpleOf prog_12_method_29_code 1 (some .int) :: zzW) { frames := 0, cells := 0, slots := 0, locals := 0 } (zzPc D bs A S M hz [.int v0]) (zzQc D bs A S out.2 hz (some (.int out.1))) 0 0 A := by
  refine zz_met [.int v0] (by decide) (Nat.le_of_ble_eq_true rfl) (fun p e s m args below meth c C hr hlocks hin hsz => ?_)
  refine zz_eq (lv' := [(0, .int v0)]) (st' := []) rfl rfl ?_
  unfold F_Md_simpleOf at hF
  refine zi_iload_n C d_Md_simpleOf_0 rfl 0 rfl ?_
  by_cases hs1 : v0 = (33 : Int32)
  · rw [if_pos hs1] at hF
    refine zi_lookup C d_Md_simpleOf_1 (by decide) 59 60 (by rw [hs1]; decide +kernel) (by decide) ?_
    refine zi_iconst (v := 4) C d_Md_simpleOf_60 (by decide) ?_
    exact zi_iret C hlocks hr d_Md_simpleOf_61 (by cases hF; rfl) rfl (by cases hF; rfl) rfl
  · rw [if_neg hs1] at hF
    by_cases hs2 : v0 = (38 : Int32)
    · rw [if_pos hs2] at hF
      refine zi_lookup C d_Md_simpleOf_1 (by decide) 67 68 (by rw [hs2]; decide +kernel) (by decide) ?_
      refine zi_bipush (v := 14) C d_Md_simpleOf_68 (by decide) ?_
      exact zi_iret C hlocks hr d_Md_simpleOf_70 (by cases hF; rfl) rfl (by cases hF; rfl) rfl
    · rw [if_neg hs2] at hF
      by_cases hs3 : v0 = (43 : Int32)
      · rw [if_pos hs3] at hF
        refine zi_lookup C d_Md_simpleOf_1 (by decide) 64 65 (by rw [hs3]; decide +kernel) (by decide) ?_
        refine zi_bipush (v := 13) C d_Md_simpleOf_65 (by decide) ?_
        exact zi_iret C hlocks hr d_Md_simpleOf_67 (by cases hF; rfl) rfl (by cases hF; rfl) rfl
      · rw [if_neg hs3] at hF
        by_cases hs4 : v0 = (60 : Int32)
        · rw [if_pos hs4] at hF
          refine zi_lookup C d_Md_simpleOf_1 (by decide) 73 74 (by rw [hs4]; decide +kernel) (by decide) ?_
          refine zi_bipush (v := 16) C d_Md_simpleOf_74 (by decide) ?_
          exact zi_iret C hlocks hr d_Md_simpleOf_76 (by cases hF; rfl) rfl (by cases hF; rfl) rfl
        · rw [if_neg hs4] at hF
          by_cases hs5 : v0 = (94 : Int32)
          · rw [if_pos hs5] at hF
            refine zi_lookup C d_Md_simpleOf_1 (by decide) 61 62 (by rw [hs5]; decide +kernel) (by decide) ?_
            refine zi_bipush (v := 12) C d_Md_simpleOf_62 (by decide) ?_
            exact zi_iret C hlocks hr d_Md_simpleOf_64 (by cases hF; rfl) rfl (by cases hF; rfl) rfl
          · rw [if_neg hs5] at hF
            by_cases hs6 : v0 = (124 : Int32)
            · rw [if_pos hs6] at hF
              refine zi_lookup C d_Md_simpleOf_1 (by decide) 70 71 (by rw [hs6]; decide +kernel) (by decide) ?_
              refine zi_bipush (v := 15) C d_Md_simpleOf_71 (by decide) ?_
              exact zi_iret C hlocks hr d_Md_simpleOf_73 (by cases hF; rfl) rfl (by cases hF; rfl) rfl
            · rw [if_neg hs6] at hF
              refine zi_lookup C d_Md_simpleOf_1 (by decide) 76 77 ((lv_osw hs1 (by decide)).trans ((lv_osw hs2 (by decide)).trans ((lv_osw hs3 (by decide)).trans ((lv_osw hs4 (by decide)).trans ((lv_osw hs5 (by decide)).trans ((lv_osw hs6 (by decide)).trans (rfl))))))) (by decide) ?_
              refine zi_iconst (v := 0) C d_Md_simpleOf_77 (by decide) ?_
              exact zi_iret C hlocks hr d_Md_simpleOf_78 (by cases hF; rfl) rfl (by cases hF; rfl) rfl
def F_Md_readBlockWith (S : zzS)  (M : zzM) (v0 : Nat) (v1 : Int32) (v2 : Int32) (v3 : Int32) : Option (Unit × zzM) := zzlet (zzI M v0 16) fun x1 => zzlet (x1 + (1 : Int32)) fun x2 => zzlet (zzsI M v0 16 x2) fun M => zzcall (F_Md_order S M v0 v1 v3) fun r3 M => zzref S 1 (zzR M v0 10) fun b4 => zzlet (zzI M v0 15) fun x5 => zzlet ((600 : Int32) * x5) fun x6 => zzlet (x6 + r3) fun x7 => zzcall (F_Md_readCodes S M v0 (1 : Int32)) fun r8 M => zzix S b4 x7 (zzlet (zzsI M b4 (x7).toNatClampNeg r8) fun M => zzcall (F_Md_open S M v0 v2 (123 : Int32) r3) fun r9 M => some ((), M))
set_option maxHeartbeats 4000000 in
set_option maxRecDepth 100000 in
theorem c_Md_readBlockWith {l : Launch} {D : zzD} {bs : Nat} {A : Nat → Prop} {S : zzS} {M : zzM} {hz : Nat} {out : Unit × zzM} {v0 : Nat} {v1 : Int32} {v2 : Int32} {v3 : Int32}   (hF : F_Md_readBlockWith S  M v0 v1 v2 v3 = some out) (hn_v0 : v0 < S.2.1) (hk_v0 : zzk S v0 = 19) : Met l y_Md_readBlockWith (Cond.code y_Md_readBlockWith prog_12_method_30_code 5 none :: zzW) { frames := 5, cells := 0, slots := 0, locals := 111 } (zzPc D bs A S M hz [.ref (bs + v0), .int v1, .int v2, .int v3]) (zzQc D bs A S out.2 hz none) 0 0 A := by
  refine zz_met [.ref (bs + v0), .int v1, .int v2, .int v3] (by decide) (Nat.le_of_ble_eq_true rfl) (fun p e s m args below meth c C hr hlocks hin hsz => ?_)
  refine zz_eq (lv' := [(0, .ref (bs + v0)), (1, .int v1), (2, .int v2), (3, .int v3)]) (st' := []) rfl rfl ?_
  unfold F_Md_readBlockWith at hF
  refine zi_aload_n C d_Md_readBlockWith_0 rfl 0 rfl ?_
  refine zi_dup C d_Md_readBlockWith_1 rfl ?_
  refine zi_getI C zc_9 (k := 16) (by decide) zw_29 rfl hn_v0 hk_v0 d_Md_readBlockWith_2 (fun _ _ _ => rfl) hF (fun x1 hF => ?_)
  refine zi_iconst (v := 1) C d_Md_readBlockWith_5 (by decide) ?_
  refine zi_iadd C d_Md_readBlockWith_6 hF (fun x2 hF => ?_)
  refine zi_putI C zc_9 (k := 16) (by decide) zw_29 rfl (Or.inl rfl) hn_v0 hk_v0 d_Md_readBlockWith_7 rfl hF (fun M hF => ?_)
  refine zi_aload_n C d_Md_readBlockWith_10 rfl 0 rfl ?_
  refine zi_iload_n C d_Md_readBlockWith_11 rfl 1 rfl ?_
  refine zi_iload_n C d_Md_readBlockWith_12 rfl 3 rfl ?_
  obtain ⟨r3, M, hqr3, hF⟩ := zzcall_e hF
  refine zi_callV_i (M2 := M) (r := r3) (n := 2) (As := [.int v1, .int v3]) (st := []) C (c_Md_order hqr3 hn_v0 hk_v0) zw_95 zw_18 (by decide +kernel) ⟨Nat.le_of_ble_eq_true rfl, Nat.le_of_ble_eq_true rfl⟩ rfl (Nat.le_of_ble_eq_true rfl) ⟨Nat.le_of_ble_eq_true rfl, Nat.le_of_ble_eq_true rfl⟩ zw_96 zw_97 zw_98 zc_9.1 hn_v0 hk_v0 rfl d_Md_readBlockWith_13 ?_
  refine zi_istore (lv' := [(4, .int r3), (0, .ref (bs + v0)), (1, .int v1), (2, .int v2), (3, .int v3)]) C d_Md_readBlockWith_16 (by decide) rfl ?_
  refine zi_aload_n C d_Md_readBlockWith_18 rfl 1 rfl ?_
  refine zi_getR C zc_9 (k := 10) (by decide) zw_90 rfl hn_v0 hk_v0 d_Md_readBlockWith_19 (fun _ _ _ => rfl) hF (fun b4 hn_b4 hk_b4 hF => ?_)
  refine zi_sipush (v := 600) C d_Md_readBlockWith_22 (by decide) ?_
  refine zi_aload_n C d_Md_readBlockWith_25 rfl 1 rfl ?_
  refine zi_getI C zc_9 (k := 15) (by decide) zw_36 rfl hn_v0 hk_v0 d_Md_readBlockWith_26 (fun _ _ _ => rfl) hF (fun x5 hF => ?_)
  refine zi_imul C d_Md_readBlockWith_29 hF (fun x6 hF => ?_)
  refine zi_iload C d_Md_readBlockWith_30 0 rfl ?_
  refine zi_iadd C d_Md_readBlockWith_32 hF (fun x7 hF => ?_)
  refine zi_aload_n C d_Md_readBlockWith_33 rfl 1 rfl ?_
  refine zi_iconst (v := 1) C d_Md_readBlockWith_34 (by decide) ?_
  obtain ⟨r8, M, hqr8, hF⟩ := zzcall_e hF
  refine zi_callV_i (M2 := M) (r := r8) (n := 1) (As := [.int (1 : Int32)]) (st := [.int x7, .ref (bs + b4)]) C (c_Md_readCodes hqr8 hn_v0 hk_v0) zw_111 zw_18 (by decide +kernel) ⟨Nat.le_of_ble_eq_true rfl, Nat.le_of_ble_eq_true rfl⟩ rfl (Nat.le_of_ble_eq_true rfl) ⟨Nat.le_of_ble_eq_true rfl, Nat.le_of_ble_eq_true rfl⟩ zw_112 zw_113 zw_114 zc_9.1 hn_v0 hk_v0 rfl d_Md_readBlockWith_35 ?_
  refine zi_iast C hn_b4 hk_b4 d_Md_readBlockWith_38 hF (fun M hF => ?_)
  refine zi_aload_n C d_Md_readBlockWith_39 rfl 1 rfl ?_
  refine zi_iload_n C d_Md_readBlockWith_40 rfl 3 rfl ?_
  refine zi_bipush (v := 123) C d_Md_readBlockWith_41 (by decide) ?_
  refine zi_iload C d_Md_readBlockWith_43 0 rfl ?_
  obtain ⟨r9, M, hqr9, hF⟩ := zzcall_e hF
  refine zi_callV_v (M2 := M) (n := 3) (As := [.int v2, .int (123 : Int32), .int r3]) (st := []) C (c_Md_open hqr9 hn_v0 hk_v0) zw_103 zw_18 (by decide +kernel) ⟨Nat.le_of_ble_eq_true rfl, Nat.le_of_ble_eq_true rfl⟩ rfl (Nat.le_of_ble_eq_true rfl) ⟨Nat.le_of_ble_eq_true rfl, Nat.le_of_ble_eq_true rfl⟩ zw_104 zw_105 zw_106 zc_9.1 hn_v0 hk_v0 rfl d_Md_readBlockWith_45 ?_
  exact zi_vret C hlocks hr d_Md_readBlockWith_48 rfl rfl (by cases hF; rfl) rfl
def F_Md_readStatement (S : zzS)  (M : zzM) (v0 : Nat) : Option (Unit × zzM) := zzlet (zzI M v0 16) fun x1 => zzcall (F_Md_peek S M v0) fun r2 M => zzlet (zzI M v0 20) fun x3 => if x3 = (100 : Int32) then (zzlet (zzI M v0 16) fun x33 => zzlet (zzsI M v0 17 x33) fun M => some ((), M)) else (zzlet (zzI M v0 20) fun x4 => zzlet (x4 + (1 : Int32)) fun x5 => zzlet (zzsI M v0 20 x5) fun M => zzcall (F_Md_isVariable S M r2) fun r6 M => if r6 = 0 then (if r2 = (64 : Int32) then (zzcall (F_Md_readSet S M v0 x1) fun r8 M => some ((), M)) else (if r2 = (39 : Int32) then (zzcall (F_Md_readSet S M v0 x1) fun r32 M => some ((), M)) else (zzcall (F_Md_simpleOf S M r2) fun r9 M => if r9 = 0 then (if r2 = (63 : Int32) then (zzcall (F_Md_readBlockWith S M v0 (5 : Int32) (1 : Int32) x1) fun r29 M => some ((), M)) else (if r2 = (42 : Int32) then (zzcall (F_Md_readBlockWith S M v0 (6 : Int32) (3 : Int32) x1) fun r28 M => some ((), M)) else (if r2 = (91 : Int32) then (zzcall (F_Md_order S M v0 (7 : Int32) x1) fun r26 M => zzcall (F_Md_open S M v0 (4 : Int32) (91 : Int32) r26) fun r27 M => some ((), M)) else (if r2 = (126 : Int32) then (zzcall (F_Md_order S M v0 (9 : Int32) x1) fun r22 M => zzlet (zzI M v0 16) fun x23 => zzlet (x23 + (1 : Int32)) fun x24 => zzlet (zzsI M v0 16 x24) fun M => zzcall (F_Md_open S M v0 (5 : Int32) (123 : Int32) r22) fun r25 M => some ((), M)) else (if r2 = (58 : Int32) then (zzcall (F_Md_readFunction S M v0 x1) fun r21 M => some ((), M)) else (zzcall (F_Md_isFunction S M r2) fun r10 M => if r10 = 0 then (zzlet (zzI M v0 16) fun x11 => zzlet (zzsI M v0 17 x11) fun M => some ((), M)) else (zzcall (F_Md_order S M v0 (18 : Int32) x1) fun r12 M => zzref S 1 (zzR M v0 8) fun b13 => zzlet (zzI M v0 15) fun x14 => zzlet ((600 : Int32) * x14) fun x15 => zzlet (x15 + r12) fun x16 => zzlet (r2 - (65 : Int32)) fun x17 => zzix S b13 x16 (zzlet (zzsI M b13 (x16).toNatClampNeg x17) fun M => zzlet (zzI M v0 16) fun x18 => zzlet (x18 + (1 : Int32)) fun x19 => zzlet (zzsI M v0 16 x19) fun M => zzcall (F_Md_expect S M v0 (59 : Int32)) fun r20 M => some ((), M))))))))) else (zzcall (F_Md_simpleOf S M r2) fun r30 M => zzcall (F_Md_readSimple S M v0 r30 x1) fun r31 M => some ((), M))))) else (zzcall (F_Md_readSet S M v0 x1) fun r7 M => some ((), M)))
set_option maxHeartbeats 4000000 in
set_option maxRecDepth 100000 in
theorem c_Md_readStatement {l : Launch} {D : zzD} {bs : Nat} {A : Nat → Prop} {S : zzS} {M : zzM} {hz : Nat} {out : Unit × zzM} {v0 : Nat}   (hF : F_Md_readStatement S  M v0 = some out) (hn_v0 : v0 < S.2.1) (hk_v0 : zzk S v0 = 19) : Met l y_Md_readStatement (Cond.code y_Md_readStatement prog_12_method_31_code 4 none :: zzW) { frames := 6, cells := 0, slots := 0, locals := 136 } (zzPc D bs A S M hz [.ref (bs + v0)]) (zzQc D bs A S out.2 hz none) 0 0 A := by
  refine zz_met [.ref (bs + v0)] (by decide) (Nat.le_of_ble_eq_true rfl) (fun p e s m args below meth c C hr hlocks hin hsz => ?_)
  refine zz_eq (lv' := [(0, .ref (bs + v0))]) (st' := []) rfl rfl ?_
  unfold F_Md_readStatement at hF
  refine zi_aload_n C d_Md_readStatement_0 rfl 0 rfl ?_
  refine zi_getI C zc_9 (k := 16) (by decide) zw_29 rfl hn_v0 hk_v0 d_Md_readStatement_1 (fun _ _ _ => rfl) hF (fun x1 hF => ?_)
  refine zi_istore_n (lv' := [(1, .int x1), (0, .ref (bs + v0))]) C d_Md_readStatement_4 rfl (by decide) rfl ?_
  refine zi_aload_n C d_Md_readStatement_5 rfl 1 rfl ?_
  obtain ⟨r2, M, hqr2, hF⟩ := zzcall_e hF
  refine zi_callV_i (M2 := M) (r := r2) (n := 0) (As := []) (st := []) C (c_Md_peek hqr2 hn_v0 hk_v0) zw_31 zw_18 (by decide +kernel) ⟨Nat.le_of_ble_eq_true rfl, Nat.le_of_ble_eq_true rfl⟩ rfl (Nat.le_of_ble_eq_true rfl) ⟨Nat.le_of_ble_eq_true rfl, Nat.le_of_ble_eq_true rfl⟩ zw_32 zw_33 zw_34 zc_9.1 hn_v0 hk_v0 rfl d_Md_readStatement_6 ?_
  refine zi_istore_n (lv' := [(2, .int r2), (1, .int x1), (0, .ref (bs + v0))]) C d_Md_readStatement_9 rfl (by decide) rfl ?_
  refine zi_aload_n C d_Md_readStatement_10 rfl 2 rfl ?_
  refine zi_getI C zc_9 (k := 20) (by decide) zw_115 rfl hn_v0 hk_v0 d_Md_readStatement_11 (fun _ _ _ => rfl) hF (fun x3 hF => ?_)
  refine zi_bipush (v := 100) C d_Md_readStatement_14 (by decide) ?_
  refine zi_icmp_ne (tgt := 28) C d_Md_readStatement_16 (by decide) hF (fun hF => ?_) (fun hF => ?_)
  · refine zi_aload_n C d_Md_readStatement_28 rfl 2 rfl ?_
    refine zi_dup C d_Md_readStatement_29 rfl ?_
    refine zi_getI C zc_9 (k := 20) (by decide) zw_115 rfl hn_v0 hk_v0 d_Md_readStatement_30 (fun _ _ _ => rfl) hF (fun x4 hF => ?_)
    refine zi_iconst (v := 1) C d_Md_readStatement_33 (by decide) ?_
    refine zi_iadd C d_Md_readStatement_34 hF (fun x5 hF => ?_)
    refine zi_putI C zc_9 (k := 20) (by decide) zw_115 rfl (Or.inl rfl) hn_v0 hk_v0 d_Md_readStatement_35 rfl hF (fun M hF => ?_)
    refine zi_iload_n C d_Md_readStatement_38 rfl 0 rfl ?_
    obtain ⟨r6, M, hqr6, hF⟩ := zzcall_e hF
    refine zi_callS_i (M2 := M) (r := r6) (n := 1) (As := [.int r2]) (st := []) C (c_Md_isVariable hqr6 ) zw_56 zw_18 (by decide +kernel) ⟨Nat.le_of_ble_eq_true rfl, Nat.le_of_ble_eq_true rfl⟩ rfl (Nat.le_of_ble_eq_true rfl) ⟨Nat.le_of_ble_eq_true rfl, Nat.le_of_ble_eq_true rfl⟩ zw_57 zw_58 rfl d_Md_readStatement_39 ?_
    refine zi_if_ne (tgt := 57) C d_Md_readStatement_42 (by decide) hF (fun hF => ?_) (fun hF => ?_)
    · refine zi_aload_n C d_Md_readStatement_57 rfl 2 rfl ?_
      refine zi_iload_n C d_Md_readStatement_58 rfl 1 rfl ?_
      obtain ⟨r7, M, hqr7, hF⟩ := zzcall_e hF
      refine zi_callV_v (M2 := M) (n := 1) (As := [.int x1]) (st := []) C (c_Md_readSet hqr7 hn_v0 hk_v0) zw_116 zw_18 (by decide +kernel) ⟨Nat.le_of_ble_eq_true rfl, Nat.le_of_ble_eq_true rfl⟩ rfl (Nat.le_of_ble_eq_true rfl) ⟨Nat.le_of_ble_eq_true rfl, Nat.le_of_ble_eq_true rfl⟩ zw_117 zw_118 zw_119 zc_9.1 hn_v0 hk_v0 rfl d_Md_readStatement_59 ?_
      refine zi_goto (tgt := 253) C d_Md_readStatement_62 (by decide) ?_
      exact zi_vret C hlocks hr d_Md_readStatement_253 rfl rfl (by cases hF; rfl) rfl
    · refine zi_iload_n C d_Md_readStatement_45 rfl 0 rfl ?_
      refine zi_bipush (v := 64) C d_Md_readStatement_46 (by decide) ?_
      refine zi_icmp_eq (tgt := 57) C d_Md_readStatement_48 (by decide) hF (fun hF => ?_) (fun hF => ?_)
      · refine zi_aload_n C d_Md_readStatement_57 rfl 2 rfl ?_
        refine zi_iload_n C d_Md_readStatement_58 rfl 1 rfl ?_
        obtain ⟨r8, M, hqr8, hF⟩ := zzcall_e hF
        refine zi_callV_v (M2 := M) (n := 1) (As := [.int x1]) (st := []) C (c_Md_readSet hqr8 hn_v0 hk_v0) zw_116 zw_18 (by decide +kernel) ⟨Nat.le_of_ble_eq_true rfl, Nat.le_of_ble_eq_true rfl⟩ rfl (Nat.le_of_ble_eq_true rfl) ⟨Nat.le_of_ble_eq_true rfl, Nat.le_of_ble_eq_true rfl⟩ zw_117 zw_118 zw_119 zc_9.1 hn_v0 hk_v0 rfl d_Md_readStatement_59 ?_
        refine zi_goto (tgt := 253) C d_Md_readStatement_62 (by decide) ?_
        exact zi_vret C hlocks hr d_Md_readStatement_253 rfl rfl (by cases hF; rfl) rfl
      · refine zi_iload_n C d_Md_readStatement_51 rfl 0 rfl ?_
        refine zi_bipush (v := 39) C d_Md_readStatement_52 (by decide) ?_
        refine zi_icmp_ne (tgt := 65) C d_Md_readStatement_54 (by decide) hF (fun hF => ?_) (fun hF => ?_)
        · refine zi_iload_n C d_Md_readStatement_65 rfl 0 rfl ?_
          obtain ⟨r9, M, hqr9, hF⟩ := zzcall_e hF
          refine zi_callS_i (M2 := M) (r := r9) (n := 1) (As := [.int r2]) (st := []) C (c_Md_simpleOf hqr9 ) zw_120 zw_18 (by decide +kernel) ⟨Nat.le_of_ble_eq_true rfl, Nat.le_of_ble_eq_true rfl⟩ rfl (Nat.le_of_ble_eq_true rfl) ⟨Nat.le_of_ble_eq_true rfl, Nat.le_of_ble_eq_true rfl⟩ zw_121 zw_122 rfl d_Md_readStatement_66 ?_
          refine zi_if_eq (tgt := 85) C d_Md_readStatement_69 (by decide) hF (fun hF => ?_) (fun hF => ?_)
          · refine zi_iload_n C d_Md_readStatement_85 rfl 0 rfl ?_
            refine zi_bipush (v := 63) C d_Md_readStatement_86 (by decide) ?_
            refine zi_icmp_ne (tgt := 101) C d_Md_readStatement_88 (by decide) hF (fun hF => ?_) (fun hF => ?_)
            · refine zi_iload_n C d_Md_readStatement_101 rfl 0 rfl ?_
              refine zi_bipush (v := 42) C d_Md_readStatement_102 (by decide) ?_
              refine zi_icmp_ne (tgt := 118) C d_Md_readStatement_104 (by decide) hF (fun hF => ?_) (fun hF => ?_)
              · refine zi_iload_n C d_Md_readStatement_118 rfl 0 rfl ?_
                refine zi_bipush (v := 91) C d_Md_readStatement_119 (by decide) ?_
                refine zi_icmp_ne (tgt := 143) C d_Md_readStatement_121 (by decide) hF (fun hF => ?_) (fun hF => ?_)
                · refine zi_iload_n C d_Md_readStatement_143 rfl 0 rfl ?_
                  refine zi_bipush (v := 126) C d_Md_readStatement_144 (by decide) ?_
                  refine zi_icmp_ne (tgt := 178) C d_Md_readStatement_146 (by decide) hF (fun hF => ?_) (fun hF => ?_)
                  · refine zi_iload_n C d_Md_readStatement_178 rfl 0 rfl ?_
                    refine zi_bipush (v := 58) C d_Md_readStatement_179 (by decide) ?_
                    refine zi_icmp_ne (tgt := 192) C d_Md_readStatement_181 (by decide) hF (fun hF => ?_) (fun hF => ?_)
                    · refine zi_iload_n C d_Md_readStatement_192 rfl 0 rfl ?_
                      obtain ⟨r10, M, hqr10, hF⟩ := zzcall_e hF
                      refine zi_callS_i (M2 := M) (r := r10) (n := 1) (As := [.int r2]) (st := []) C (c_Md_isFunction hqr10 ) zw_107 zw_18 (by decide +kernel) ⟨Nat.le_of_ble_eq_true rfl, Nat.le_of_ble_eq_true rfl⟩ rfl (Nat.le_of_ble_eq_true rfl) ⟨Nat.le_of_ble_eq_true rfl, Nat.le_of_ble_eq_true rfl⟩ zw_108 zw_109 rfl d_Md_readStatement_193 ?_
                      refine zi_if_eq (tgt := 245) C d_Md_readStatement_196 (by decide) hF (fun hF => ?_) (fun hF => ?_)
                      · refine zi_aload_n C d_Md_readStatement_245 rfl 2 rfl ?_
                        refine zi_aload_n C d_Md_readStatement_246 rfl 2 rfl ?_
                        refine zi_getI C zc_9 (k := 16) (by decide) zw_29 rfl hn_v0 hk_v0 d_Md_readStatement_247 (fun _ _ _ => rfl) hF (fun x11 hF => ?_)
                        refine zi_putI C zc_9 (k := 17) (by decide) zw_30 rfl (Or.inl rfl) hn_v0 hk_v0 d_Md_readStatement_250 rfl hF (fun M hF => ?_)
                        exact zi_vret C hlocks hr d_Md_readStatement_253 rfl rfl (by cases hF; rfl) rfl
                      · refine zi_aload_n C d_Md_readStatement_199 rfl 2 rfl ?_
                        refine zi_bipush (v := 18) C d_Md_readStatement_200 (by decide) ?_
                        refine zi_iload_n C d_Md_readStatement_202 rfl 1 rfl ?_
                        obtain ⟨r12, M, hqr12, hF⟩ := zzcall_e hF
                        refine zi_callV_i (M2 := M) (r := r12) (n := 2) (As := [.int (18 : Int32), .int x1]) (st := []) C (c_Md_order hqr12 hn_v0 hk_v0) zw_95 zw_18 (by decide +kernel) ⟨Nat.le_of_ble_eq_true rfl, Nat.le_of_ble_eq_true rfl⟩ rfl (Nat.le_of_ble_eq_true rfl) ⟨Nat.le_of_ble_eq_true rfl, Nat.le_of_ble_eq_true rfl⟩ zw_96 zw_97 zw_98 zc_9.1 hn_v0 hk_v0 rfl d_Md_readStatement_203 ?_
                        refine zi_istore_n (lv' := [(3, .int r12), (2, .int r2), (1, .int x1), (0, .ref (bs + v0))]) C d_Md_readStatement_206 rfl (by decide) rfl ?_
                        refine zi_aload_n C d_Md_readStatement_207 rfl 3 rfl ?_
                        refine zi_getR C zc_9 (k := 8) (by decide) zw_88 rfl hn_v0 hk_v0 d_Md_readStatement_208 (fun _ _ _ => rfl) hF (fun b13 hn_b13 hk_b13 hF => ?_)
                        refine zi_sipush (v := 600) C d_Md_readStatement_211 (by decide) ?_
                        refine zi_aload_n C d_Md_readStatement_214 rfl 3 rfl ?_
                        refine zi_getI C zc_9 (k := 15) (by decide) zw_36 rfl hn_v0 hk_v0 d_Md_readStatement_215 (fun _ _ _ => rfl) hF (fun x14 hF => ?_)
                        refine zi_imul C d_Md_readStatement_218 hF (fun x15 hF => ?_)
                        refine zi_iload_n C d_Md_readStatement_219 rfl 0 rfl ?_
                        refine zi_iadd C d_Md_readStatement_220 hF (fun x16 hF => ?_)
                        refine zi_iload_n C d_Md_readStatement_221 rfl 1 rfl ?_
                        refine zi_bipush (v := 65) C d_Md_readStatement_222 (by decide) ?_
                        refine zi_isub C d_Md_readStatement_224 hF (fun x17 hF => ?_)
                        refine zi_iast C hn_b13 hk_b13 d_Md_readStatement_225 hF (fun M hF => ?_)
                        refine zi_aload_n C d_Md_readStatement_226 rfl 3 rfl ?_
                        refine zi_dup C d_Md_readStatement_227 rfl ?_
                        refine zi_getI C zc_9 (k := 16) (by decide) zw_29 rfl hn_v0 hk_v0 d_Md_readStatement_228 (fun _ _ _ => rfl) hF (fun x18 hF => ?_)
                        refine zi_iconst (v := 1) C d_Md_readStatement_231 (by decide) ?_
                        refine zi_iadd C d_Md_readStatement_232 hF (fun x19 hF => ?_)
                        refine zi_putI C zc_9 (k := 16) (by decide) zw_29 rfl (Or.inl rfl) hn_v0 hk_v0 d_Md_readStatement_233 rfl hF (fun M hF => ?_)
                        refine zi_aload_n C d_Md_readStatement_236 rfl 3 rfl ?_
                        refine zi_bipush (v := 59) C d_Md_readStatement_237 (by decide) ?_
                        obtain ⟨r20, M, hqr20, hF⟩ := zzcall_e hF
                        refine zi_callV_v (M2 := M) (n := 1) (As := [.int (59 : Int32)]) (st := []) C (c_Md_expect hqr20 hn_v0 hk_v0) zw_49 zw_18 (by decide +kernel) ⟨Nat.le_of_ble_eq_true rfl, Nat.le_of_ble_eq_true rfl⟩ rfl (Nat.le_of_ble_eq_true rfl) ⟨Nat.le_of_ble_eq_true rfl, Nat.le_of_ble_eq_true rfl⟩ zw_50 zw_51 zw_52 zc_9.1 hn_v0 hk_v0 rfl d_Md_readStatement_239 ?_
                        refine zi_goto (tgt := 253) C d_Md_readStatement_242 (by decide) ?_
                        exact zi_vret C hlocks hr d_Md_readStatement_253 rfl rfl (by cases hF; rfl) rfl
                    · refine zi_aload_n C d_Md_readStatement_184 rfl 2 rfl ?_
                      refine zi_iload_n C d_Md_readStatement_185 rfl 1 rfl ?_
                      obtain ⟨r21, M, hqr21, hF⟩ := zzcall_e hF
                      refine zi_callV_v (M2 := M) (n := 1) (As := [.int x1]) (st := []) C (c_Md_readFunction hqr21 hn_v0 hk_v0) zw_123 zw_18 (by decide +kernel) ⟨Nat.le_of_ble_eq_true rfl, Nat.le_of_ble_eq_true rfl⟩ rfl (Nat.le_of_ble_eq_true rfl) ⟨Nat.le_of_ble_eq_true rfl, Nat.le_of_ble_eq_true rfl⟩ zw_124 zw_125 zw_126 zc_9.1 hn_v0 hk_v0 rfl d_Md_readStatement_186 ?_
                      refine zi_goto (tgt := 253) C d_Md_readStatement_189 (by decide) ?_
                      exact zi_vret C hlocks hr d_Md_readStatement_253 rfl rfl (by cases hF; rfl) rfl
                  · refine zi_aload_n C d_Md_readStatement_149 rfl 2 rfl ?_
                    refine zi_bipush (v := 9) C d_Md_readStatement_150 (by decide) ?_
                    refine zi_iload_n C d_Md_readStatement_152 rfl 1 rfl ?_
                    obtain ⟨r22, M, hqr22, hF⟩ := zzcall_e hF
                    refine zi_callV_i (M2 := M) (r := r22) (n := 2) (As := [.int (9 : Int32), .int x1]) (st := []) C (c_Md_order hqr22 hn_v0 hk_v0) zw_95 zw_18 (by decide +kernel) ⟨Nat.le_of_ble_eq_true rfl, Nat.le_of_ble_eq_true rfl⟩ rfl (Nat.le_of_ble_eq_true rfl) ⟨Nat.le_of_ble_eq_true rfl, Nat.le_of_ble_eq_true rfl⟩ zw_96 zw_97 zw_98 zc_9.1 hn_v0 hk_v0 rfl d_Md_readStatement_153 ?_
                    refine zi_istore_n (lv' := [(3, .int r22), (2, .int r2), (1, .int x1), (0, .ref (bs + v0))]) C d_Md_readStatement_156 rfl (by decide) rfl ?_
                    refine zi_aload_n C d_Md_readStatement_157 rfl 3 rfl ?_
                    refine zi_dup C d_Md_readStatement_158 rfl ?_
                    refine zi_getI C zc_9 (k := 16) (by decide) zw_29 rfl hn_v0 hk_v0 d_Md_readStatement_159 (fun _ _ _ => rfl) hF (fun x23 hF => ?_)
                    refine zi_iconst (v := 1) C d_Md_readStatement_162 (by decide) ?_
                    refine zi_iadd C d_Md_readStatement_163 hF (fun x24 hF => ?_)
                    refine zi_putI C zc_9 (k := 16) (by decide) zw_29 rfl (Or.inl rfl) hn_v0 hk_v0 d_Md_readStatement_164 rfl hF (fun M hF => ?_)
                    refine zi_aload_n C d_Md_readStatement_167 rfl 3 rfl ?_
                    refine zi_iconst (v := 5) C d_Md_readStatement_168 (by decide) ?_
                    refine zi_bipush (v := 123) C d_Md_readStatement_169 (by decide) ?_
                    refine zi_iload_n C d_Md_readStatement_171 rfl 0 rfl ?_
                    obtain ⟨r25, M, hqr25, hF⟩ := zzcall_e hF
                    refine zi_callV_v (M2 := M) (n := 3) (As := [.int (5 : Int32), .int (123 : Int32), .int r22]) (st := []) C (c_Md_open hqr25 hn_v0 hk_v0) zw_103 zw_18 (by decide +kernel) ⟨Nat.le_of_ble_eq_true rfl, Nat.le_of_ble_eq_true rfl⟩ rfl (Nat.le_of_ble_eq_true rfl) ⟨Nat.le_of_ble_eq_true rfl, Nat.le_of_ble_eq_true rfl⟩ zw_104 zw_105 zw_106 zc_9.1 hn_v0 hk_v0 rfl d_Md_readStatement_172 ?_
                    refine zi_goto (tgt := 253) C d_Md_readStatement_175 (by decide) ?_
                    exact zi_vret C hlocks hr d_Md_readStatement_253 rfl rfl (by cases hF; rfl) rfl
                · refine zi_aload_n C d_Md_readStatement_124 rfl 2 rfl ?_
                  refine zi_bipush (v := 7) C d_Md_readStatement_125 (by decide) ?_
                  refine zi_iload_n C d_Md_readStatement_127 rfl 1 rfl ?_
                  obtain ⟨r26, M, hqr26, hF⟩ := zzcall_e hF
                  refine zi_callV_i (M2 := M) (r := r26) (n := 2) (As := [.int (7 : Int32), .int x1]) (st := []) C (c_Md_order hqr26 hn_v0 hk_v0) zw_95 zw_18 (by decide +kernel) ⟨Nat.le_of_ble_eq_true rfl, Nat.le_of_ble_eq_true rfl⟩ rfl (Nat.le_of_ble_eq_true rfl) ⟨Nat.le_of_ble_eq_true rfl, Nat.le_of_ble_eq_true rfl⟩ zw_96 zw_97 zw_98 zc_9.1 hn_v0 hk_v0 rfl d_Md_readStatement_128 ?_
                  refine zi_istore_n (lv' := [(3, .int r26), (2, .int r2), (1, .int x1), (0, .ref (bs + v0))]) C d_Md_readStatement_131 rfl (by decide) rfl ?_
                  refine zi_aload_n C d_Md_readStatement_132 rfl 3 rfl ?_
                  refine zi_iconst (v := 4) C d_Md_readStatement_133 (by decide) ?_
                  refine zi_bipush (v := 91) C d_Md_readStatement_134 (by decide) ?_
                  refine zi_iload_n C d_Md_readStatement_136 rfl 0 rfl ?_
                  obtain ⟨r27, M, hqr27, hF⟩ := zzcall_e hF
                  refine zi_callV_v (M2 := M) (n := 3) (As := [.int (4 : Int32), .int (91 : Int32), .int r26]) (st := []) C (c_Md_open hqr27 hn_v0 hk_v0) zw_103 zw_18 (by decide +kernel) ⟨Nat.le_of_ble_eq_true rfl, Nat.le_of_ble_eq_true rfl⟩ rfl (Nat.le_of_ble_eq_true rfl) ⟨Nat.le_of_ble_eq_true rfl, Nat.le_of_ble_eq_true rfl⟩ zw_104 zw_105 zw_106 zc_9.1 hn_v0 hk_v0 rfl d_Md_readStatement_137 ?_
                  refine zi_goto (tgt := 253) C d_Md_readStatement_140 (by decide) ?_
                  exact zi_vret C hlocks hr d_Md_readStatement_253 rfl rfl (by cases hF; rfl) rfl
              · refine zi_aload_n C d_Md_readStatement_107 rfl 2 rfl ?_
                refine zi_bipush (v := 6) C d_Md_readStatement_108 (by decide) ?_
                refine zi_iconst (v := 3) C d_Md_readStatement_110 (by decide) ?_
                refine zi_iload_n C d_Md_readStatement_111 rfl 1 rfl ?_
                obtain ⟨r28, M, hqr28, hF⟩ := zzcall_e hF
                refine zi_callV_v (M2 := M) (n := 3) (As := [.int (6 : Int32), .int (3 : Int32), .int x1]) (st := []) C (c_Md_readBlockWith hqr28 hn_v0 hk_v0) zw_127 zw_18 (by decide +kernel) ⟨Nat.le_of_ble_eq_true rfl, Nat.le_of_ble_eq_true rfl⟩ rfl (Nat.le_of_ble_eq_true rfl) ⟨Nat.le_of_ble_eq_true rfl, Nat.le_of_ble_eq_true rfl⟩ zw_128 zw_129 zw_130 zc_9.1 hn_v0 hk_v0 rfl d_Md_readStatement_112 ?_
                refine zi_goto (tgt := 253) C d_Md_readStatement_115 (by decide) ?_
                exact zi_vret C hlocks hr d_Md_readStatement_253 rfl rfl (by cases hF; rfl) rfl
            · refine zi_aload_n C d_Md_readStatement_91 rfl 2 rfl ?_
              refine zi_iconst (v := 5) C d_Md_readStatement_92 (by decide) ?_
              refine zi_iconst (v := 1) C d_Md_readStatement_93 (by decide) ?_
              refine zi_iload_n C d_Md_readStatement_94 rfl 1 rfl ?_
              obtain ⟨r29, M, hqr29, hF⟩ := zzcall_e hF
              refine zi_callV_v (M2 := M) (n := 3) (As := [.int (5 : Int32), .int (1 : Int32), .int x1]) (st := []) C (c_Md_readBlockWith hqr29 hn_v0 hk_v0) zw_127 zw_18 (by decide +kernel) ⟨Nat.le_of_ble_eq_true rfl, Nat.le_of_ble_eq_true rfl⟩ rfl (Nat.le_of_ble_eq_true rfl) ⟨Nat.le_of_ble_eq_true rfl, Nat.le_of_ble_eq_true rfl⟩ zw_128 zw_129 zw_130 zc_9.1 hn_v0 hk_v0 rfl d_Md_readStatement_95 ?_
              refine zi_goto (tgt := 253) C d_Md_readStatement_98 (by decide) ?_
              exact zi_vret C hlocks hr d_Md_readStatement_253 rfl rfl (by cases hF; rfl) rfl
          · refine zi_aload_n C d_Md_readStatement_72 rfl 2 rfl ?_
            refine zi_iload_n C d_Md_readStatement_73 rfl 0 rfl ?_
            obtain ⟨r30, M, hqr30, hF⟩ := zzcall_e hF
            refine zi_callS_i (M2 := M) (r := r30) (n := 1) (As := [.int r2]) (st := [.ref (bs + v0)]) C (c_Md_simpleOf hqr30 ) zw_120 zw_18 (by decide +kernel) ⟨Nat.le_of_ble_eq_true rfl, Nat.le_of_ble_eq_true rfl⟩ rfl (Nat.le_of_ble_eq_true rfl) ⟨Nat.le_of_ble_eq_true rfl, Nat.le_of_ble_eq_true rfl⟩ zw_121 zw_122 rfl d_Md_readStatement_74 ?_
            refine zi_iload_n C d_Md_readStatement_77 rfl 1 rfl ?_
            obtain ⟨r31, M, hqr31, hF⟩ := zzcall_e hF
            refine zi_callV_i (M2 := M) (r := r31) (n := 2) (As := [.int r30, .int x1]) (st := []) C (c_Md_readSimple hqr31 hn_v0 hk_v0) zw_131 zw_18 (by decide +kernel) ⟨Nat.le_of_ble_eq_true rfl, Nat.le_of_ble_eq_true rfl⟩ rfl (Nat.le_of_ble_eq_true rfl) ⟨Nat.le_of_ble_eq_true rfl, Nat.le_of_ble_eq_true rfl⟩ zw_132 zw_133 zw_134 zc_9.1 hn_v0 hk_v0 rfl d_Md_readStatement_78 ?_
            refine zi_pop C d_Md_readStatement_81 rfl ?_
            refine zi_goto (tgt := 253) C d_Md_readStatement_82 (by decide) ?_
            exact zi_vret C hlocks hr d_Md_readStatement_253 rfl rfl (by cases hF; rfl) rfl
        · refine zi_aload_n C d_Md_readStatement_57 rfl 2 rfl ?_
          refine zi_iload_n C d_Md_readStatement_58 rfl 1 rfl ?_
          obtain ⟨r32, M, hqr32, hF⟩ := zzcall_e hF
          refine zi_callV_v (M2 := M) (n := 1) (As := [.int x1]) (st := []) C (c_Md_readSet hqr32 hn_v0 hk_v0) zw_116 zw_18 (by decide +kernel) ⟨Nat.le_of_ble_eq_true rfl, Nat.le_of_ble_eq_true rfl⟩ rfl (Nat.le_of_ble_eq_true rfl) ⟨Nat.le_of_ble_eq_true rfl, Nat.le_of_ble_eq_true rfl⟩ zw_117 zw_118 zw_119 zc_9.1 hn_v0 hk_v0 rfl d_Md_readStatement_59 ?_
          refine zi_goto (tgt := 253) C d_Md_readStatement_62 (by decide) ?_
          exact zi_vret C hlocks hr d_Md_readStatement_253 rfl rfl (by cases hF; rfl) rfl
  · refine zi_aload_n C d_Md_readStatement_19 rfl 2 rfl ?_
    refine zi_aload_n C d_Md_readStatement_20 rfl 2 rfl ?_
    refine zi_getI C zc_9 (k := 16) (by decide) zw_29 rfl hn_v0 hk_v0 d_Md_readStatement_21 (fun _ _ _ => rfl) hF (fun x33 hF => ?_)
    refine zi_putI C zc_9 (k := 17) (by decide) zw_30 rfl (Or.inl rfl) hn_v0 hk_v0 d_Md_readStatement_24 rfl hF (fun M hF => ?_)
    exact zi_vret C hlocks hr d_Md_readStatement_27 rfl rfl (by cases hF; rfl) rfl
def F_Md_isEndHere (S : zzS)  (M : zzM) (v0 : Nat) : Option (Int32 × zzM) := zzlet (zzI M v0 21) fun x1 => if x1 ≤ 0 then (some ((0 : Int32), M)) else (zzcall (F_Md_peek S M v0) fun r2 M => zzref S 1 (zzR M v0 22) fun b3 => zzlet (zzI M v0 21) fun x4 => zzlet (x4 - (1 : Int32)) fun x5 => zzix S b3 x5 (zzlet (zzI M b3 (x5).toNatClampNeg) fun x6 => if x6 = (4 : Int32) then (if r2 = (93 : Int32) then (some ((1 : Int32), M)) else (some ((0 : Int32), M))) else (if r2 = (125 : Int32) then (some ((1 : Int32), M)) else (some ((0 : Int32), M)))))
set_option maxHeartbeats 4000000 in
set_option maxRecDepth 100000 in
theorem c_Md_isEndHere {l : Launch} {D : zzD} {bs : Nat} {A : Nat → Prop} {S : zzS} {M : zzM} {hz : Nat} {out : Int32 × zzM} {v0 : Nat}   (hF : F_Md_isEndHere S  M v0 = some out) (hn_v0 : v0 < S.2.1) (hk_v0 : zzk S v0 = 19) : Met l y_Md_isEndHere (Cond.code y_Md_isEndHere prog_12_method_32_code 1 (some .boolean) :: zzW) { frames := 1, cells := 0, slots := 0, locals := 20 } (zzPc D bs A S M hz [.ref (bs + v0)]) (zzQc D bs A S out.2 hz (some (.int out.1))) 0 0 A := by
  refine zz_met [.ref (bs + v0)] (by decide) (Nat.le_of_ble_eq_true rfl) (fun p e s m args below meth c C hr hlocks hin hsz => ?_)
  refine zz_eq (lv' := [(0, .ref (bs + v0))]) (st' := []) rfl rfl ?_
  unfold F_Md_isEndHere at hF
  refine zi_aload_n C d_Md_isEndHere_0 rfl 0 rfl ?_
  refine zi_getI C zc_9 (k := 21) (by decide) zw_92 rfl hn_v0 hk_v0 d_Md_isEndHere_1 (fun _ _ _ => rfl) hF (fun x1 hF => ?_)
  refine zi_if_le (tgt := 40) C d_Md_isEndHere_4 (by decide) hF (fun hF => ?_) (fun hF => ?_)
  · refine zi_iconst (v := 0) C d_Md_isEndHere_40 (by decide) ?_
    exact zi_zret C hlocks hr (by decide +kernel) d_Md_isEndHere_41 (by cases hF; rfl) rfl (by cases hF; rfl) rfl
  · refine zi_aload_n C d_Md_isEndHere_7 rfl 0 rfl ?_
    obtain ⟨r2, M, hqr2, hF⟩ := zzcall_e hF
    refine zi_callV_i (M2 := M) (r := r2) (n := 0) (As := []) (st := []) C (c_Md_peek hqr2 hn_v0 hk_v0) zw_31 zw_18 (by decide +kernel) ⟨Nat.le_of_ble_eq_true rfl, Nat.le_of_ble_eq_true rfl⟩ rfl (Nat.le_of_ble_eq_true rfl) ⟨Nat.le_of_ble_eq_true rfl, Nat.le_of_ble_eq_true rfl⟩ zw_32 zw_33 zw_34 zc_9.1 hn_v0 hk_v0 rfl d_Md_isEndHere_8 ?_
    refine zi_aload_n C d_Md_isEndHere_11 rfl 0 rfl ?_
    refine zi_getR C zc_9 (k := 22) (by decide) zw_93 rfl hn_v0 hk_v0 d_Md_isEndHere_12 (fun _ _ _ => rfl) hF (fun b3 hn_b3 hk_b3 hF => ?_)
    refine zi_aload_n C d_Md_isEndHere_15 rfl 0 rfl ?_
    refine zi_getI C zc_9 (k := 21) (by decide) zw_92 rfl hn_v0 hk_v0 d_Md_isEndHere_16 (fun _ _ _ => rfl) hF (fun x4 hF => ?_)
    refine zi_iconst (v := 1) C d_Md_isEndHere_19 (by decide) ?_
    refine zi_isub C d_Md_isEndHere_20 hF (fun x5 hF => ?_)
    refine zi_iald C hn_b3 hk_b3 d_Md_isEndHere_21 hF (fun x6 hF => ?_)
    refine zi_iconst (v := 4) C d_Md_isEndHere_22 (by decide) ?_
    refine zi_icmp_ne (tgt := 31) C d_Md_isEndHere_23 (by decide) hF (fun hF => ?_) (fun hF => ?_)
    · refine zi_bipush (v := 125) C d_Md_isEndHere_31 (by decide) ?_
      refine zi_icmp_ne (tgt := 40) C d_Md_isEndHere_33 (by decide) hF (fun hF => ?_) (fun hF => ?_)
      · refine zi_iconst (v := 0) C d_Md_isEndHere_40 (by decide) ?_
        exact zi_zret C hlocks hr (by decide +kernel) d_Md_isEndHere_41 (by cases hF; rfl) rfl (by cases hF; rfl) rfl
      · refine zi_iconst (v := 1) C d_Md_isEndHere_36 (by decide) ?_
        refine zi_goto (tgt := 41) C d_Md_isEndHere_37 (by decide) ?_
        exact zi_zret C hlocks hr (by decide +kernel) d_Md_isEndHere_41 (by cases hF; rfl) rfl (by cases hF; rfl) rfl
    · refine zi_bipush (v := 93) C d_Md_isEndHere_26 (by decide) ?_
      refine zi_goto (tgt := 33) C d_Md_isEndHere_28 (by decide) ?_
      refine zi_icmp_ne (tgt := 40) C d_Md_isEndHere_33 (by decide) hF (fun hF => ?_) (fun hF => ?_)
      · refine zi_iconst (v := 0) C d_Md_isEndHere_40 (by decide) ?_
        exact zi_zret C hlocks hr (by decide +kernel) d_Md_isEndHere_41 (by cases hF; rfl) rfl (by cases hF; rfl) rfl
      · refine zi_iconst (v := 1) C d_Md_isEndHere_36 (by decide) ?_
        refine zi_goto (tgt := 41) C d_Md_isEndHere_37 (by decide) ?_
        exact zi_zret C hlocks hr (by decide +kernel) d_Md_isEndHere_41 (by cases hF; rfl) rfl (by cases hF; rfl) rfl
def F_Md_read_100_b (S : zzS)  (k74 : zzM → Nat → Option (Int32 × zzM)) (k100 : zzM → Nat → Option (Int32 × zzM)) (M : zzM) (v0 : Nat) : Option (Int32 × zzM) := zzcall (F_Md_peek S M v0) fun r1 M => if r1 = (10 : Int32) then (zzlet (zzI M v0 16) fun x9 => zzlet (x9 + (1 : Int32)) fun x10 => zzlet (zzsI M v0 16 x10) fun M => k100 M v0) else (zzcall (F_Md_isEndHere S M v0) fun r2 M => if r2 = 0 then (zzlet (zzI M v0 16) fun x3 => zzlet (zzI M v0 1) fun x4 => if x4 ≤ x3 then (zzlet (zzI M v0 21) fun x5 => if x5 ≤ 0 then (k74 M v0) else (zzlet (zzI M v0 16) fun x6 => zzlet (zzsI M v0 17 x6) fun M => k74 M v0)) else (zzcall (F_Md_readStatement S M v0) fun r7 M => k74 M v0)) else (zzcall (F_Md_close S M v0) fun r8 M => k74 M v0))
def F_Md_read_100 (S : zzS)  (k74 : zzM → Nat → Option (Int32 × zzM)) (n : Nat) : zzM → Nat → Option (Int32 × zzM) := Nat.rec (fun _ _ => none) (fun _ k => F_Md_read_100_b S  k74 k) n
set_option maxHeartbeats 4000000 in
set_option maxRecDepth 100000 in
theorem g_Md_read_100_b {p : Program} {l : Launch} {e : Env} {s : State} {m : MethodId} {args : Array Value} {below : List Frame} {meth : Method} {c : Code} {D : zzD} {bs : Nat} {A : Nat → Prop} {S : zzS} {hz : Nat} {out : Int32 × zzM}  (C : zzC p s m args c prog_12_method_33_code "BoardScriptModel" 3 D) (hlocks : meth.locks = false) (hr : meth.sig.returnType = (some .int)) (hin : meth.name = "read")  {k74 : zzM → Nat → Option (Int32 × zzM)} {k100 : zzM → Nat → Option (Int32 × zzM)} (hk74 : ∀ (M : zzM) (v0 : Nat) (hn_v0 : v0 < S.2.1) (hk_v0 : zzk S v0 = 19), k74 M v0 = some out → zzB p l e { frames := 7, cells := 0, slots := 0, locals := 159 } s m args below meth c 3 D bs A (MQ below (zzQc D bs A S out.2 hz (some (.int out.1))) args s 0 0 A) 0 0 S M hz 74 [(0, .ref (bs + v0))] []) (hk100 : ∀ (M : zzM) (v0 : Nat) (hn_v0 : v0 < S.2.1) (hk_v0 : zzk S v0 = 19), k100 M v0 = some out → zzB p l e { frames := 7, cells := 0, slots := 0, locals := 159 } s m args below meth c 3 D bs A (MQ below (zzQc D bs A S out.2 hz (some (.int out.1))) args s 0 0 A) 0 0 S M hz 100 [(0, .ref (bs + v0))] []) (M : zzM) (v0 : Nat) (hn_v0 : v0 < S.2.1) (hk_v0 : zzk S v0 = 19) (hF : F_Md_read_100_b S  k74 k100 M v0 = some out) : zzB p l e { frames := 7, cells := 0, slots := 0, locals := 159 } s m args below meth c 3 D bs A (MQ below (zzQc D bs A S out.2 hz (some (.int out.1))) args s 0 0 A) 0 0 S M hz 100 [(0, .ref (bs + v0))] [] := by
  unfold F_Md_read_100_b at hF
  refine zi_aload_n C d_Md_read_100 rfl 0 rfl ?_
  obtain ⟨r1, M, hqr1, hF⟩ := zzcall_e hF
  refine zi_callV_i (M2 := M) (r := r1) (n := 0) (As := []) (st := []) C (c_Md_peek hqr1 hn_v0 hk_v0) zw_31 zw_18 (by decide +kernel) ⟨Nat.le_of_ble_eq_true rfl, Nat.le_of_ble_eq_true rfl⟩ rfl (Nat.le_of_ble_eq_true rfl) ⟨Nat.le_of_ble_eq_true rfl, Nat.le_of_ble_eq_true rfl⟩ zw_32 zw_33 zw_34 zc_9.1 hn_v0 hk_v0 rfl d_Md_read_101 ?_
  refine zi_bipush (v := 10) C d_Md_read_104 (by decide) ?_
  refine zi_icmp_ne (tgt := 122) C d_Md_read_106 (by decide) hF (fun hF => ?_) (fun hF => ?_)
  · refine zi_aload_n C d_Md_read_122 rfl 0 rfl ?_
    obtain ⟨r2, M, hqr2, hF⟩ := zzcall_e hF
    refine zi_callV_i (M2 := M) (r := r2) (n := 0) (As := []) (st := []) C (c_Md_isEndHere hqr2 hn_v0 hk_v0) zw_135 zw_18 (by decide +kernel) ⟨Nat.le_of_ble_eq_true rfl, Nat.le_of_ble_eq_true rfl⟩ rfl (Nat.le_of_ble_eq_true rfl) ⟨Nat.le_of_ble_eq_true rfl, Nat.le_of_ble_eq_true rfl⟩ zw_136 zw_137 zw_138 zc_9.1 hn_v0 hk_v0 rfl d_Md_read_123 ?_
    refine zi_if_eq (tgt := 136) C d_Md_read_126 (by decide) hF (fun hF => ?_) (fun hF => ?_)
    · refine zi_aload_n C d_Md_read_136 rfl 0 rfl ?_
      refine zi_getI C zc_9 (k := 16) (by decide) zw_29 rfl hn_v0 hk_v0 d_Md_read_137 (fun _ _ _ => rfl) hF (fun x3 hF => ?_)
      refine zi_aload_n C d_Md_read_140 rfl 0 rfl ?_
      refine zi_getI C zc_9 (k := 1) (by decide) zw_11 rfl hn_v0 hk_v0 d_Md_read_141 (fun _ _ _ => rfl) hF (fun x4 hF => ?_)
      refine zi_icmp_ge (tgt := 154) C d_Md_read_144 (by decide) hF (fun hF => ?_) (fun hF => ?_)
      · refine zi_aload_n C d_Md_read_154 rfl 0 rfl ?_
        refine zi_getI C zc_9 (k := 21) (by decide) zw_92 rfl hn_v0 hk_v0 d_Md_read_155 (fun _ _ _ => rfl) hF (fun x5 hF => ?_)
        refine zi_if_le (tgt := 74) C d_Md_read_158 (by decide) hF (fun hF => ?_) (fun hF => ?_)
        · refine zz_sub [0] (lv' := [(0, .ref (bs + v0))]) rfl ?_
          exact hk74 _ v0 hn_v0 hk_v0 hF
        · refine zi_aload_n C d_Md_read_161 rfl 0 rfl ?_
          refine zi_aload_n C d_Md_read_162 rfl 0 rfl ?_
          refine zi_getI C zc_9 (k := 16) (by decide) zw_29 rfl hn_v0 hk_v0 d_Md_read_163 (fun _ _ _ => rfl) hF (fun x6 hF => ?_)
          refine zi_putI C zc_9 (k := 17) (by decide) zw_30 rfl (Or.inl rfl) hn_v0 hk_v0 d_Md_read_166 rfl hF (fun M hF => ?_)
          refine zi_goto (tgt := 74) C d_Md_read_169 (by decide) ?_
          refine zz_sub [0] (lv' := [(0, .ref (bs + v0))]) rfl ?_
          exact hk74 _ v0 hn_v0 hk_v0 hF
      · refine zi_aload_n C d_Md_read_147 rfl 0 rfl ?_
        obtain ⟨r7, M, hqr7, hF⟩ := zzcall_e hF
        refine zi_callV_v (M2 := M) (n := 0) (As := []) (st := []) C (c_Md_readStatement hqr7 hn_v0 hk_v0) zw_139 zw_18 (by decide +kernel) ⟨Nat.le_of_ble_eq_true rfl, Nat.le_of_ble_eq_true rfl⟩ rfl (Nat.le_of_ble_eq_true rfl) ⟨Nat.le_of_ble_eq_true rfl, Nat.le_of_ble_eq_true rfl⟩ zw_140 zw_141 zw_142 zc_9.1 hn_v0 hk_v0 rfl d_Md_read_148 ?_
        refine zi_goto (tgt := 74) C d_Md_read_151 (by decide) ?_
        refine zz_sub [0] (lv' := [(0, .ref (bs + v0))]) rfl ?_
        exact hk74 _ v0 hn_v0 hk_v0 hF
    · refine zi_aload_n C d_Md_read_129 rfl 0 rfl ?_
      obtain ⟨r8, M, hqr8, hF⟩ := zzcall_e hF
      refine zi_callV_v (M2 := M) (n := 0) (As := []) (st := []) C (c_Md_close hqr8 hn_v0 hk_v0) zw_143 zw_18 (by decide +kernel) ⟨Nat.le_of_ble_eq_true rfl, Nat.le_of_ble_eq_true rfl⟩ rfl (Nat.le_of_ble_eq_true rfl) ⟨Nat.le_of_ble_eq_true rfl, Nat.le_of_ble_eq_true rfl⟩ zw_144 zw_145 zw_146 zc_9.1 hn_v0 hk_v0 rfl d_Md_read_130 ?_
      refine zi_goto (tgt := 74) C d_Md_read_133 (by decide) ?_
      refine zz_sub [0] (lv' := [(0, .ref (bs + v0))]) rfl ?_
      exact hk74 _ v0 hn_v0 hk_v0 hF
  · refine zi_aload_n C d_Md_read_109 rfl 0 rfl ?_
    refine zi_dup C d_Md_read_110 rfl ?_
    refine zi_getI C zc_9 (k := 16) (by decide) zw_29 rfl hn_v0 hk_v0 d_Md_read_111 (fun _ _ _ => rfl) hF (fun x9 hF => ?_)
    refine zi_iconst (v := 1) C d_Md_read_114 (by decide) ?_
    refine zi_iadd C d_Md_read_115 hF (fun x10 hF => ?_)
    refine zi_putI C zc_9 (k := 16) (by decide) zw_29 rfl (Or.inl rfl) hn_v0 hk_v0 d_Md_read_116 rfl hF (fun M hF => ?_)
    refine zi_goto (tgt := 100) C d_Md_read_119 (by decide) ?_
    refine zz_sub [0] (lv' := [(0, .ref (bs + v0))]) rfl ?_
    exact hk100 _ v0 hn_v0 hk_v0 hF
set_option maxHeartbeats 4000000 in
set_option maxRecDepth 100000 in
theorem g_Md_read_100 {p : Program} {l : Launch} {e : Env} {s : State} {m : MethodId} {args : Array Value} {below : List Frame} {meth : Method} {c : Code} {D : zzD} {bs : Nat} {A : Nat → Prop} {S : zzS} {hz : Nat} {out : Int32 × zzM}  (C : zzC p s m args c prog_12_method_33_code "BoardScriptModel" 3 D) (hlocks : meth.locks = false) (hr : meth.sig.returnType = (some .int)) (hin : meth.name = "read")  {k74 : zzM → Nat → Option (Int32 × zzM)} (hk74 : ∀ (M : zzM) (v0 : Nat) (hn_v0 : v0 < S.2.1) (hk_v0 : zzk S v0 = 19), k74 M v0 = some out → zzB p l e { frames := 7, cells := 0, slots := 0, locals := 159 } s m args below meth c 3 D bs A (MQ below (zzQc D bs A S out.2 hz (some (.int out.1))) args s 0 0 A) 0 0 S M hz 74 [(0, .ref (bs + v0))] []) : ∀ (n : Nat) (M : zzM) (v0 : Nat) (hn_v0 : v0 < S.2.1) (hk_v0 : zzk S v0 = 19) (hF : F_Md_read_100 S  k74 n M v0 = some out), zzB p l e { frames := 7, cells := 0, slots := 0, locals := 159 } s m args below meth c 3 D bs A (MQ below (zzQc D bs A S out.2 hz (some (.int out.1))) args s 0 0 A) 0 0 S M hz 100 [(0, .ref (bs + v0))] [] := by
  intro n
  induction n with
  | zero => intro M v0 hn_v0 hk_v0 hF; cases hF
  | succ n ih => intro M v0 hn_v0 hk_v0 hF; exact g_Md_read_100_b C hlocks hr hin  hk74 ih M v0 hn_v0 hk_v0 hF
def F_Md_read_207_b (S : zzS)  (k207 : zzM → Nat → Int32 → Int32 → Option (Int32 × zzM)) (M : zzM) (v0 : Nat) (v1 : Int32) (v2 : Int32) : Option (Int32 × zzM) := if v1 ≤ v2 then (zzref S 1 (zzR M v0 4) fun b1 => zzlet (zzI M v0 15) fun x2 => zzix S b1 x2 (zzlet (zzsI M b1 (x2).toNatClampNeg v1) fun M => zzlet (zzI M v0 15) fun x3 => zzlet (zzsI M v0 3 x3) fun M => zzcall (F_Md_forget S M v0) fun r4 M => zzlet (zzI M v0 20) fun x5 => some (x5, M))) else (zzref S 1 (zzR M v0 5) fun b6 => zzlet (zzI M v0 15) fun x7 => zzlet ((400 : Int32) * x7) fun x8 => zzlet (x8 + v2) fun x9 => zzref S 1 (zzR M v0 2) fun b10 => zzix S b10 v2 (zzlet (zzI M b10 (v2).toNatClampNeg) fun x11 => zzix S b6 x9 (zzlet (zzsI M b6 (x9).toNatClampNeg x11) fun M => zzlet (v2 + (1 : Int32)) fun x12 => k207 M v0 v1 x12)))
def F_Md_read_207 (S : zzS)   (n : Nat) : zzM → Nat → Int32 → Int32 → Option (Int32 × zzM) := Nat.rec (fun _ _ _ _ => none) (fun _ k => F_Md_read_207_b S   k) n
set_option maxHeartbeats 4000000 in
set_option maxRecDepth 100000 in
theorem g_Md_read_207_b {p : Program} {l : Launch} {e : Env} {s : State} {m : MethodId} {args : Array Value} {below : List Frame} {meth : Method} {c : Code} {D : zzD} {bs : Nat} {A : Nat → Prop} {S : zzS} {hz : Nat} {out : Int32 × zzM}  (C : zzC p s m args c prog_12_method_33_code "BoardScriptModel" 3 D) (hlocks : meth.locks = false) (hr : meth.sig.returnType = (some .int)) (hin : meth.name = "read")  {k207 : zzM → Nat → Int32 → Int32 → Option (Int32 × zzM)} (hk207 : ∀ (M : zzM) (v0 : Nat) (v1 : Int32) (v2 : Int32) (hn_v0 : v0 < S.2.1) (hk_v0 : zzk S v0 = 19), k207 M v0 v1 v2 = some out → zzB p l e { frames := 7, cells := 0, slots := 0, locals := 159 } s m args below meth c 3 D bs A (MQ below (zzQc D bs A S out.2 hz (some (.int out.1))) args s 0 0 A) 0 0 S M hz 207 [(0, .ref (bs + v0)), (1, .int v1), (2, .int v2)] []) (M : zzM) (v0 : Nat) (v1 : Int32) (v2 : Int32) (hn_v0 : v0 < S.2.1) (hk_v0 : zzk S v0 = 19) (hF : F_Md_read_207_b S  k207 M v0 v1 v2 = some out) : zzB p l e { frames := 7, cells := 0, slots := 0, locals := 159 } s m args below meth c 3 D bs A (MQ below (zzQc D bs A S out.2 hz (some (.int out.1))) args s 0 0 A) 0 0 S M hz 207 [(0, .ref (bs + v0)), (1, .int v1), (2, .int v2)] [] := by
  unfold F_Md_read_207_b at hF
  refine zi_iload_n C d_Md_read_207 rfl 2 rfl ?_
  refine zi_iload_n C d_Md_read_208 rfl 1 rfl ?_
  refine zi_icmp_ge (tgt := 239) C d_Md_read_209 (by decide) hF (fun hF => ?_) (fun hF => ?_)
  · refine zi_aload_n C d_Md_read_239 rfl 0 rfl ?_
    refine zi_getR C zc_9 (k := 4) (by decide) zw_22 rfl hn_v0 hk_v0 d_Md_read_240 (fun _ _ _ => rfl) hF (fun b1 hn_b1 hk_b1 hF => ?_)
    refine zi_aload_n C d_Md_read_243 rfl 0 rfl ?_
    refine zi_getI C zc_9 (k := 15) (by decide) zw_36 rfl hn_v0 hk_v0 d_Md_read_244 (fun _ _ _ => rfl) hF (fun x2 hF => ?_)
    refine zi_iload_n C d_Md_read_247 rfl 1 rfl ?_
    refine zi_iast C hn_b1 hk_b1 d_Md_read_248 hF (fun M hF => ?_)
    refine zi_aload_n C d_Md_read_249 rfl 0 rfl ?_
    refine zi_aload_n C d_Md_read_250 rfl 0 rfl ?_
    refine zi_getI C zc_9 (k := 15) (by decide) zw_36 rfl hn_v0 hk_v0 d_Md_read_251 (fun _ _ _ => rfl) hF (fun x3 hF => ?_)
    refine zi_putI C zc_9 (k := 3) (by decide) zw_16 rfl (Or.inl rfl) hn_v0 hk_v0 d_Md_read_254 rfl hF (fun M hF => ?_)
    refine zi_aload_n C d_Md_read_257 rfl 0 rfl ?_
    obtain ⟨r4, M, hqr4, hF⟩ := zzcall_e hF
    refine zi_callV_v (M2 := M) (n := 0) (As := []) (st := []) C (c_Md_forget hqr4 hn_v0 hk_v0) zw_17 zw_18 (by decide +kernel) ⟨Nat.le_of_ble_eq_true rfl, Nat.le_of_ble_eq_true rfl⟩ rfl (Nat.le_of_ble_eq_true rfl) ⟨Nat.le_of_ble_eq_true rfl, Nat.le_of_ble_eq_true rfl⟩ zw_19 zw_20 zw_21 zc_9.1 hn_v0 hk_v0 rfl d_Md_read_258 ?_
    refine zi_aload_n C d_Md_read_261 rfl 0 rfl ?_
    refine zi_getI C zc_9 (k := 20) (by decide) zw_115 rfl hn_v0 hk_v0 d_Md_read_262 (fun _ _ _ => rfl) hF (fun x5 hF => ?_)
    exact zi_iret C hlocks hr d_Md_read_265 (by cases hF; rfl) rfl (by cases hF; rfl) rfl
  · refine zi_aload_n C d_Md_read_212 rfl 0 rfl ?_
    refine zi_getR C zc_9 (k := 5) (by decide) zw_147 rfl hn_v0 hk_v0 d_Md_read_213 (fun _ _ _ => rfl) hF (fun b6 hn_b6 hk_b6 hF => ?_)
    refine zi_sipush (v := 400) C d_Md_read_216 (by decide) ?_
    refine zi_aload_n C d_Md_read_219 rfl 0 rfl ?_
    refine zi_getI C zc_9 (k := 15) (by decide) zw_36 rfl hn_v0 hk_v0 d_Md_read_220 (fun _ _ _ => rfl) hF (fun x7 hF => ?_)
    refine zi_imul C d_Md_read_223 hF (fun x8 hF => ?_)
    refine zi_iload_n C d_Md_read_224 rfl 2 rfl ?_
    refine zi_iadd C d_Md_read_225 hF (fun x9 hF => ?_)
    refine zi_aload_n C d_Md_read_226 rfl 0 rfl ?_
    refine zi_getR C zc_9 (k := 2) (by decide) zw_28 rfl hn_v0 hk_v0 d_Md_read_227 (fun _ _ _ => rfl) hF (fun b10 hn_b10 hk_b10 hF => ?_)
    refine zi_iload_n C d_Md_read_230 rfl 2 rfl ?_
    refine zi_iald C hn_b10 hk_b10 d_Md_read_231 hF (fun x11 hF => ?_)
    refine zi_iast C hn_b6 hk_b6 d_Md_read_232 hF (fun M hF => ?_)
    refine zi_iinc (j := 2) (v0 := 1) C d_Md_read_233 rfl (by decide) (by decide) hF (fun x12 => [(2, .int x12), (0, .ref (bs + v0)), (1, .int v1)]) (fun _ => rfl) (fun x12 hF => ?_)
    refine zi_goto (tgt := 207) C d_Md_read_236 (by decide) ?_
    refine zz_sub [1, 2, 0] (lv' := [(0, .ref (bs + v0)), (1, .int v1), (2, .int x12)]) rfl ?_
    exact hk207 _ v0 v1 x12 hn_v0 hk_v0 hF
set_option maxHeartbeats 4000000 in
set_option maxRecDepth 100000 in
theorem g_Md_read_207 {p : Program} {l : Launch} {e : Env} {s : State} {m : MethodId} {args : Array Value} {below : List Frame} {meth : Method} {c : Code} {D : zzD} {bs : Nat} {A : Nat → Prop} {S : zzS} {hz : Nat} {out : Int32 × zzM}  (C : zzC p s m args c prog_12_method_33_code "BoardScriptModel" 3 D) (hlocks : meth.locks = false) (hr : meth.sig.returnType = (some .int)) (hin : meth.name = "read")    : ∀ (n : Nat) (M : zzM) (v0 : Nat) (v1 : Int32) (v2 : Int32) (hn_v0 : v0 < S.2.1) (hk_v0 : zzk S v0 = 19) (hF : F_Md_read_207 S   n M v0 v1 v2 = some out), zzB p l e { frames := 7, cells := 0, slots := 0, locals := 159 } s m args below meth c 3 D bs A (MQ below (zzQc D bs A S out.2 hz (some (.int out.1))) args s 0 0 A) 0 0 S M hz 207 [(0, .ref (bs + v0)), (1, .int v1), (2, .int v2)] [] := by
  intro n
  induction n with
  | zero => intro M v0 v1 v2 hn_v0 hk_v0 hF; cases hF
  | succ n ih => intro M v0 v1 v2 hn_v0 hk_v0 hF; exact g_Md_read_207_b C hlocks hr hin   ih M v0 v1 v2 hn_v0 hk_v0 hF
def F_Md_read_172 (S : zzS)   (M : zzM) (v0 : Nat) : Option (Int32 × zzM) := zzlet (zzI M v0 1) fun x1 => zzlet (zzsI M v0 1 (0 : Int32)) fun M => zzlet (zzI M v0 17) fun x2 => if x2 = (-1 : Int32) then (zzcall (F_Md_order S M v0 (20 : Int32) (0 : Int32)) fun r3 M => F_Md_read_207 S   2000 M v0 x1 (0 : Int32)) else (zzlet (zzI M v0 17) fun x4 => zzlet ((-1 : Int32) - x4) fun x5 => some (x5, M))
set_option maxHeartbeats 4000000 in
set_option maxRecDepth 100000 in
theorem g_Md_read_172 {p : Program} {l : Launch} {e : Env} {s : State} {m : MethodId} {args : Array Value} {below : List Frame} {meth : Method} {c : Code} {D : zzD} {bs : Nat} {A : Nat → Prop} {S : zzS} {hz : Nat} {out : Int32 × zzM}  (C : zzC p s m args c prog_12_method_33_code "BoardScriptModel" 3 D) (hlocks : meth.locks = false) (hr : meth.sig.returnType = (some .int)) (hin : meth.name = "read")    (M : zzM) (v0 : Nat) (hn_v0 : v0 < S.2.1) (hk_v0 : zzk S v0 = 19) (hF : F_Md_read_172 S   M v0 = some out) : zzB p l e { frames := 7, cells := 0, slots := 0, locals := 159 } s m args below meth c 3 D bs A (MQ below (zzQc D bs A S out.2 hz (some (.int out.1))) args s 0 0 A) 0 0 S M hz 172 [(0, .ref (bs + v0))] [] := by
  unfold F_Md_read_172 at hF
  refine zi_aload_n C d_Md_read_172 rfl 0 rfl ?_
  refine zi_getI C zc_9 (k := 1) (by decide) zw_11 rfl hn_v0 hk_v0 d_Md_read_173 (fun _ _ _ => rfl) hF (fun x1 hF => ?_)
  refine zi_istore_n (lv' := [(1, .int x1), (0, .ref (bs + v0))]) C d_Md_read_176 rfl (by decide) rfl ?_
  refine zi_aload_n C d_Md_read_177 rfl 1 rfl ?_
  refine zi_iconst (v := 0) C d_Md_read_178 (by decide) ?_
  refine zi_putI C zc_9 (k := 1) (by decide) zw_11 rfl (Or.inl rfl) hn_v0 hk_v0 d_Md_read_179 rfl hF (fun M hF => ?_)
  refine zi_aload_n C d_Md_read_182 rfl 1 rfl ?_
  refine zi_getI C zc_9 (k := 17) (by decide) zw_30 rfl hn_v0 hk_v0 d_Md_read_183 (fun _ _ _ => rfl) hF (fun x2 hF => ?_)
  refine zi_iconst (v := -1) C d_Md_read_186 (by decide) ?_
  refine zi_icmp_eq (tgt := 197) C d_Md_read_187 (by decide) hF (fun hF => ?_) (fun hF => ?_)
  · refine zi_aload_n C d_Md_read_197 rfl 1 rfl ?_
    refine zi_bipush (v := 20) C d_Md_read_198 (by decide) ?_
    refine zi_iconst (v := 0) C d_Md_read_200 (by decide) ?_
    obtain ⟨r3, M, hqr3, hF⟩ := zzcall_e hF
    refine zi_callV_i (M2 := M) (r := r3) (n := 2) (As := [.int (20 : Int32), .int (0 : Int32)]) (st := []) C (c_Md_order hqr3 hn_v0 hk_v0) zw_95 zw_18 (by decide +kernel) ⟨Nat.le_of_ble_eq_true rfl, Nat.le_of_ble_eq_true rfl⟩ rfl (Nat.le_of_ble_eq_true rfl) ⟨Nat.le_of_ble_eq_true rfl, Nat.le_of_ble_eq_true rfl⟩ zw_96 zw_97 zw_98 zc_9.1 hn_v0 hk_v0 rfl d_Md_read_201 ?_
    refine zi_pop C d_Md_read_204 rfl ?_
    refine zi_iconst (v := 0) C d_Md_read_205 (by decide) ?_
    refine zi_istore_n (lv' := [(2, .int (0 : Int32)), (1, .int x1), (0, .ref (bs + v0))]) C d_Md_read_206 rfl (by decide) rfl ?_
    refine zz_sub [2, 1, 0] (lv' := [(0, .ref (bs + v0)), (1, .int x1), (2, .int (0 : Int32))]) rfl ?_
    exact g_Md_read_207 C hlocks hr hin   _ _ v0 x1 (0 : Int32) hn_v0 hk_v0 hF
  · refine zi_iconst (v := -1) C d_Md_read_190 (by decide) ?_
    refine zi_aload_n C d_Md_read_191 rfl 1 rfl ?_
    refine zi_getI C zc_9 (k := 17) (by decide) zw_30 rfl hn_v0 hk_v0 d_Md_read_192 (fun _ _ _ => rfl) hF (fun x4 hF => ?_)
    refine zi_isub C d_Md_read_195 hF (fun x5 hF => ?_)
    exact zi_iret C hlocks hr d_Md_read_196 (by cases hF; rfl) rfl (by cases hF; rfl) rfl
def F_Md_read_74_b (S : zzS)  (k74 : zzM → Nat → Option (Int32 × zzM)) (M : zzM) (v0 : Nat) : Option (Int32 × zzM) := zzlet (zzI M v0 17) fun x1 => if x1 = (-1 : Int32) then (zzlet (zzI M v0 16) fun x2 => zzlet (zzI M v0 1) fun x3 => if x2 < x3 then (F_Md_read_100 S  k74 2000 M v0) else (zzlet (zzI M v0 21) fun x4 => if x4 ≤ 0 then (F_Md_read_172 S   M v0) else (F_Md_read_100 S  k74 2000 M v0))) else (F_Md_read_172 S   M v0)
def F_Md_read_74 (S : zzS)   (n : Nat) : zzM → Nat → Option (Int32 × zzM) := Nat.rec (fun _ _ => none) (fun _ k => F_Md_read_74_b S   k) n
set_option maxHeartbeats 4000000 in
set_option maxRecDepth 100000 in
theorem g_Md_read_74_b {p : Program} {l : Launch} {e : Env} {s : State} {m : MethodId} {args : Array Value} {below : List Frame} {meth : Method} {c : Code} {D : zzD} {bs : Nat} {A : Nat → Prop} {S : zzS} {hz : Nat} {out : Int32 × zzM}  (C : zzC p s m args c prog_12_method_33_code "BoardScriptModel" 3 D) (hlocks : meth.locks = false) (hr : meth.sig.returnType = (some .int)) (hin : meth.name = "read")  {k74 : zzM → Nat → Option (Int32 × zzM)} (hk74 : ∀ (M : zzM) (v0 : Nat) (hn_v0 : v0 < S.2.1) (hk_v0 : zzk S v0 = 19), k74 M v0 = some out → zzB p l e { frames := 7, cells := 0, slots := 0, locals := 159 } s m args below meth c 3 D bs A (MQ below (zzQc D bs A S out.2 hz (some (.int out.1))) args s 0 0 A) 0 0 S M hz 74 [(0, .ref (bs + v0))] []) (M : zzM) (v0 : Nat) (hn_v0 : v0 < S.2.1) (hk_v0 : zzk S v0 = 19) (hF : F_Md_read_74_b S  k74 M v0 = some out) : zzB p l e { frames := 7, cells := 0, slots := 0, locals := 159 } s m args below meth c 3 D bs A (MQ below (zzQc D bs A S out.2 hz (some (.int out.1))) args s 0 0 A) 0 0 S M hz 74 [(0, .ref (bs + v0))] [] := by
  unfold F_Md_read_74_b at hF
  refine zi_aload_n C d_Md_read_74 rfl 0 rfl ?_
  refine zi_getI C zc_9 (k := 17) (by decide) zw_30 rfl hn_v0 hk_v0 d_Md_read_75 (fun _ _ _ => rfl) hF (fun x1 hF => ?_)
  refine zi_iconst (v := -1) C d_Md_read_78 (by decide) ?_
  refine zi_icmp_ne (tgt := 172) C d_Md_read_79 (by decide) hF (fun hF => ?_) (fun hF => ?_)
  · refine zz_sub [0] (lv' := [(0, .ref (bs + v0))]) rfl ?_
    exact g_Md_read_172 C hlocks hr hin   _ v0 hn_v0 hk_v0 hF
  · refine zi_aload_n C d_Md_read_82 rfl 0 rfl ?_
    refine zi_getI C zc_9 (k := 16) (by decide) zw_29 rfl hn_v0 hk_v0 d_Md_read_83 (fun _ _ _ => rfl) hF (fun x2 hF => ?_)
    refine zi_aload_n C d_Md_read_86 rfl 0 rfl ?_
    refine zi_getI C zc_9 (k := 1) (by decide) zw_11 rfl hn_v0 hk_v0 d_Md_read_87 (fun _ _ _ => rfl) hF (fun x3 hF => ?_)
    refine zi_icmp_lt (tgt := 100) C d_Md_read_90 (by decide) hF (fun hF => ?_) (fun hF => ?_)
    · refine zz_sub [0] (lv' := [(0, .ref (bs + v0))]) rfl ?_
      exact g_Md_read_100 C hlocks hr hin  hk74 _ _ v0 hn_v0 hk_v0 hF
    · refine zi_aload_n C d_Md_read_93 rfl 0 rfl ?_
      refine zi_getI C zc_9 (k := 21) (by decide) zw_92 rfl hn_v0 hk_v0 d_Md_read_94 (fun _ _ _ => rfl) hF (fun x4 hF => ?_)
      refine zi_if_le (tgt := 172) C d_Md_read_97 (by decide) hF (fun hF => ?_) (fun hF => ?_)
      · refine zz_sub [0] (lv' := [(0, .ref (bs + v0))]) rfl ?_
        exact g_Md_read_172 C hlocks hr hin   _ v0 hn_v0 hk_v0 hF
      · refine zz_sub [0] (lv' := [(0, .ref (bs + v0))]) rfl ?_
        exact g_Md_read_100 C hlocks hr hin  hk74 _ _ v0 hn_v0 hk_v0 hF
set_option maxHeartbeats 4000000 in
set_option maxRecDepth 100000 in
theorem g_Md_read_74 {p : Program} {l : Launch} {e : Env} {s : State} {m : MethodId} {args : Array Value} {below : List Frame} {meth : Method} {c : Code} {D : zzD} {bs : Nat} {A : Nat → Prop} {S : zzS} {hz : Nat} {out : Int32 × zzM}  (C : zzC p s m args c prog_12_method_33_code "BoardScriptModel" 3 D) (hlocks : meth.locks = false) (hr : meth.sig.returnType = (some .int)) (hin : meth.name = "read")    : ∀ (n : Nat) (M : zzM) (v0 : Nat) (hn_v0 : v0 < S.2.1) (hk_v0 : zzk S v0 = 19) (hF : F_Md_read_74 S   n M v0 = some out), zzB p l e { frames := 7, cells := 0, slots := 0, locals := 159 } s m args below meth c 3 D bs A (MQ below (zzQc D bs A S out.2 hz (some (.int out.1))) args s 0 0 A) 0 0 S M hz 74 [(0, .ref (bs + v0))] [] := by
  intro n
  induction n with
  | zero => intro M v0 hn_v0 hk_v0 hF; cases hF
  | succ n ih => intro M v0 hn_v0 hk_v0 hF; exact g_Md_read_74_b C hlocks hr hin   ih M v0 hn_v0 hk_v0 hF
def F_Md_read_47_b (S : zzS)  (k47 : zzM → Nat → Int32 → Option (Int32 × zzM)) (M : zzM) (v0 : Nat) (v1 : Int32) : Option (Int32 × zzM) := if (26 : Int32) ≤ v1 then (F_Md_read_74 S   2000 M v0) else (zzref S 1 (zzR M v0 12) fun b1 => zzlet (zzI M v0 15) fun x2 => zzlet ((26 : Int32) * x2) fun x3 => zzlet (x3 + v1) fun x4 => zzix S b1 x4 (zzlet (zzsI M b1 (x4).toNatClampNeg (-1 : Int32)) fun M => zzlet (v1 + (1 : Int32)) fun x5 => k47 M v0 x5))
def F_Md_read_47 (S : zzS)   (n : Nat) : zzM → Nat → Int32 → Option (Int32 × zzM) := Nat.rec (fun _ _ _ => none) (fun _ k => F_Md_read_47_b S   k) n
set_option maxHeartbeats 4000000 in
set_option maxRecDepth 100000 in
theorem g_Md_read_47_b {p : Program} {l : Launch} {e : Env} {s : State} {m : MethodId} {args : Array Value} {below : List Frame} {meth : Method} {c : Code} {D : zzD} {bs : Nat} {A : Nat → Prop} {S : zzS} {hz : Nat} {out : Int32 × zzM}  (C : zzC p s m args c prog_12_method_33_code "BoardScriptModel" 3 D) (hlocks : meth.locks = false) (hr : meth.sig.returnType = (some .int)) (hin : meth.name = "read")  {k47 : zzM → Nat → Int32 → Option (Int32 × zzM)} (hk47 : ∀ (M : zzM) (v0 : Nat) (v1 : Int32) (hn_v0 : v0 < S.2.1) (hk_v0 : zzk S v0 = 19), k47 M v0 v1 = some out → zzB p l e { frames := 7, cells := 0, slots := 0, locals := 159 } s m args below meth c 3 D bs A (MQ below (zzQc D bs A S out.2 hz (some (.int out.1))) args s 0 0 A) 0 0 S M hz 47 [(0, .ref (bs + v0)), (1, .int v1)] []) (M : zzM) (v0 : Nat) (v1 : Int32) (hn_v0 : v0 < S.2.1) (hk_v0 : zzk S v0 = 19) (hF : F_Md_read_47_b S  k47 M v0 v1 = some out) : zzB p l e { frames := 7, cells := 0, slots := 0, locals := 159 } s m args below meth c 3 D bs A (MQ below (zzQc D bs A S out.2 hz (some (.int out.1))) args s 0 0 A) 0 0 S M hz 47 [(0, .ref (bs + v0)), (1, .int v1)] [] := by
  unfold F_Md_read_47_b at hF
  refine zi_iload_n C d_Md_read_47 rfl 1 rfl ?_
  refine zi_bipush (v := 26) C d_Md_read_48 (by decide) ?_
  refine zi_icmp_ge (tgt := 74) C d_Md_read_50 (by decide) hF (fun hF => ?_) (fun hF => ?_)
  · refine zz_sub [0] (lv' := [(0, .ref (bs + v0))]) rfl ?_
    exact g_Md_read_74 C hlocks hr hin   _ _ v0 hn_v0 hk_v0 hF
  · refine zi_aload_n C d_Md_read_53 rfl 0 rfl ?_
    refine zi_getR C zc_9 (k := 12) (by decide) zw_110 rfl hn_v0 hk_v0 d_Md_read_54 (fun _ _ _ => rfl) hF (fun b1 hn_b1 hk_b1 hF => ?_)
    refine zi_bipush (v := 26) C d_Md_read_57 (by decide) ?_
    refine zi_aload_n C d_Md_read_59 rfl 0 rfl ?_
    refine zi_getI C zc_9 (k := 15) (by decide) zw_36 rfl hn_v0 hk_v0 d_Md_read_60 (fun _ _ _ => rfl) hF (fun x2 hF => ?_)
    refine zi_imul C d_Md_read_63 hF (fun x3 hF => ?_)
    refine zi_iload_n C d_Md_read_64 rfl 1 rfl ?_
    refine zi_iadd C d_Md_read_65 hF (fun x4 hF => ?_)
    refine zi_iconst (v := -1) C d_Md_read_66 (by decide) ?_
    refine zi_iast C hn_b1 hk_b1 d_Md_read_67 hF (fun M hF => ?_)
    refine zi_iinc (j := 1) (v0 := 1) C d_Md_read_68 rfl (by decide) (by decide) hF (fun x5 => [(1, .int x5), (0, .ref (bs + v0))]) (fun _ => rfl) (fun x5 hF => ?_)
    refine zi_goto (tgt := 47) C d_Md_read_71 (by decide) ?_
    refine zz_sub [1, 0] (lv' := [(0, .ref (bs + v0)), (1, .int x5)]) rfl ?_
    exact hk47 _ v0 x5 hn_v0 hk_v0 hF
set_option maxHeartbeats 4000000 in
set_option maxRecDepth 100000 in
theorem g_Md_read_47 {p : Program} {l : Launch} {e : Env} {s : State} {m : MethodId} {args : Array Value} {below : List Frame} {meth : Method} {c : Code} {D : zzD} {bs : Nat} {A : Nat → Prop} {S : zzS} {hz : Nat} {out : Int32 × zzM}  (C : zzC p s m args c prog_12_method_33_code "BoardScriptModel" 3 D) (hlocks : meth.locks = false) (hr : meth.sig.returnType = (some .int)) (hin : meth.name = "read")    : ∀ (n : Nat) (M : zzM) (v0 : Nat) (v1 : Int32) (hn_v0 : v0 < S.2.1) (hk_v0 : zzk S v0 = 19) (hF : F_Md_read_47 S   n M v0 v1 = some out), zzB p l e { frames := 7, cells := 0, slots := 0, locals := 159 } s m args below meth c 3 D bs A (MQ below (zzQc D bs A S out.2 hz (some (.int out.1))) args s 0 0 A) 0 0 S M hz 47 [(0, .ref (bs + v0)), (1, .int v1)] [] := by
  intro n
  induction n with
  | zero => intro M v0 v1 hn_v0 hk_v0 hF; cases hF
  | succ n ih => intro M v0 v1 hn_v0 hk_v0 hF; exact g_Md_read_47_b C hlocks hr hin   ih M v0 v1 hn_v0 hk_v0 hF
def F_Md_read (S : zzS)  (M : zzM) (v0 : Nat) : Option (Int32 × zzM) := zzlet (zzsI M v0 0 (0 : Int32)) fun M => zzlet (zzI M v0 3) fun x1 => zzlet ((1 : Int32) - x1) fun x2 => zzlet (zzsI M v0 15 x2) fun M => zzlet (zzsI M v0 16 (0 : Int32)) fun M => zzlet (zzsI M v0 17 (-1 : Int32)) fun M => zzlet (zzsI M v0 18 (0 : Int32)) fun M => zzlet (zzsI M v0 19 (0 : Int32)) fun M => zzlet (zzsI M v0 20 (0 : Int32)) fun M => zzlet (zzsI M v0 21 (0 : Int32)) fun M => F_Md_read_47 S   2000 M v0 (0 : Int32)
set_option maxHeartbeats 4000000 in
set_option maxRecDepth 100000 in
theorem c_Md_read {l : Launch} {D : zzD} {bs : Nat} {A : Nat → Prop} {S : zzS} {M : zzM} {hz : Nat} {out : Int32 × zzM} {v0 : Nat}   (hF : F_Md_read S  M v0 = some out) (hn_v0 : v0 < S.2.1) (hk_v0 : zzk S v0 = 19) : Met l y_Md_read (Cond.code y_Md_read prog_12_method_33_code 3 (some .int) :: zzW) { frames := 7, cells := 0, slots := 0, locals := 159 } (zzPc D bs A S M hz [.ref (bs + v0)]) (zzQc D bs A S out.2 hz (some (.int out.1))) 0 0 A := by
  refine zz_met [.ref (bs + v0)] (by decide) (Nat.le_of_ble_eq_true rfl) (fun p e s m args below meth c C hr hlocks hin hsz => ?_)
  refine zz_eq (lv' := [(0, .ref (bs + v0))]) (st' := []) rfl rfl ?_
  unfold F_Md_read at hF
  refine zi_aload_n C d_Md_read_0 rfl 0 rfl ?_
  refine zi_iconst (v := 0) C d_Md_read_1 (by decide) ?_
  refine zi_putI C zc_9 (k := 0) (by decide) zw_23 rfl (Or.inl rfl) hn_v0 hk_v0 d_Md_read_2 rfl hF (fun M hF => ?_)
  refine zi_aload_n C d_Md_read_5 rfl 0 rfl ?_
  refine zi_iconst (v := 1) C d_Md_read_6 (by decide) ?_
  refine zi_aload_n C d_Md_read_7 rfl 0 rfl ?_
  refine zi_getI C zc_9 (k := 3) (by decide) zw_16 rfl hn_v0 hk_v0 d_Md_read_8 (fun _ _ _ => rfl) hF (fun x1 hF => ?_)
  refine zi_isub C d_Md_read_11 hF (fun x2 hF => ?_)
  refine zi_putI C zc_9 (k := 15) (by decide) zw_36 rfl (Or.inl rfl) hn_v0 hk_v0 d_Md_read_12 rfl hF (fun M hF => ?_)
  refine zi_aload_n C d_Md_read_15 rfl 0 rfl ?_
  refine zi_iconst (v := 0) C d_Md_read_16 (by decide) ?_
  refine zi_putI C zc_9 (k := 16) (by decide) zw_29 rfl (Or.inl rfl) hn_v0 hk_v0 d_Md_read_17 rfl hF (fun M hF => ?_)
  refine zi_aload_n C d_Md_read_20 rfl 0 rfl ?_
  refine zi_iconst (v := -1) C d_Md_read_21 (by decide) ?_
  refine zi_putI C zc_9 (k := 17) (by decide) zw_30 rfl (Or.inl rfl) hn_v0 hk_v0 d_Md_read_22 rfl hF (fun M hF => ?_)
  refine zi_aload_n C d_Md_read_25 rfl 0 rfl ?_
  refine zi_iconst (v := 0) C d_Md_read_26 (by decide) ?_
  refine zi_putI C zc_9 (k := 18) (by decide) zw_86 rfl (Or.inl rfl) hn_v0 hk_v0 d_Md_read_27 rfl hF (fun M hF => ?_)
  refine zi_aload_n C d_Md_read_30 rfl 0 rfl ?_
  refine zi_iconst (v := 0) C d_Md_read_31 (by decide) ?_
  refine zi_putI C zc_9 (k := 19) (by decide) zw_37 rfl (Or.inl rfl) hn_v0 hk_v0 d_Md_read_32 rfl hF (fun M hF => ?_)
  refine zi_aload_n C d_Md_read_35 rfl 0 rfl ?_
  refine zi_iconst (v := 0) C d_Md_read_36 (by decide) ?_
  refine zi_putI C zc_9 (k := 20) (by decide) zw_115 rfl (Or.inl rfl) hn_v0 hk_v0 d_Md_read_37 rfl hF (fun M hF => ?_)
  refine zi_aload_n C d_Md_read_40 rfl 0 rfl ?_
  refine zi_iconst (v := 0) C d_Md_read_41 (by decide) ?_
  refine zi_putI C zc_9 (k := 21) (by decide) zw_92 rfl (Or.inl rfl) hn_v0 hk_v0 d_Md_read_42 rfl hF (fun M hF => ?_)
  refine zi_iconst (v := 0) C d_Md_read_45 (by decide) ?_
  refine zi_istore_n (lv' := [(1, .int (0 : Int32)), (0, .ref (bs + v0))]) C d_Md_read_46 rfl (by decide) rfl ?_
  refine zz_sub [1, 0] (lv' := [(0, .ref (bs + v0)), (1, .int (0 : Int32))]) rfl ?_
  exact g_Md_read_47 C hlocks hr hin   _ _ v0 (0 : Int32) hn_v0 hk_v0 hF
