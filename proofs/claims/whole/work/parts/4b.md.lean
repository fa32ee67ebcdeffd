def F_Md_readPlain_16_b (S : zzS)  (k16 : zzM → Nat → Int32 → Int32 → Option (Unit × zzM)) (M : zzM) (v0 : Nat) (v2 : Int32) (v3 : Int32) : Option (Unit × zzM) := if (4 : Int32) ≤ v3 then (zzcall (F_Md_code S M v0 (48 : Int32) v2) fun r1 M => zzcall (F_Md_complete S M v0) fun r2 M => some ((), M)) else (zzcall (F_Md_peek S M v0) fun r3 M => zzcall (F_Md_isDigit S M r3) fun r4 M => if r4 = 0 then (zzcall (F_Md_code S M v0 (48 : Int32) v2) fun r5 M => zzcall (F_Md_complete S M v0) fun r6 M => some ((), M)) else (zzlet ((10 : Int32) * v2) fun x7 => zzcall (F_Md_peek S M v0) fun r8 M => zzlet (x7 + r8) fun x9 => zzlet (x9 - (48 : Int32)) fun x10 => zzlet (zzI M v0 16) fun x11 => zzlet (x11 + (1 : Int32)) fun x12 => zzlet (zzsI M v0 16 x12) fun M => zzlet (v3 + (1 : Int32)) fun x13 => k16 M v0 x10 x13))
def F_Md_readPlain_16 (S : zzS)   (n : Nat) : zzM → Nat → Int32 → Int32 → Option (Unit × zzM) := Nat.rec (fun _ _ _ _ => none) (fun _ k => F_Md_readPlain_16_b S   k) n
set_option maxHeartbeats 4000000 in
set_option maxRecDepth 100000 in
theorem g_Md_readPlain_16_b {p : Program} {l : Launch} {e : Env} {s : State} {m : MethodId} {args : Array Value} {below : List Frame} {meth : Method} {c : Code} {D : zzD} {bs : Nat} {A : Nat → Prop} {S : zzS} {hz : Nat} {out : Unit × zzM}  (C : zzC p s m args c prog_12_method_18_code "BoardScriptModel" 4 D) (hlocks : meth.locks = false) (hr : meth.sig.returnType = none) (hin : meth.name = "readPlain")  {k16 : zzM → Nat → Int32 → Int32 → Option (Unit × zzM)} (hk16 : ∀ (M : zzM) (v0 : Nat) (v2 : Int32) (v3 : Int32) (hn_v0 : v0 < S.2.1) (hk_v0 : zzk S v0 = 19), k16 M v0 v2 v3 = some out → zzB p l e { frames := 3, cells := 0, slots := 0, locals := 63 } s m args below meth c 4 D bs A (MQ below (zzQc D bs A S out.2 hz none) args s 0 0 A) 0 0 S M hz 16 [(0, .ref (bs + v0)), (2, .int v2), (3, .int v3)] []) (M : zzM) (v0 : Nat) (v2 : Int32) (v3 : Int32) (hn_v0 : v0 < S.2.1) (hk_v0 : zzk S v0 = 19) (hF : F_Md_readPlain_16_b S  k16 M v0 v2 v3 = some out) : zzB p l e { frames := 3, cells := 0, slots := 0, locals := 63 } s m args below meth c 4 D bs A (MQ below (zzQc D bs A S out.2 hz none) args s 0 0 A) 0 0 S M hz 16 [(0, .ref (bs + v0)), (2, .int v2), (3, .int v3)] [] := by
  unfold F_Md_readPlain_16_b at hF
  refine zi_iload_n C d_Md_readPlain_16 rfl 2 rfl ?_
  refine zi_iconst (v := 4) C d_Md_readPlain_17 (by decide) ?_
  refine zi_icmp_ge (tgt := 60) C d_Md_readPlain_18 (by decide) hF (fun hF => ?_) (fun hF => ?_)
  · refine zi_aload_n C d_Md_readPlain_60 rfl 0 rfl ?_
    refine zi_bipush (v := 48) C d_Md_readPlain_61 (by decide) ?_
    refine zi_iload_n C d_Md_readPlain_63 rfl 1 rfl ?_
    obtain ⟨r1, M, hqr1, hF⟩ := zzcall_e hF
    refine zi_callV_v (M2 := M) (n := 2) (As := [.int (48 : Int32), .int v2]) (st := []) C (c_Md_code hqr1 hn_v0 hk_v0) zw_44 zw_18 (by decide +kernel) ⟨Nat.le_of_ble_eq_true rfl, Nat.le_of_ble_eq_true rfl⟩ rfl (Nat.le_of_ble_eq_true rfl) ⟨Nat.le_of_ble_eq_true rfl, Nat.le_of_ble_eq_true rfl⟩ zw_45 zw_46 zw_47 zc_9.1 hn_v0 hk_v0 rfl d_Md_readPlain_64 ?_
    refine zi_goto (tgt := 134) C d_Md_readPlain_67 (by decide) ?_
    refine zi_aload_n C d_Md_readPlain_134 rfl 0 rfl ?_
    obtain ⟨r2, M, hqr2, hF⟩ := zzcall_e hF
    refine zi_callV_v (M2 := M) (n := 0) (As := []) (st := []) C (c_Md_complete hqr2 hn_v0 hk_v0) zw_59 zw_18 (by decide +kernel) ⟨Nat.le_of_ble_eq_true rfl, Nat.le_of_ble_eq_true rfl⟩ rfl (Nat.le_of_ble_eq_true rfl) ⟨Nat.le_of_ble_eq_true rfl, Nat.le_of_ble_eq_true rfl⟩ zw_60 zw_61 zw_62 zc_9.1 hn_v0 hk_v0 rfl d_Md_readPlain_135 ?_
    exact zi_vret C hlocks hr d_Md_readPlain_138 rfl rfl (by cases hF; rfl) rfl
  · refine zi_aload_n C d_Md_readPlain_21 rfl 0 rfl ?_
    obtain ⟨r3, M, hqr3, hF⟩ := zzcall_e hF
    refine zi_callV_i (M2 := M) (r := r3) (n := 0) (As := []) (st := []) C (c_Md_peek hqr3 hn_v0 hk_v0) zw_31 zw_18 (by decide +kernel) ⟨Nat.le_of_ble_eq_true rfl, Nat.le_of_ble_eq_true rfl⟩ rfl (Nat.le_of_ble_eq_true rfl) ⟨Nat.le_of_ble_eq_true rfl, Nat.le_of_ble_eq_true rfl⟩ zw_32 zw_33 zw_34 zc_9.1 hn_v0 hk_v0 rfl d_Md_readPlain_22 ?_
    obtain ⟨r4, M, hqr4, hF⟩ := zzcall_e hF
    refine zi_callS_i (M2 := M) (r := r4) (n := 1) (As := [.int r3]) (st := []) C (c_Md_isDigit hqr4 ) zw_53 zw_18 (by decide +kernel) ⟨Nat.le_of_ble_eq_true rfl, Nat.le_of_ble_eq_true rfl⟩ rfl (Nat.le_of_ble_eq_true rfl) ⟨Nat.le_of_ble_eq_true rfl, Nat.le_of_ble_eq_true rfl⟩ zw_54 zw_55 rfl d_Md_readPlain_25 ?_
    refine zi_if_eq (tgt := 60) C d_Md_readPlain_28 (by decide) hF (fun hF => ?_) (fun hF => ?_)
    · refine zi_aload_n C d_Md_readPlain_60 rfl 0 rfl ?_
      refine zi_bipush (v := 48) C d_Md_readPlain_61 (by decide) ?_
      refine zi_iload_n C d_Md_readPlain_63 rfl 1 rfl ?_
      obtain ⟨r5, M, hqr5, hF⟩ := zzcall_e hF
      refine zi_callV_v (M2 := M) (n := 2) (As := [.int (48 : Int32), .int v2]) (st := []) C (c_Md_code hqr5 hn_v0 hk_v0) zw_44 zw_18 (by decide +kernel) ⟨Nat.le_of_ble_eq_true rfl, Nat.le_of_ble_eq_true rfl⟩ rfl (Nat.le_of_ble_eq_true rfl) ⟨Nat.le_of_ble_eq_true rfl, Nat.le_of_ble_eq_true rfl⟩ zw_45 zw_46 zw_47 zc_9.1 hn_v0 hk_v0 rfl d_Md_readPlain_64 ?_
      refine zi_goto (tgt := 134) C d_Md_readPlain_67 (by decide) ?_
      refine zi_aload_n C d_Md_readPlain_134 rfl 0 rfl ?_
      obtain ⟨r6, M, hqr6, hF⟩ := zzcall_e hF
      refine zi_callV_v (M2 := M) (n := 0) (As := []) (st := []) C (c_Md_complete hqr6 hn_v0 hk_v0) zw_59 zw_18 (by decide +kernel) ⟨Nat.le_of_ble_eq_true rfl, Nat.le_of_ble_eq_true rfl⟩ rfl (Nat.le_of_ble_eq_true rfl) ⟨Nat.le_of_ble_eq_true rfl, Nat.le_of_ble_eq_true rfl⟩ zw_60 zw_61 zw_62 zc_9.1 hn_v0 hk_v0 rfl d_Md_readPlain_135 ?_
      exact zi_vret C hlocks hr d_Md_readPlain_138 rfl rfl (by cases hF; rfl) rfl
    · refine zi_bipush (v := 10) C d_Md_readPlain_31 (by decide) ?_
      refine zi_iload_n C d_Md_readPlain_33 rfl 1 rfl ?_
      refine zi_imul C d_Md_readPlain_34 hF (fun x7 hF => ?_)
      refine zi_aload_n C d_Md_readPlain_35 rfl 0 rfl ?_
      obtain ⟨r8, M, hqr8, hF⟩ := zzcall_e hF
      refine zi_callV_i (M2 := M) (r := r8) (n := 0) (As := []) (st := [.int x7]) C (c_Md_peek hqr8 hn_v0 hk_v0) zw_31 zw_18 (by decide +kernel) ⟨Nat.le_of_ble_eq_true rfl, Nat.le_of_ble_eq_true rfl⟩ rfl (Nat.le_of_ble_eq_true rfl) ⟨Nat.le_of_ble_eq_true rfl, Nat.le_of_ble_eq_true rfl⟩ zw_32 zw_33 zw_34 zc_9.1 hn_v0 hk_v0 rfl d_Md_readPlain_36 ?_
      refine zi_iadd C d_Md_readPlain_39 hF (fun x9 hF => ?_)
      refine zi_bipush (v := 48) C d_Md_readPlain_40 (by decide) ?_
      refine zi_isub C d_Md_readPlain_42 hF (fun x10 hF => ?_)
      refine zi_istore_n (lv' := [(2, .int x10), (0, .ref (bs + v0)), (3, .int v3)]) C d_Md_readPlain_43 rfl (by decide) rfl ?_
      refine zi_aload_n C d_Md_readPlain_44 rfl 1 rfl ?_
      refine zi_dup C d_Md_readPlain_45 rfl ?_
      refine zi_getI C zc_9 (k := 16) (by decide) zw_29 rfl hn_v0 hk_v0 d_Md_readPlain_46 (fun _ _ _ => rfl) hF (fun x11 hF => ?_)
      refine zi_iconst (v := 1) C d_Md_readPlain_49 (by decide) ?_
      refine zi_iadd C d_Md_readPlain_50 hF (fun x12 hF => ?_)
      refine zi_putI C zc_9 (k := 16) (by decide) zw_29 rfl (Or.inl rfl) hn_v0 hk_v0 d_Md_readPlain_51 rfl hF (fun M hF => ?_)
      refine zi_iinc (j := 2) (v0 := 1) C d_Md_readPlain_54 rfl (by decide) (by decide) hF (fun x13 => [(3, .int x13), (2, .int x10), (0, .ref (bs + v0))]) (fun _ => rfl) (fun x13 hF => ?_)
      refine zi_goto (tgt := 16) C d_Md_readPlain_57 (by decide) ?_
      refine zz_sub [2, 1, 0] (lv' := [(0, .ref (bs + v0)), (2, .int x10), (3, .int x13)]) rfl ?_
      exact hk16 _ v0 x10 x13 hn_v0 hk_v0 hF
set_option maxHeartbeats 4000000 in
set_option maxRecDepth 100000 in
theorem g_Md_readPlain_16 {p : Program} {l : Launch} {e : Env} {s : State} {m : MethodId} {args : Array Value} {below : List Frame} {meth : Method} {c : Code} {D : zzD} {bs : Nat} {A : Nat → Prop} {S : zzS} {hz : Nat} {out : Unit × zzM}  (C : zzC p s m args c prog_12_method_18_code "BoardScriptModel" 4 D) (hlocks : meth.locks = false) (hr : meth.sig.returnType = none) (hin : meth.name = "readPlain")    : ∀ (n : Nat) (M : zzM) (v0 : Nat) (v2 : Int32) (v3 : Int32) (hn_v0 : v0 < S.2.1) (hk_v0 : zzk S v0 = 19) (hF : F_Md_readPlain_16 S   n M v0 v2 v3 = some out), zzB p l e { frames := 3, cells := 0, slots := 0, locals := 63 } s m args below meth c 4 D bs A (MQ below (zzQc D bs A S out.2 hz none) args s 0 0 A) 0 0 S M hz 16 [(0, .ref (bs + v0)), (2, .int v2), (3, .int v3)] [] := by
  intro n
  induction n with
  | zero => intro M v0 v2 v3 hn_v0 hk_v0 hF; cases hF
  | succ n ih => intro M v0 v2 v3 hn_v0 hk_v0 hF; exact g_Md_readPlain_16_b C hlocks hr hin   ih M v0 v2 v3 hn_v0 hk_v0 hF
def F_Md_readPlain (S : zzS)  (M : zzM) (v0 : Nat) : Option (Unit × zzM) := zzcall (F_Md_peek S M v0) fun r1 M => zzcall (F_Md_isDigit S M r1) fun r2 M => if r2 = 0 then (zzcall (F_Md_isVariable S M r1) fun r3 M => if r3 = 0 then (if r1 = (35 : Int32) then (zzcall (F_Md_code S M v0 (35 : Int32) (0 : Int32)) fun r6 M => zzlet (zzI M v0 16) fun x7 => zzlet (x7 + (1 : Int32)) fun x8 => zzlet (zzsI M v0 16 x8) fun M => zzcall (F_Md_complete S M v0) fun r9 M => some ((), M)) else (zzlet (zzI M v0 16) fun x4 => zzlet (zzsI M v0 17 x4) fun M => zzcall (F_Md_complete S M v0) fun r5 M => some ((), M))) else (zzlet (r1 - (97 : Int32)) fun x10 => zzcall (F_Md_code S M v0 (97 : Int32) x10) fun r11 M => zzlet (zzI M v0 16) fun x12 => zzlet (x12 + (1 : Int32)) fun x13 => zzlet (zzsI M v0 16 x13) fun M => zzcall (F_Md_complete S M v0) fun r14 M => some ((), M))) else (F_Md_readPlain_16 S   2000 M v0 (0 : Int32) (0 : Int32))
set_option maxHeartbeats 4000000 in
set_option maxRecDepth 100000 in
theorem c_Md_readPlain {l : Launch} {D : zzD} {bs : Nat} {A : Nat → Prop} {S : zzS} {M : zzM} {hz : Nat} {out : Unit × zzM} {v0 : Nat}   (hF : F_Md_readPlain S  M v0 = some out) (hn_v0 : v0 < S.2.1) (hk_v0 : zzk S v0 = 19) : Met l y_Md_readPlain (Cond.code y_Md_readPlain prog_12_method_18_code 4 none :: zzW) { frames := 3, cells := 0, slots := 0, locals := 63 } (zzPc D bs A S M hz [.ref (bs + v0)]) (zzQc D bs A S out.2 hz none) 0 0 A := by
  refine zz_met [.ref (bs + v0)] (by decide) (Nat.le_of_ble_eq_true rfl) (fun p e s m args below meth c C hr hlocks hin hsz => ?_)
  refine zz_eq (lv' := [(0, .ref (bs + v0))]) (st' := []) rfl rfl ?_
  unfold F_Md_readPlain at hF
  refine zi_aload_n C d_Md_readPlain_0 rfl 0 rfl ?_
  obtain ⟨r1, M, hqr1, hF⟩ := zzcall_e hF
  refine zi_callV_i (M2 := M) (r := r1) (n := 0) (As := []) (st := []) C (c_Md_peek hqr1 hn_v0 hk_v0) zw_31 zw_18 (by decide +kernel) ⟨Nat.le_of_ble_eq_true rfl, Nat.le_of_ble_eq_true rfl⟩ rfl (Nat.le_of_ble_eq_true rfl) ⟨Nat.le_of_ble_eq_true rfl, Nat.le_of_ble_eq_true rfl⟩ zw_32 zw_33 zw_34 zc_9.1 hn_v0 hk_v0 rfl d_Md_readPlain_1 ?_
  refine zi_istore_n (lv' := [(1, .int r1), (0, .ref (bs + v0))]) C d_Md_readPlain_4 rfl (by decide) rfl ?_
  refine zi_iload_n C d_Md_readPlain_5 rfl 0 rfl ?_
  obtain ⟨r2, M, hqr2, hF⟩ := zzcall_e hF
  refine zi_callS_i (M2 := M) (r := r2) (n := 1) (As := [.int r1]) (st := []) C (c_Md_isDigit hqr2 ) zw_53 zw_18 (by decide +kernel) ⟨Nat.le_of_ble_eq_true rfl, Nat.le_of_ble_eq_true rfl⟩ rfl (Nat.le_of_ble_eq_true rfl) ⟨Nat.le_of_ble_eq_true rfl, Nat.le_of_ble_eq_true rfl⟩ zw_54 zw_55 rfl d_Md_readPlain_6 ?_
  refine zi_if_eq (tgt := 70) C d_Md_readPlain_9 (by decide) hF (fun hF => ?_) (fun hF => ?_)
  · refine zi_iload_n C d_Md_readPlain_70 rfl 0 rfl ?_
    obtain ⟨r3, M, hqr3, hF⟩ := zzcall_e hF
    refine zi_callS_i (M2 := M) (r := r3) (n := 1) (As := [.int r1]) (st := []) C (c_Md_isVariable hqr3 ) zw_56 zw_18 (by decide +kernel) ⟨Nat.le_of_ble_eq_true rfl, Nat.le_of_ble_eq_true rfl⟩ rfl (Nat.le_of_ble_eq_true rfl) ⟨Nat.le_of_ble_eq_true rfl, Nat.le_of_ble_eq_true rfl⟩ zw_57 zw_58 rfl d_Md_readPlain_71 ?_
    refine zi_if_eq (tgt := 100) C d_Md_readPlain_74 (by decide) hF (fun hF => ?_) (fun hF => ?_)
    · refine zi_iload_n C d_Md_readPlain_100 rfl 0 rfl ?_
      refine zi_bipush (v := 35) C d_Md_readPlain_101 (by decide) ?_
      refine zi_icmp_ne (tgt := 126) C d_Md_readPlain_103 (by decide) hF (fun hF => ?_) (fun hF => ?_)
      · refine zi_aload_n C d_Md_readPlain_126 rfl 1 rfl ?_
        refine zi_aload_n C d_Md_readPlain_127 rfl 1 rfl ?_
        refine zi_getI C zc_9 (k := 16) (by decide) zw_29 rfl hn_v0 hk_v0 d_Md_readPlain_128 (fun _ _ _ => rfl) hF (fun x4 hF => ?_)
        refine zi_putI C zc_9 (k := 17) (by decide) zw_30 rfl (Or.inl rfl) hn_v0 hk_v0 d_Md_readPlain_131 rfl hF (fun M hF => ?_)
        refine zi_aload_n C d_Md_readPlain_134 rfl 1 rfl ?_
        obtain ⟨r5, M, hqr5, hF⟩ := zzcall_e hF
        refine zi_callV_v (M2 := M) (n := 0) (As := []) (st := []) C (c_Md_complete hqr5 hn_v0 hk_v0) zw_59 zw_18 (by decide +kernel) ⟨Nat.le_of_ble_eq_true rfl, Nat.le_of_ble_eq_true rfl⟩ rfl (Nat.le_of_ble_eq_true rfl) ⟨Nat.le_of_ble_eq_true rfl, Nat.le_of_ble_eq_true rfl⟩ zw_60 zw_61 zw_62 zc_9.1 hn_v0 hk_v0 rfl d_Md_readPlain_135 ?_
        exact zi_vret C hlocks hr d_Md_readPlain_138 rfl rfl (by cases hF; rfl) rfl
      · refine zi_aload_n C d_Md_readPlain_106 rfl 1 rfl ?_
        refine zi_bipush (v := 35) C d_Md_readPlain_107 (by decide) ?_
        refine zi_iconst (v := 0) C d_Md_readPlain_109 (by decide) ?_
        obtain ⟨r6, M, hqr6, hF⟩ := zzcall_e hF
        refine zi_callV_v (M2 := M) (n := 2) (As := [.int (35 : Int32), .int (0 : Int32)]) (st := []) C (c_Md_code hqr6 hn_v0 hk_v0) zw_44 zw_18 (by decide +kernel) ⟨Nat.le_of_ble_eq_true rfl, Nat.le_of_ble_eq_true rfl⟩ rfl (Nat.le_of_ble_eq_true rfl) ⟨Nat.le_of_ble_eq_true rfl, Nat.le_of_ble_eq_true rfl⟩ zw_45 zw_46 zw_47 zc_9.1 hn_v0 hk_v0 rfl d_Md_readPlain_110 ?_
        refine zi_aload_n C d_Md_readPlain_113 rfl 1 rfl ?_
        refine zi_dup C d_Md_readPlain_114 rfl ?_
        refine zi_getI C zc_9 (k := 16) (by decide) zw_29 rfl hn_v0 hk_v0 d_Md_readPlain_115 (fun _ _ _ => rfl) hF (fun x7 hF => ?_)
        refine zi_iconst (v := 1) C d_Md_readPlain_118 (by decide) ?_
        refine zi_iadd C d_Md_readPlain_119 hF (fun x8 hF => ?_)
        refine zi_putI C zc_9 (k := 16) (by decide) zw_29 rfl (Or.inl rfl) hn_v0 hk_v0 d_Md_readPlain_120 rfl hF (fun M hF => ?_)
        refine zi_goto (tgt := 134) C d_Md_readPlain_123 (by decide) ?_
        refine zi_aload_n C d_Md_readPlain_134 rfl 1 rfl ?_
        obtain ⟨r9, M, hqr9, hF⟩ := zzcall_e hF
        refine zi_callV_v (M2 := M) (n := 0) (As := []) (st := []) C (c_Md_complete hqr9 hn_v0 hk_v0) zw_59 zw_18 (by decide +kernel) ⟨Nat.le_of_ble_eq_true rfl, Nat.le_of_ble_eq_true rfl⟩ rfl (Nat.le_of_ble_eq_true rfl) ⟨Nat.le_of_ble_eq_true rfl, Nat.le_of_ble_eq_true rfl⟩ zw_60 zw_61 zw_62 zc_9.1 hn_v0 hk_v0 rfl d_Md_readPlain_135 ?_
        exact zi_vret C hlocks hr d_Md_readPlain_138 rfl rfl (by cases hF; rfl) rfl
    · refine zi_aload_n C d_Md_readPlain_77 rfl 1 rfl ?_
      refine zi_bipush (v := 97) C d_Md_readPlain_78 (by decide) ?_
      refine zi_iload_n C d_Md_readPlain_80 rfl 0 rfl ?_
      refine zi_bipush (v := 97) C d_Md_readPlain_81 (by decide) ?_
      refine zi_isub C d_Md_readPlain_83 hF (fun x10 hF => ?_)
      obtain ⟨r11, M, hqr11, hF⟩ := zzcall_e hF
      refine zi_callV_v (M2 := M) (n := 2) (As := [.int (97 : Int32), .int x10]) (st := []) C (c_Md_code hqr11 hn_v0 hk_v0) zw_44 zw_18 (by decide +kernel) ⟨Nat.le_of_ble_eq_true rfl, Nat.le_of_ble_eq_true rfl⟩ rfl (Nat.le_of_ble_eq_true rfl) ⟨Nat.le_of_ble_eq_true rfl, Nat.le_of_ble_eq_true rfl⟩ zw_45 zw_46 zw_47 zc_9.1 hn_v0 hk_v0 rfl d_Md_readPlain_84 ?_
      refine zi_aload_n C d_Md_readPlain_87 rfl 1 rfl ?_
      refine zi_dup C d_Md_readPlain_88 rfl ?_
      refine zi_getI C zc_9 (k := 16) (by decide) zw_29 rfl hn_v0 hk_v0 d_Md_readPlain_89 (fun _ _ _ => rfl) hF (fun x12 hF => ?_)
      refine zi_iconst (v := 1) C d_Md_readPlain_92 (by decide) ?_
      refine zi_iadd C d_Md_readPlain_93 hF (fun x13 hF => ?_)
      refine zi_putI C zc_9 (k := 16) (by decide) zw_29 rfl (Or.inl rfl) hn_v0 hk_v0 d_Md_readPlain_94 rfl hF (fun M hF => ?_)
      refine zi_goto (tgt := 134) C d_Md_readPlain_97 (by decide) ?_
      refine zi_aload_n C d_Md_readPlain_134 rfl 1 rfl ?_
      obtain ⟨r14, M, hqr14, hF⟩ := zzcall_e hF
      refine zi_callV_v (M2 := M) (n := 0) (As := []) (st := []) C (c_Md_complete hqr14 hn_v0 hk_v0) zw_59 zw_18 (by decide +kernel) ⟨Nat.le_of_ble_eq_true rfl, Nat.le_of_ble_eq_true rfl⟩ rfl (Nat.le_of_ble_eq_true rfl) ⟨Nat.le_of_ble_eq_true rfl, Nat.le_of_ble_eq_true rfl⟩ zw_60 zw_61 zw_62 zc_9.1 hn_v0 hk_v0 rfl d_Md_readPlain_135 ?_
      exact zi_vret C hlocks hr d_Md_readPlain_138 rfl rfl (by cases hF; rfl) rfl
  · refine zi_iconst (v := 0) C d_Md_readPlain_12 (by decide) ?_
    refine zi_istore_n (lv' := [(2, .int (0 : Int32)), (1, .int r1), (0, .ref (bs + v0))]) C d_Md_readPlain_13 rfl (by decide) rfl ?_
    refine zi_iconst (v := 0) C d_Md_readPlain_14 (by decide) ?_
    refine zi_istore_n (lv' := [(3, .int (0 : Int32)), (2, .int (0 : Int32)), (1, .int r1), (0, .ref (bs + v0))]) C d_Md_readPlain_15 rfl (by decide) rfl ?_
    refine zz_sub [3, 1, 0] (lv' := [(0, .ref (bs + v0)), (2, .int (0 : Int32)), (3, .int (0 : Int32))]) rfl ?_
    exact g_Md_readPlain_16 C hlocks hr hin   _ _ v0 (0 : Int32) (0 : Int32) hn_v0 hk_v0 hF
def F_Md_hasParen_4_b (S : zzS)  (k4 : zzM → Nat → Int32 → Int32 → Option (Int32 × zzM)) (M : zzM) (v0 : Nat) (v1 : Int32) (v2 : Int32) : Option (Int32 × zzM) := zzlet (zzI M v0 25) fun x1 => if x1 ≤ v2 then (zzck (zzokZ v1) (some (v1, M))) else (if v1 = 0 then (zzref S 1 (zzR M v0 26) fun b3 => zzix S b3 v2 (zzlet (zzI M b3 (v2).toNatClampNeg) fun x4 => if x4 = (40 : Int32) then (zzlet (v2 + (1 : Int32)) fun x6 => k4 M v0 (1 : Int32) x6) else (zzlet (v2 + (1 : Int32)) fun x5 => k4 M v0 (0 : Int32) x5))) else (zzlet (v2 + (1 : Int32)) fun x2 => k4 M v0 (1 : Int32) x2))
def F_Md_hasParen_4 (S : zzS)   (n : Nat) : zzM → Nat → Int32 → Int32 → Option (Int32 × zzM) := Nat.rec (fun _ _ _ _ => none) (fun _ k => F_Md_hasParen_4_b S   k) n
set_option maxHeartbeats 4000000 in
set_option maxRecDepth 100000 in
theorem g_Md_hasParen_4_b {p : Program} {l : Launch} {e : Env} {s : State} {m : MethodId} {args : Array Value} {below : List Frame} {meth : Method} {c : Code} {D : zzD} {bs : Nat} {A : Nat → Prop} {S : zzS} {hz : Nat} {out : Int32 × zzM}  (C : zzC p s m args c prog_12_method_19_code "BoardScriptModel" 3 D) (hlocks : meth.locks = false) (hr : meth.sig.returnType = (some .boolean)) (hin : meth.name = "hasParen")  {k4 : zzM → Nat → Int32 → Int32 → Option (Int32 × zzM)} (hk4 : ∀ (M : zzM) (v0 : Nat) (v1 : Int32) (v2 : Int32) (hn_v0 : v0 < S.2.1) (hk_v0 : zzk S v0 = 19), k4 M v0 v1 v2 = some out → zzB p l e { frames := 0, cells := 0, slots := 0, locals := 0 } s m args below meth c 3 D bs A (MQ below (zzQc D bs A S out.2 hz (some (.int out.1))) args s 0 0 A) 0 0 S M hz 4 [(0, .ref (bs + v0)), (1, .int v1), (2, .int v2)] []) (M : zzM) (v0 : Nat) (v1 : Int32) (v2 : Int32) (hn_v0 : v0 < S.2.1) (hk_v0 : zzk S v0 = 19) (hF : F_Md_hasParen_4_b S  k4 M v0 v1 v2 = some out) : zzB p l e { frames := 0, cells := 0, slots := 0, locals := 0 } s m args below meth c 3 D bs A (MQ below (zzQc D bs A S out.2 hz (some (.int out.1))) args s 0 0 A) 0 0 S M hz 4 [(0, .ref (bs + v0)), (1, .int v1), (2, .int v2)] [] := by
  unfold F_Md_hasParen_4_b at hF
  refine zi_iload_n C d_Md_hasParen_4 rfl 2 rfl ?_
  refine zi_aload_n C d_Md_hasParen_5 rfl 0 rfl ?_
  refine zi_getI C zc_9 (k := 25) (by decide) zw_39 rfl hn_v0 hk_v0 d_Md_hasParen_6 (fun _ _ _ => rfl) hF (fun x1 hF => ?_)
  refine zi_icmp_ge (tgt := 39) C d_Md_hasParen_9 (by decide) hF (fun hF => ?_) (fun hF => ?_)
  · refine zi_iload_n C d_Md_hasParen_39 rfl 1 rfl ?_
    obtain ⟨hok, hF⟩ := zzck_e hF
    exact zi_zret C hlocks hr (zzokZ_n hok).1 d_Md_hasParen_40 (by cases hF; rfl) rfl (by cases hF; rfl) rfl
  · refine zi_iload_n C d_Md_hasParen_12 rfl 1 rfl ?_
    refine zi_if_ne (tgt := 27) C d_Md_hasParen_13 (by decide) hF (fun hF => ?_) (fun hF => ?_)
    · refine zi_iconst (v := 1) C d_Md_hasParen_27 (by decide) ?_
      refine zi_goto (tgt := 32) C d_Md_hasParen_28 (by decide) ?_
      refine zi_istore_n (lv' := [(1, .int (1 : Int32)), (0, .ref (bs + v0)), (2, .int v2)]) C d_Md_hasParen_32 rfl (by decide) rfl ?_
      refine zi_iinc (j := 2) (v0 := 1) C d_Md_hasParen_33 rfl (by decide) (by decide) hF (fun x2 => [(2, .int x2), (1, .int (1 : Int32)), (0, .ref (bs + v0))]) (fun _ => rfl) (fun x2 hF => ?_)
      refine zi_goto (tgt := 4) C d_Md_hasParen_36 (by decide) ?_
      refine zz_sub [2, 1, 0] (lv' := [(0, .ref (bs + v0)), (1, .int (1 : Int32)), (2, .int x2)]) rfl ?_
      exact hk4 _ v0 (1 : Int32) x2 hn_v0 hk_v0 hF
    · refine zi_aload_n C d_Md_hasParen_16 rfl 0 rfl ?_
      refine zi_getR C zc_9 (k := 26) (by decide) zw_40 rfl hn_v0 hk_v0 d_Md_hasParen_17 (fun _ _ _ => rfl) hF (fun b3 hn_b3 hk_b3 hF => ?_)
      refine zi_iload_n C d_Md_hasParen_20 rfl 2 rfl ?_
      refine zi_iald C hn_b3 hk_b3 d_Md_hasParen_21 hF (fun x4 hF => ?_)
      refine zi_bipush (v := 40) C d_Md_hasParen_22 (by decide) ?_
      refine zi_icmp_ne (tgt := 31) C d_Md_hasParen_24 (by decide) hF (fun hF => ?_) (fun hF => ?_)
      · refine zi_iconst (v := 0) C d_Md_hasParen_31 (by decide) ?_
        refine zi_istore_n (lv' := [(1, .int (0 : Int32)), (0, .ref (bs + v0)), (2, .int v2)]) C d_Md_hasParen_32 rfl (by decide) rfl ?_
        refine zi_iinc (j := 2) (v0 := 1) C d_Md_hasParen_33 rfl (by decide) (by decide) hF (fun x5 => [(2, .int x5), (1, .int (0 : Int32)), (0, .ref (bs + v0))]) (fun _ => rfl) (fun x5 hF => ?_)
        refine zi_goto (tgt := 4) C d_Md_hasParen_36 (by decide) ?_
        refine zz_sub [2, 1, 0] (lv' := [(0, .ref (bs + v0)), (1, .int (0 : Int32)), (2, .int x5)]) rfl ?_
        exact hk4 _ v0 (0 : Int32) x5 hn_v0 hk_v0 hF
      · refine zi_iconst (v := 1) C d_Md_hasParen_27 (by decide) ?_
        refine zi_goto (tgt := 32) C d_Md_hasParen_28 (by decide) ?_
        refine zi_istore_n (lv' := [(1, .int (1 : Int32)), (0, .ref (bs + v0)), (2, .int v2)]) C d_Md_hasParen_32 rfl (by decide) rfl ?_
        refine zi_iinc (j := 2) (v0 := 1) C d_Md_hasParen_33 rfl (by decide) (by decide) hF (fun x6 => [(2, .int x6), (1, .int (1 : Int32)), (0, .ref (bs + v0))]) (fun _ => rfl) (fun x6 hF => ?_)
        refine zi_goto (tgt := 4) C d_Md_hasParen_36 (by decide) ?_
        refine zz_sub [2, 1, 0] (lv' := [(0, .ref (bs + v0)), (1, .int (1 : Int32)), (2, .int x6)]) rfl ?_
        exact hk4 _ v0 (1 : Int32) x6 hn_v0 hk_v0 hF
set_option maxHeartbeats 4000000 in
set_option maxRecDepth 100000 in
theorem g_Md_hasParen_4 {p : Program} {l : Launch} {e : Env} {s : State} {m : MethodId} {args : Array Value} {below : List Frame} {meth : Method} {c : Code} {D : zzD} {bs : Nat} {A : Nat → Prop} {S : zzS} {hz : Nat} {out : Int32 × zzM}  (C : zzC p s m args c prog_12_method_19_code "BoardScriptModel" 3 D) (hlocks : meth.locks = false) (hr : meth.sig.returnType = (some .boolean)) (hin : meth.name = "hasParen")    : ∀ (n : Nat) (M : zzM) (v0 : Nat) (v1 : Int32) (v2 : Int32) (hn_v0 : v0 < S.2.1) (hk_v0 : zzk S v0 = 19) (hF : F_Md_hasParen_4 S   n M v0 v1 v2 = some out), zzB p l e { frames := 0, cells := 0, slots := 0, locals := 0 } s m args below meth c 3 D bs A (MQ below (zzQc D bs A S out.2 hz (some (.int out.1))) args s 0 0 A) 0 0 S M hz 4 [(0, .ref (bs + v0)), (1, .int v1), (2, .int v2)] [] := by
  intro n
  induction n with
  | zero => intro M v0 v1 v2 hn_v0 hk_v0 hF; cases hF
  | succ n ih => intro M v0 v1 v2 hn_v0 hk_v0 hF; exact g_Md_hasParen_4_b C hlocks hr hin   ih M v0 v1 v2 hn_v0 hk_v0 hF
def F_Md_hasParen (S : zzS)  (M : zzM) (v0 : Nat) : Option (Int32 × zzM) := F_Md_hasParen_4 S   2000 M v0 (0 : Int32) (0 : Int32)
set_option maxHeartbeats 4000000 in
set_option maxRecDepth 100000 in
theorem c_Md_hasParen {l : Launch} {D : zzD} {bs : Nat} {A : Nat → Prop} {S : zzS} {M : zzM} {hz : Nat} {out : Int32 × zzM} {v0 : Nat}   (hF : F_Md_hasParen S  M v0 = some out) (hn_v0 : v0 < S.2.1) (hk_v0 : zzk S v0 = 19) : Met l y_Md_hasParen (Cond.code y_Md_hasParen prog_12_method_19_code 3 (some .boolean) :: zzW) { frames := 0, cells := 0, slots := 0, locals := 0 } (zzPc D bs A S M hz [.ref (bs + v0)]) (zzQc D bs A S out.2 hz (some (.int out.1))) 0 0 A := by
  refine zz_met [.ref (bs + v0)] (by decide) (Nat.le_of_ble_eq_true rfl) (fun p e s m args below meth c C hr hlocks hin hsz => ?_)
  refine zz_eq (lv' := [(0, .ref (bs + v0))]) (st' := []) rfl rfl ?_
  unfold F_Md_hasParen at hF
  refine zi_iconst (v := 0) C d_Md_hasParen_0 (by decide) ?_
  refine zi_istore_n (lv' := [(1, .int (0 : Int32)), (0, .ref (bs + v0))]) C d_Md_hasParen_1 rfl (by decide) rfl ?_
  refine zi_iconst (v := 0) C d_Md_hasParen_2 (by decide) ?_
  refine zi_istore_n (lv' := [(2, .int (0 : Int32)), (1, .int (0 : Int32)), (0, .ref (bs + v0))]) C d_Md_hasParen_3 rfl (by decide) rfl ?_
  refine zz_sub [2, 1, 0] (lv' := [(0, .ref (bs + v0)), (1, .int (0 : Int32)), (2, .int (0 : Int32))]) rfl ?_
  exact g_Md_hasParen_4 C hlocks hr hin   _ _ v0 (0 : Int32) (0 : Int32) hn_v0 hk_v0 hF
def F_Md_hasCompare_7_b (S : zzS)  (k7 : zzM → Nat → Int32 → Option (Int32 × zzM)) (M : zzM) (v0 : Nat) (v1 : Int32) : Option (Int32 × zzM) := if v1 < 0 then (some ((0 : Int32), M)) else (zzref S 1 (zzR M v0 26) fun b1 => zzix S b1 v1 (zzlet (zzI M b1 (v1).toNatClampNeg) fun x2 => if x2 = (40 : Int32) then (some ((0 : Int32), M)) else (zzref S 1 (zzR M v0 26) fun b3 => zzix S b3 v1 (zzlet (zzI M b3 (v1).toNatClampNeg) fun x4 => zzcall (F_Md_strength S M x4) fun r5 M => if r5 = (1 : Int32) then (some ((1 : Int32), M)) else (zzlet (v1 + (-1 : Int32)) fun x6 => k7 M v0 x6)))))
def F_Md_hasCompare_7 (S : zzS)   (n : Nat) : zzM → Nat → Int32 → Option (Int32 × zzM) := Nat.rec (fun _ _ _ => none) (fun _ k => F_Md_hasCompare_7_b S   k) n
set_option maxHeartbeats 4000000 in
set_option maxRecDepth 100000 in
theorem g_Md_hasCompare_7_b {p : Program} {l : Launch} {e : Env} {s : State} {m : MethodId} {args : Array Value} {below : List Frame} {meth : Method} {c : Code} {D : zzD} {bs : Nat} {A : Nat → Prop} {S : zzS} {hz : Nat} {out : Int32 × zzM}  (C : zzC p s m args c prog_12_method_20_code "BoardScriptModel" 2 D) (hlocks : meth.locks = false) (hr : meth.sig.returnType = (some .boolean)) (hin : meth.name = "hasCompare")  {k7 : zzM → Nat → Int32 → Option (Int32 × zzM)} (hk7 : ∀ (M : zzM) (v0 : Nat) (v1 : Int32) (hn_v0 : v0 < S.2.1) (hk_v0 : zzk S v0 = 19), k7 M v0 v1 = some out → zzB p l e { frames := 1, cells := 0, slots := 0, locals := 20 } s m args below meth c 2 D bs A (MQ below (zzQc D bs A S out.2 hz (some (.int out.1))) args s 0 0 A) 0 0 S M hz 7 [(0, .ref (bs + v0)), (1, .int v1)] []) (M : zzM) (v0 : Nat) (v1 : Int32) (hn_v0 : v0 < S.2.1) (hk_v0 : zzk S v0 = 19) (hF : F_Md_hasCompare_7_b S  k7 M v0 v1 = some out) : zzB p l e { frames := 1, cells := 0, slots := 0, locals := 20 } s m args below meth c 2 D bs A (MQ below (zzQc D bs A S out.2 hz (some (.int out.1))) args s 0 0 A) 0 0 S M hz 7 [(0, .ref (bs + v0)), (1, .int v1)] [] := by
  unfold F_Md_hasCompare_7_b at hF
  refine zi_iload_n C d_Md_hasCompare_7 rfl 1 rfl ?_
  refine zi_if_lt (tgt := 43) C d_Md_hasCompare_8 (by decide) hF (fun hF => ?_) (fun hF => ?_)
  · refine zi_iconst (v := 0) C d_Md_hasCompare_43 (by decide) ?_
    exact zi_zret C hlocks hr (by decide +kernel) d_Md_hasCompare_44 (by cases hF; rfl) rfl (by cases hF; rfl) rfl
  · refine zi_aload_n C d_Md_hasCompare_11 rfl 0 rfl ?_
    refine zi_getR C zc_9 (k := 26) (by decide) zw_40 rfl hn_v0 hk_v0 d_Md_hasCompare_12 (fun _ _ _ => rfl) hF (fun b1 hn_b1 hk_b1 hF => ?_)
    refine zi_iload_n C d_Md_hasCompare_15 rfl 1 rfl ?_
    refine zi_iald C hn_b1 hk_b1 d_Md_hasCompare_16 hF (fun x2 hF => ?_)
    refine zi_bipush (v := 40) C d_Md_hasCompare_17 (by decide) ?_
    refine zi_icmp_eq (tgt := 43) C d_Md_hasCompare_19 (by decide) hF (fun hF => ?_) (fun hF => ?_)
    · refine zi_iconst (v := 0) C d_Md_hasCompare_43 (by decide) ?_
      exact zi_zret C hlocks hr (by decide +kernel) d_Md_hasCompare_44 (by cases hF; rfl) rfl (by cases hF; rfl) rfl
    · refine zi_aload_n C d_Md_hasCompare_22 rfl 0 rfl ?_
      refine zi_getR C zc_9 (k := 26) (by decide) zw_40 rfl hn_v0 hk_v0 d_Md_hasCompare_23 (fun _ _ _ => rfl) hF (fun b3 hn_b3 hk_b3 hF => ?_)
      refine zi_iload_n C d_Md_hasCompare_26 rfl 1 rfl ?_
      refine zi_iald C hn_b3 hk_b3 d_Md_hasCompare_27 hF (fun x4 hF => ?_)
      obtain ⟨r5, M, hqr5, hF⟩ := zzcall_e hF
      refine zi_callS_i (M2 := M) (r := r5) (n := 1) (As := [.int x4]) (st := []) C (c_Md_strength hqr5 ) zw_41 zw_18 (by decide +kernel) ⟨Nat.le_of_ble_eq_true rfl, Nat.le_of_ble_eq_true rfl⟩ rfl (Nat.le_of_ble_eq_true rfl) ⟨Nat.le_of_ble_eq_true rfl, Nat.le_of_ble_eq_true rfl⟩ zw_42 zw_43 rfl d_Md_hasCompare_28 ?_
      refine zi_iconst (v := 1) C d_Md_hasCompare_31 (by decide) ?_
      refine zi_icmp_ne (tgt := 37) C d_Md_hasCompare_32 (by decide) hF (fun hF => ?_) (fun hF => ?_)
      · refine zi_iinc (j := 1) (v0 := -1) C d_Md_hasCompare_37 rfl (by decide) (by decide) hF (fun x6 => [(1, .int x6), (0, .ref (bs + v0))]) (fun _ => rfl) (fun x6 hF => ?_)
        refine zi_goto (tgt := 7) C d_Md_hasCompare_40 (by decide) ?_
        refine zz_sub [1, 0] (lv' := [(0, .ref (bs + v0)), (1, .int x6)]) rfl ?_
        exact hk7 _ v0 x6 hn_v0 hk_v0 hF
      · refine zi_iconst (v := 1) C d_Md_hasCompare_35 (by decide) ?_
        exact zi_zret C hlocks hr (by decide +kernel) d_Md_hasCompare_36 (by cases hF; rfl) rfl (by cases hF; rfl) rfl
set_option maxHeartbeats 4000000 in
set_option maxRecDepth 100000 in
theorem g_Md_hasCompare_7 {p : Program} {l : Launch} {e : Env} {s : State} {m : MethodId} {args : Array Value} {below : List Frame} {meth : Method} {c : Code} {D : zzD} {bs : Nat} {A : Nat → Prop} {S : zzS} {hz : Nat} {out : Int32 × zzM}  (C : zzC p s m args c prog_12_method_20_code "BoardScriptModel" 2 D) (hlocks : meth.locks = false) (hr : meth.sig.returnType = (some .boolean)) (hin : meth.name = "hasCompare")    : ∀ (n : Nat) (M : zzM) (v0 : Nat) (v1 : Int32) (hn_v0 : v0 < S.2.1) (hk_v0 : zzk S v0 = 19) (hF : F_Md_hasCompare_7 S   n M v0 v1 = some out), zzB p l e { frames := 1, cells := 0, slots := 0, locals := 20 } s m args below meth c 2 D bs A (MQ below (zzQc D bs A S out.2 hz (some (.int out.1))) args s 0 0 A) 0 0 S M hz 7 [(0, .ref (bs + v0)), (1, .int v1)] [] := by
  intro n
  induction n with
  | zero => intro M v0 v1 hn_v0 hk_v0 hF; cases hF
  | succ n ih => intro M v0 v1 hn_v0 hk_v0 hF; exact g_Md_hasCompare_7_b C hlocks hr hin   ih M v0 v1 hn_v0 hk_v0 hF
def F_Md_hasCompare (S : zzS)  (M : zzM) (v0 : Nat) : Option (Int32 × zzM) := zzlet (zzI M v0 25) fun x1 => zzlet (x1 - (1 : Int32)) fun x2 => F_Md_hasCompare_7 S   2000 M v0 x2
set_option maxHeartbeats 4000000 in
set_option maxRecDepth 100000 in
theorem c_Md_hasCompare {l : Launch} {D : zzD} {bs : Nat} {A : Nat → Prop} {S : zzS} {M : zzM} {hz : Nat} {out : Int32 × zzM} {v0 : Nat}   (hF : F_Md_hasCompare S  M v0 = some out) (hn_v0 : v0 < S.2.1) (hk_v0 : zzk S v0 = 19) : Met l y_Md_hasCompare (Cond.code y_Md_hasCompare prog_12_method_20_code 2 (some .boolean) :: zzW) { frames := 1, cells := 0, slots := 0, locals := 20 } (zzPc D bs A S M hz [.ref (bs + v0)]) (zzQc D bs A S out.2 hz (some (.int out.1))) 0 0 A := by
  refine zz_met [.ref (bs + v0)] (by decide) (Nat.le_of_ble_eq_true rfl) (fun p e s m args below meth c C hr hlocks hin hsz => ?_)
  refine zz_eq (lv' := [(0, .ref (bs + v0))]) (st' := []) rfl rfl ?_
  unfold F_Md_hasCompare at hF
  refine zi_aload_n C d_Md_hasCompare_0 rfl 0 rfl ?_
  refine zi_getI C zc_9 (k := 25) (by decide) zw_39 rfl hn_v0 hk_v0 d_Md_hasCompare_1 (fun _ _ _ => rfl) hF (fun x1 hF => ?_)
  refine zi_iconst (v := 1) C d_Md_hasCompare_4 (by decide) ?_
  refine zi_isub C d_Md_hasCompare_5 hF (fun x2 hF => ?_)
  refine zi_istore_n (lv' := [(1, .int x2), (0, .ref (bs + v0))]) C d_Md_hasCompare_6 rfl (by decide) rfl ?_
  refine zz_sub [1, 0] (lv' := [(0, .ref (bs + v0)), (1, .int x2)]) rfl ?_
  exact g_Md_hasCompare_7 C hlocks hr hin   _ _ v0 x2 hn_v0 hk_v0 hF
def F_Md_readCodes_116 (S : zzS)  (k20 : zzM → Nat → Int32 → Int32 → Int32 → Int32 → Option (Int32 × zzM)) (M : zzM) (v0 : Nat) (v1 : Int32) (v2 : Int32) (v3 : Int32) (v5 : Int32) : Option (Int32 × zzM) := zzcall (F_Md_strength S M v5) fun r1 M => zzcall (F_Md_drain S M v0 r1) fun r2 M => zzref S 1 (zzR M v0 26) fun b3 => zzlet (zzI M v0 25) fun x4 => zzix S b3 x4 (zzlet (zzsI M b3 (x4).toNatClampNeg v5) fun M => zzlet (zzI M v0 25) fun x5 => zzlet (x5 + (1 : Int32)) fun x6 => zzlet (zzsI M v0 25 x6) fun M => zzlet (zzI M v0 16) fun x7 => zzlet (x7 + (1 : Int32)) fun x8 => zzlet (zzsI M v0 16 x8) fun M => k20 M v0 v1 v2 v3 (1 : Int32))
set_option maxHeartbeats 4000000 in
set_option maxRecDepth 100000 in
theorem g_Md_readCodes_116 {p : Program} {l : Launch} {e : Env} {s : State} {m : MethodId} {args : Array Value} {below : List Frame} {meth : Method} {c : Code} {D : zzD} {bs : Nat} {A : Nat → Prop} {S : zzS} {hz : Nat} {out : Int32 × zzM}  (C : zzC p s m args c prog_12_method_21_code "BoardScriptModel" 6 D) (hlocks : meth.locks = false) (hr : meth.sig.returnType = (some .int)) (hin : meth.name = "readCodes")  {k20 : zzM → Nat → Int32 → Int32 → Int32 → Int32 → Option (Int32 × zzM)} (hk20 : ∀ (M : zzM) (v0 : Nat) (v1 : Int32) (v2 : Int32) (v3 : Int32) (v4 : Int32) (hn_v0 : v0 < S.2.1) (hk_v0 : zzk S v0 = 19), k20 M v0 v1 v2 v3 v4 = some out → zzB p l e { frames := 4, cells := 0, slots := 0, locals := 86 } s m args below meth c 6 D bs A (MQ below (zzQc D bs A S out.2 hz (some (.int out.1))) args s 0 0 A) 0 0 S M hz 20 [(0, .ref (bs + v0)), (1, .int v1), (2, .int v2), (3, .int v3), (4, .int v4)] []) (M : zzM) (v0 : Nat) (v1 : Int32) (v2 : Int32) (v3 : Int32) (v5 : Int32) (hn_v0 : v0 < S.2.1) (hk_v0 : zzk S v0 = 19) (hF : F_Md_readCodes_116 S  k20 M v0 v1 v2 v3 v5 = some out) : zzB p l e { frames := 4, cells := 0, slots := 0, locals := 86 } s m args below meth c 6 D bs A (MQ below (zzQc D bs A S out.2 hz (some (.int out.1))) args s 0 0 A) 0 0 S M hz 116 [(0, .ref (bs + v0)), (1, .int v1), (2, .int v2), (3, .int v3), (5, .int v5)] [] := by
  unfold F_Md_readCodes_116 at hF
  refine zi_aload_n C d_Md_readCodes_116 rfl 0 rfl ?_
  refine zi_iload C d_Md_readCodes_117 4 rfl ?_
  obtain ⟨r1, M, hqr1, hF⟩ := zzcall_e hF
  refine zi_callS_i (M2 := M) (r := r1) (n := 1) (As := [.int v5]) (st := [.ref (bs + v0)]) C (c_Md_strength hqr1 ) zw_41 zw_18 (by decide +kernel) ⟨Nat.le_of_ble_eq_true rfl, Nat.le_of_ble_eq_true rfl⟩ rfl (Nat.le_of_ble_eq_true rfl) ⟨Nat.le_of_ble_eq_true rfl, Nat.le_of_ble_eq_true rfl⟩ zw_42 zw_43 rfl d_Md_readCodes_119 ?_
  obtain ⟨r2, M, hqr2, hF⟩ := zzcall_e hF
  refine zi_callV_v (M2 := M) (n := 1) (As := [.int r1]) (st := []) C (c_Md_drain hqr2 hn_v0 hk_v0) zw_78 zw_18 (by decide +kernel) ⟨Nat.le_of_ble_eq_true rfl, Nat.le_of_ble_eq_true rfl⟩ rfl (Nat.le_of_ble_eq_true rfl) ⟨Nat.le_of_ble_eq_true rfl, Nat.le_of_ble_eq_true rfl⟩ zw_79 zw_80 zw_81 zc_9.1 hn_v0 hk_v0 rfl d_Md_readCodes_122 ?_
  refine zi_aload_n C d_Md_readCodes_125 rfl 0 rfl ?_
  refine zi_getR C zc_9 (k := 26) (by decide) zw_40 rfl hn_v0 hk_v0 d_Md_readCodes_126 (fun _ _ _ => rfl) hF (fun b3 hn_b3 hk_b3 hF => ?_)
  refine zi_aload_n C d_Md_readCodes_129 rfl 0 rfl ?_
  refine zi_getI C zc_9 (k := 25) (by decide) zw_39 rfl hn_v0 hk_v0 d_Md_readCodes_130 (fun _ _ _ => rfl) hF (fun x4 hF => ?_)
  refine zi_iload C d_Md_readCodes_133 4 rfl ?_
  refine zi_iast C hn_b3 hk_b3 d_Md_readCodes_135 hF (fun M hF => ?_)
  refine zi_aload_n C d_Md_readCodes_136 rfl 0 rfl ?_
  refine zi_dup C d_Md_readCodes_137 rfl ?_
  refine zi_getI C zc_9 (k := 25) (by decide) zw_39 rfl hn_v0 hk_v0 d_Md_readCodes_138 (fun _ _ _ => rfl) hF (fun x5 hF => ?_)
  refine zi_iconst (v := 1) C d_Md_readCodes_141 (by decide) ?_
  refine zi_iadd C d_Md_readCodes_142 hF (fun x6 hF => ?_)
  refine zi_putI C zc_9 (k := 25) (by decide) zw_39 rfl (Or.inl rfl) hn_v0 hk_v0 d_Md_readCodes_143 rfl hF (fun M hF => ?_)
  refine zi_aload_n C d_Md_readCodes_146 rfl 0 rfl ?_
  refine zi_dup C d_Md_readCodes_147 rfl ?_
  refine zi_getI C zc_9 (k := 16) (by decide) zw_29 rfl hn_v0 hk_v0 d_Md_readCodes_148 (fun _ _ _ => rfl) hF (fun x7 hF => ?_)
  refine zi_iconst (v := 1) C d_Md_readCodes_151 (by decide) ?_
  refine zi_iadd C d_Md_readCodes_152 hF (fun x8 hF => ?_)
  refine zi_putI C zc_9 (k := 16) (by decide) zw_29 rfl (Or.inl rfl) hn_v0 hk_v0 d_Md_readCodes_153 rfl hF (fun M hF => ?_)
  refine zi_iconst (v := 1) C d_Md_readCodes_156 (by decide) ?_
  refine zi_istore (lv' := [(4, .int (1 : Int32)), (0, .ref (bs + v0)), (1, .int v1), (2, .int v2), (3, .int v3), (5, .int v5)]) C d_Md_readCodes_157 (by decide) rfl ?_
  refine zi_goto (tgt := 243) C d_Md_readCodes_159 (by decide) ?_
  refine zi_goto (tgt := 20) C d_Md_readCodes_243 (by decide) ?_
  refine zz_sub [1, 2, 3, 4, 0] (lv' := [(0, .ref (bs + v0)), (1, .int v1), (2, .int v2), (3, .int v3), (4, .int (1 : Int32))]) rfl ?_
  exact hk20 _ v0 v1 v2 v3 (1 : Int32) hn_v0 hk_v0 hF
def F_Md_readCodes_218 (S : zzS)  (k20 : zzM → Nat → Int32 → Int32 → Int32 → Int32 → Option (Int32 × zzM)) (M : zzM) (v0 : Nat) (v1 : Int32) (v2 : Int32) (v3 : Int32) (v4 : Int32) : Option (Int32 × zzM) := zzcall (F_Md_hasParen S M v0) fun r1 M => if r1 = 0 then (zzcall (F_Md_drain S M v0 (1 : Int32)) fun r2 M => k20 M v0 v1 v2 (0 : Int32) v4) else (zzlet (zzI M v0 16) fun x3 => zzlet (zzsI M v0 17 x3) fun M => k20 M v0 v1 v2 v3 v4)
set_option maxHeartbeats 4000000 in
set_option maxRecDepth 100000 in
theorem g_Md_readCodes_218 {p : Program} {l : Launch} {e : Env} {s : State} {m : MethodId} {args : Array Value} {below : List Frame} {meth : Method} {c : Code} {D : zzD} {bs : Nat} {A : Nat → Prop} {S : zzS} {hz : Nat} {out : Int32 × zzM}  (C : zzC p s m args c prog_12_method_21_code "BoardScriptModel" 6 D) (hlocks : meth.locks = false) (hr : meth.sig.returnType = (some .int)) (hin : meth.name = "readCodes")  {k20 : zzM → Nat → Int32 → Int32 → Int32 → Int32 → Option (Int32 × zzM)} (hk20 : ∀ (M : zzM) (v0 : Nat) (v1 : Int32) (v2 : Int32) (v3 : Int32) (v4 : Int32) (hn_v0 : v0 < S.2.1) (hk_v0 : zzk S v0 = 19), k20 M v0 v1 v2 v3 v4 = some out → zzB p l e { frames := 4, cells := 0, slots := 0, locals := 86 } s m args below meth c 6 D bs A (MQ below (zzQc D bs A S out.2 hz (some (.int out.1))) args s 0 0 A) 0 0 S M hz 20 [(0, .ref (bs + v0)), (1, .int v1), (2, .int v2), (3, .int v3), (4, .int v4)] []) (M : zzM) (v0 : Nat) (v1 : Int32) (v2 : Int32) (v3 : Int32) (v4 : Int32) (hn_v0 : v0 < S.2.1) (hk_v0 : zzk S v0 = 19) (hF : F_Md_readCodes_218 S  k20 M v0 v1 v2 v3 v4 = some out) : zzB p l e { frames := 4, cells := 0, slots := 0, locals := 86 } s m args below meth c 6 D bs A (MQ below (zzQc D bs A S out.2 hz (some (.int out.1))) args s 0 0 A) 0 0 S M hz 218 [(0, .ref (bs + v0)), (1, .int v1), (2, .int v2), (3, .int v3), (4, .int v4)] [] := by
  unfold F_Md_readCodes_218 at hF
  refine zi_aload_n C d_Md_readCodes_218 rfl 0 rfl ?_
  obtain ⟨r1, M, hqr1, hF⟩ := zzcall_e hF
  refine zi_callV_i (M2 := M) (r := r1) (n := 0) (As := []) (st := []) C (c_Md_hasParen hqr1 hn_v0 hk_v0) zw_82 zw_18 (by decide +kernel) ⟨Nat.le_of_ble_eq_true rfl, Nat.le_of_ble_eq_true rfl⟩ rfl (Nat.le_of_ble_eq_true rfl) ⟨Nat.le_of_ble_eq_true rfl, Nat.le_of_ble_eq_true rfl⟩ zw_83 zw_84 zw_85 zc_9.1 hn_v0 hk_v0 rfl d_Md_readCodes_219 ?_
  refine zi_if_eq (tgt := 236) C d_Md_readCodes_222 (by decide) hF (fun hF => ?_) (fun hF => ?_)
  · refine zi_aload_n C d_Md_readCodes_236 rfl 0 rfl ?_
    refine zi_iconst (v := 1) C d_Md_readCodes_237 (by decide) ?_
    obtain ⟨r2, M, hqr2, hF⟩ := zzcall_e hF
    refine zi_callV_v (M2 := M) (n := 1) (As := [.int (1 : Int32)]) (st := []) C (c_Md_drain hqr2 hn_v0 hk_v0) zw_78 zw_18 (by decide +kernel) ⟨Nat.le_of_ble_eq_true rfl, Nat.le_of_ble_eq_true rfl⟩ rfl (Nat.le_of_ble_eq_true rfl) ⟨Nat.le_of_ble_eq_true rfl, Nat.le_of_ble_eq_true rfl⟩ zw_79 zw_80 zw_81 zc_9.1 hn_v0 hk_v0 rfl d_Md_readCodes_238 ?_
    refine zi_iconst (v := 0) C d_Md_readCodes_241 (by decide) ?_
    refine zi_istore_n (lv' := [(3, .int (0 : Int32)), (0, .ref (bs + v0)), (1, .int v1), (2, .int v2), (4, .int v4)]) C d_Md_readCodes_242 rfl (by decide) rfl ?_
    refine zi_goto (tgt := 20) C d_Md_readCodes_243 (by decide) ?_
    refine zz_sub [1, 2, 3, 0, 4] (lv' := [(0, .ref (bs + v0)), (1, .int v1), (2, .int v2), (3, .int (0 : Int32)), (4, .int v4)]) rfl ?_
    exact hk20 _ v0 v1 v2 (0 : Int32) v4 hn_v0 hk_v0 hF
  · refine zi_aload_n C d_Md_readCodes_225 rfl 0 rfl ?_
    refine zi_aload_n C d_Md_readCodes_226 rfl 0 rfl ?_
    refine zi_getI C zc_9 (k := 16) (by decide) zw_29 rfl hn_v0 hk_v0 d_Md_readCodes_227 (fun _ _ _ => rfl) hF (fun x3 hF => ?_)
    refine zi_putI C zc_9 (k := 17) (by decide) zw_30 rfl (Or.inl rfl) hn_v0 hk_v0 d_Md_readCodes_230 rfl hF (fun M hF => ?_)
    refine zi_goto (tgt := 243) C d_Md_readCodes_233 (by decide) ?_
    refine zi_goto (tgt := 20) C d_Md_readCodes_243 (by decide) ?_
    refine zz_sub [0, 1, 2, 3, 4] (lv' := [(0, .ref (bs + v0)), (1, .int v1), (2, .int v2), (3, .int v3), (4, .int v4)]) rfl ?_
    exact hk20 _ v0 v1 v2 v3 v4 hn_v0 hk_v0 hF
def F_Md_readCodes_162 (S : zzS)  (k20 : zzM → Nat → Int32 → Int32 → Int32 → Int32 → Option (Int32 × zzM)) (M : zzM) (v0 : Nat) (v1 : Int32) (v2 : Int32) (v3 : Int32) (v4 : Int32) (v5 : Int32) : Option (Int32 × zzM) := if v5 = (41 : Int32) then (zzcall (F_Md_hasParen S M v0) fun r1 M => if r1 = 0 then (F_Md_readCodes_218 S  k20 M v0 v1 v2 v3 v4) else (zzcall (F_Md_drain S M v0 (1 : Int32)) fun r2 M => zzlet (zzI M v0 25) fun x3 => zzlet (x3 - (1 : Int32)) fun x4 => zzlet (zzsI M v0 25 x4) fun M => zzlet (zzI M v0 27) fun x5 => zzlet (x5 - (1 : Int32)) fun x6 => zzlet (zzsI M v0 27 x6) fun M => zzlet (zzI M v0 16) fun x7 => zzlet (x7 + (1 : Int32)) fun x8 => zzlet (zzsI M v0 16 x8) fun M => zzcall (F_Md_complete S M v0) fun r9 M => k20 M v0 v1 v2 v3 v4)) else (F_Md_readCodes_218 S  k20 M v0 v1 v2 v3 v4)
set_option maxHeartbeats 4000000 in
set_option maxRecDepth 100000 in
theorem g_Md_readCodes_162 {p : Program} {l : Launch} {e : Env} {s : State} {m : MethodId} {args : Array Value} {below : List Frame} {meth : Method} {c : Code} {D : zzD} {bs : Nat} {A : Nat → Prop} {S : zzS} {hz : Nat} {out : Int32 × zzM}  (C : zzC p s m args c prog_12_method_21_code "BoardScriptModel" 6 D) (hlocks : meth.locks = false) (hr : meth.sig.returnType = (some .int)) (hin : meth.name = "readCodes")  {k20 : zzM → Nat → Int32 → Int32 → Int32 → Int32 → Option (Int32 × zzM)} (hk20 : ∀ (M : zzM) (v0 : Nat) (v1 : Int32) (v2 : Int32) (v3 : Int32) (v4 : Int32) (hn_v0 : v0 < S.2.1) (hk_v0 : zzk S v0 = 19), k20 M v0 v1 v2 v3 v4 = some out → zzB p l e { frames := 4, cells := 0, slots := 0, locals := 86 } s m args below meth c 6 D bs A (MQ below (zzQc D bs A S out.2 hz (some (.int out.1))) args s 0 0 A) 0 0 S M hz 20 [(0, .ref (bs + v0)), (1, .int v1), (2, .int v2), (3, .int v3), (4, .int v4)] []) (M : zzM) (v0 : Nat) (v1 : Int32) (v2 : Int32) (v3 : Int32) (v4 : Int32) (v5 : Int32) (hn_v0 : v0 < S.2.1) (hk_v0 : zzk S v0 = 19) (hF : F_Md_readCodes_162 S  k20 M v0 v1 v2 v3 v4 v5 = some out) : zzB p l e { frames := 4, cells := 0, slots := 0, locals := 86 } s m args below meth c 6 D bs A (MQ below (zzQc D bs A S out.2 hz (some (.int out.1))) args s 0 0 A) 0 0 S M hz 162 [(0, .ref (bs + v0)), (1, .int v1), (2, .int v2), (3, .int v3), (4, .int v4), (5, .int v5)] [] := by
  unfold F_Md_readCodes_162 at hF
  refine zi_iload C d_Md_readCodes_162 5 rfl ?_
  refine zi_bipush (v := 41) C d_Md_readCodes_164 (by decide) ?_
  refine zi_icmp_ne (tgt := 218) C d_Md_readCodes_166 (by decide) hF (fun hF => ?_) (fun hF => ?_)
  · refine zz_sub [0, 1, 2, 3, 4] (lv' := [(0, .ref (bs + v0)), (1, .int v1), (2, .int v2), (3, .int v3), (4, .int v4)]) rfl ?_
    exact g_Md_readCodes_218 C hlocks hr hin  hk20 _ v0 v1 v2 v3 v4 hn_v0 hk_v0 hF
  · refine zi_aload_n C d_Md_readCodes_169 rfl 0 rfl ?_
    obtain ⟨r1, M, hqr1, hF⟩ := zzcall_e hF
    refine zi_callV_i (M2 := M) (r := r1) (n := 0) (As := []) (st := []) C (c_Md_hasParen hqr1 hn_v0 hk_v0) zw_82 zw_18 (by decide +kernel) ⟨Nat.le_of_ble_eq_true rfl, Nat.le_of_ble_eq_true rfl⟩ rfl (Nat.le_of_ble_eq_true rfl) ⟨Nat.le_of_ble_eq_true rfl, Nat.le_of_ble_eq_true rfl⟩ zw_83 zw_84 zw_85 zc_9.1 hn_v0 hk_v0 rfl d_Md_readCodes_170 ?_
    refine zi_if_eq (tgt := 218) C d_Md_readCodes_173 (by decide) hF (fun hF => ?_) (fun hF => ?_)
    · refine zz_sub [0, 1, 2, 3, 4] (lv' := [(0, .ref (bs + v0)), (1, .int v1), (2, .int v2), (3, .int v3), (4, .int v4)]) rfl ?_
      exact g_Md_readCodes_218 C hlocks hr hin  hk20 _ v0 v1 v2 v3 v4 hn_v0 hk_v0 hF
    · refine zi_aload_n C d_Md_readCodes_176 rfl 0 rfl ?_
      refine zi_iconst (v := 1) C d_Md_readCodes_177 (by decide) ?_
      obtain ⟨r2, M, hqr2, hF⟩ := zzcall_e hF
      refine zi_callV_v (M2 := M) (n := 1) (As := [.int (1 : Int32)]) (st := []) C (c_Md_drain hqr2 hn_v0 hk_v0) zw_78 zw_18 (by decide +kernel) ⟨Nat.le_of_ble_eq_true rfl, Nat.le_of_ble_eq_true rfl⟩ rfl (Nat.le_of_ble_eq_true rfl) ⟨Nat.le_of_ble_eq_true rfl, Nat.le_of_ble_eq_true rfl⟩ zw_79 zw_80 zw_81 zc_9.1 hn_v0 hk_v0 rfl d_Md_readCodes_178 ?_
      refine zi_aload_n C d_Md_readCodes_181 rfl 0 rfl ?_
      refine zi_dup C d_Md_readCodes_182 rfl ?_
      refine zi_getI C zc_9 (k := 25) (by decide) zw_39 rfl hn_v0 hk_v0 d_Md_readCodes_183 (fun _ _ _ => rfl) hF (fun x3 hF => ?_)
      refine zi_iconst (v := 1) C d_Md_readCodes_186 (by decide) ?_
      refine zi_isub C d_Md_readCodes_187 hF (fun x4 hF => ?_)
      refine zi_putI C zc_9 (k := 25) (by decide) zw_39 rfl (Or.inl rfl) hn_v0 hk_v0 d_Md_readCodes_188 rfl hF (fun M hF => ?_)
      refine zi_aload_n C d_Md_readCodes_191 rfl 0 rfl ?_
      refine zi_dup C d_Md_readCodes_192 rfl ?_
      refine zi_getI C zc_9 (k := 27) (by decide) zw_48 rfl hn_v0 hk_v0 d_Md_readCodes_193 (fun _ _ _ => rfl) hF (fun x5 hF => ?_)
      refine zi_iconst (v := 1) C d_Md_readCodes_196 (by decide) ?_
      refine zi_isub C d_Md_readCodes_197 hF (fun x6 hF => ?_)
      refine zi_putI C zc_9 (k := 27) (by decide) zw_48 rfl (Or.inl rfl) hn_v0 hk_v0 d_Md_readCodes_198 rfl hF (fun M hF => ?_)
      refine zi_aload_n C d_Md_readCodes_201 rfl 0 rfl ?_
      refine zi_dup C d_Md_readCodes_202 rfl ?_
      refine zi_getI C zc_9 (k := 16) (by decide) zw_29 rfl hn_v0 hk_v0 d_Md_readCodes_203 (fun _ _ _ => rfl) hF (fun x7 hF => ?_)
      refine zi_iconst (v := 1) C d_Md_readCodes_206 (by decide) ?_
      refine zi_iadd C d_Md_readCodes_207 hF (fun x8 hF => ?_)
      refine zi_putI C zc_9 (k := 16) (by decide) zw_29 rfl (Or.inl rfl) hn_v0 hk_v0 d_Md_readCodes_208 rfl hF (fun M hF => ?_)
      refine zi_aload_n C d_Md_readCodes_211 rfl 0 rfl ?_
      obtain ⟨r9, M, hqr9, hF⟩ := zzcall_e hF
      refine zi_callV_v (M2 := M) (n := 0) (As := []) (st := []) C (c_Md_complete hqr9 hn_v0 hk_v0) zw_59 zw_18 (by decide +kernel) ⟨Nat.le_of_ble_eq_true rfl, Nat.le_of_ble_eq_true rfl⟩ rfl (Nat.le_of_ble_eq_true rfl) ⟨Nat.le_of_ble_eq_true rfl, Nat.le_of_ble_eq_true rfl⟩ zw_60 zw_61 zw_62 zc_9.1 hn_v0 hk_v0 rfl d_Md_readCodes_212 ?_
      refine zi_goto (tgt := 243) C d_Md_readCodes_215 (by decide) ?_
      refine zi_goto (tgt := 20) C d_Md_readCodes_243 (by decide) ?_
      refine zz_sub [0, 1, 2, 3, 4] (lv' := [(0, .ref (bs + v0)), (1, .int v1), (2, .int v2), (3, .int v3), (4, .int v4)]) rfl ?_
      exact hk20 _ v0 v1 v2 v3 v4 hn_v0 hk_v0 hF
def F_Md_readCodes_91 (S : zzS)  (k20 : zzM → Nat → Int32 → Int32 → Int32 → Int32 → Option (Int32 × zzM)) (M : zzM) (v0 : Nat) (v1 : Int32) (v2 : Int32) (v3 : Int32) (v4 : Int32) (v5 : Int32) : Option (Int32 × zzM) := zzcall (F_Md_strength S M v5) fun r1 M => if (1 : Int32) < r1 then (F_Md_readCodes_116 S  k20 M v0 v1 v2 v3 v5) else (zzcall (F_Md_strength S M v5) fun r2 M => if r2 = (1 : Int32) then (zzcall (F_Md_hasCompare S M v0) fun r3 M => if r3 = 0 then (F_Md_readCodes_116 S  k20 M v0 v1 v2 v3 v5) else (F_Md_readCodes_162 S  k20 M v0 v1 v2 v3 v4 v5)) else (F_Md_readCodes_162 S  k20 M v0 v1 v2 v3 v4 v5))
set_option maxHeartbeats 4000000 in
set_option maxRecDepth 100000 in
theorem g_Md_readCodes_91 {p : Program} {l : Launch} {e : Env} {s : State} {m : MethodId} {args : Array Value} {below : List Frame} {meth : Method} {c : Code} {D : zzD} {bs : Nat} {A : Nat → Prop} {S : zzS} {hz : Nat} {out : Int32 × zzM}  (C : zzC p s m args c prog_12_method_21_code "BoardScriptModel" 6 D) (hlocks : meth.locks = false) (hr : meth.sig.returnType = (some .int)) (hin : meth.name = "readCodes")  {k20 : zzM → Nat → Int32 → Int32 → Int32 → Int32 → Option (Int32 × zzM)} (hk20 : ∀ (M : zzM) (v0 : Nat) (v1 : Int32) (v2 : Int32) (v3 : Int32) (v4 : Int32) (hn_v0 : v0 < S.2.1) (hk_v0 : zzk S v0 = 19), k20 M v0 v1 v2 v3 v4 = some out → zzB p l e { frames := 4, cells := 0, slots := 0, locals := 86 } s m args below meth c 6 D bs A (MQ below (zzQc D bs A S out.2 hz (some (.int out.1))) args s 0 0 A) 0 0 S M hz 20 [(0, .ref (bs + v0)), (1, .int v1), (2, .int v2), (3, .int v3), (4, .int v4)] []) (M : zzM) (v0 : Nat) (v1 : Int32) (v2 : Int32) (v3 : Int32) (v4 : Int32) (v5 : Int32) (hn_v0 : v0 < S.2.1) (hk_v0 : zzk S v0 = 19) (hF : F_Md_readCodes_91 S  k20 M v0 v1 v2 v3 v4 v5 = some out) : zzB p l e { frames := 4, cells := 0, slots := 0, locals := 86 } s m args below meth c 6 D bs A (MQ below (zzQc D bs A S out.2 hz (some (.int out.1))) args s 0 0 A) 0 0 S M hz 91 [(0, .ref (bs + v0)), (1, .int v1), (2, .int v2), (3, .int v3), (4, .int v4), (5, .int v5)] [] := by
  unfold F_Md_readCodes_91 at hF
  refine zi_iload C d_Md_readCodes_91 5 rfl ?_
  obtain ⟨r1, M, hqr1, hF⟩ := zzcall_e hF
  refine zi_callS_i (M2 := M) (r := r1) (n := 1) (As := [.int v5]) (st := []) C (c_Md_strength hqr1 ) zw_41 zw_18 (by decide +kernel) ⟨Nat.le_of_ble_eq_true rfl, Nat.le_of_ble_eq_true rfl⟩ rfl (Nat.le_of_ble_eq_true rfl) ⟨Nat.le_of_ble_eq_true rfl, Nat.le_of_ble_eq_true rfl⟩ zw_42 zw_43 rfl d_Md_readCodes_93 ?_
  refine zi_iconst (v := 1) C d_Md_readCodes_96 (by decide) ?_
  refine zi_icmp_gt (tgt := 116) C d_Md_readCodes_97 (by decide) hF (fun hF => ?_) (fun hF => ?_)
  · refine zz_sub [0, 1, 2, 3, 5] (lv' := [(0, .ref (bs + v0)), (1, .int v1), (2, .int v2), (3, .int v3), (5, .int v5)]) rfl ?_
    exact g_Md_readCodes_116 C hlocks hr hin  hk20 _ v0 v1 v2 v3 v5 hn_v0 hk_v0 hF
  · refine zi_iload C d_Md_readCodes_100 5 rfl ?_
    obtain ⟨r2, M, hqr2, hF⟩ := zzcall_e hF
    refine zi_callS_i (M2 := M) (r := r2) (n := 1) (As := [.int v5]) (st := []) C (c_Md_strength hqr2 ) zw_41 zw_18 (by decide +kernel) ⟨Nat.le_of_ble_eq_true rfl, Nat.le_of_ble_eq_true rfl⟩ rfl (Nat.le_of_ble_eq_true rfl) ⟨Nat.le_of_ble_eq_true rfl, Nat.le_of_ble_eq_true rfl⟩ zw_42 zw_43 rfl d_Md_readCodes_102 ?_
    refine zi_iconst (v := 1) C d_Md_readCodes_105 (by decide) ?_
    refine zi_icmp_ne (tgt := 162) C d_Md_readCodes_106 (by decide) hF (fun hF => ?_) (fun hF => ?_)
    · refine zz_sub [0, 1, 2, 3, 4, 5] (lv' := [(0, .ref (bs + v0)), (1, .int v1), (2, .int v2), (3, .int v3), (4, .int v4), (5, .int v5)]) rfl ?_
      exact g_Md_readCodes_162 C hlocks hr hin  hk20 _ v0 v1 v2 v3 v4 v5 hn_v0 hk_v0 hF
    · refine zi_aload_n C d_Md_readCodes_109 rfl 0 rfl ?_
      obtain ⟨r3, M, hqr3, hF⟩ := zzcall_e hF
      refine zi_callV_i (M2 := M) (r := r3) (n := 0) (As := []) (st := []) C (c_Md_hasCompare hqr3 hn_v0 hk_v0) zw_74 zw_18 (by decide +kernel) ⟨Nat.le_of_ble_eq_true rfl, Nat.le_of_ble_eq_true rfl⟩ rfl (Nat.le_of_ble_eq_true rfl) ⟨Nat.le_of_ble_eq_true rfl, Nat.le_of_ble_eq_true rfl⟩ zw_75 zw_76 zw_77 zc_9.1 hn_v0 hk_v0 rfl d_Md_readCodes_110 ?_
      refine zi_if_ne (tgt := 162) C d_Md_readCodes_113 (by decide) hF (fun hF => ?_) (fun hF => ?_)
      · refine zz_sub [0, 1, 2, 3, 4, 5] (lv' := [(0, .ref (bs + v0)), (1, .int v1), (2, .int v2), (3, .int v3), (4, .int v4), (5, .int v5)]) rfl ?_
        exact g_Md_readCodes_162 C hlocks hr hin  hk20 _ v0 v1 v2 v3 v4 v5 hn_v0 hk_v0 hF
      · refine zz_sub [0, 1, 2, 3, 5] (lv' := [(0, .ref (bs + v0)), (1, .int v1), (2, .int v2), (3, .int v3), (5, .int v5)]) rfl ?_
        exact g_Md_readCodes_116 C hlocks hr hin  hk20 _ v0 v1 v2 v3 v5 hn_v0 hk_v0 hF
def F_Md_readCodes_60 (S : zzS)  (k20 : zzM → Nat → Int32 → Int32 → Int32 → Int32 → Option (Int32 × zzM)) (M : zzM) (v0 : Nat) (v1 : Int32) (v2 : Int32) (v3 : Int32) (v4 : Int32) (v5 : Int32) : Option (Int32 × zzM) := if v4 = 0 then (zzlet (zzI M v0 25) fun x1 => if x1 = 0 then (if v1 = 0 then (k20 M v0 v1 v2 (0 : Int32) v4) else (F_Md_readCodes_91 S  k20 M v0 v1 v2 v3 v4 v5)) else (F_Md_readCodes_91 S  k20 M v0 v1 v2 v3 v4 v5)) else (zzcall (F_Md_readPlain S M v0) fun r2 M => k20 M v0 v1 v2 v3 (0 : Int32))
set_option maxHeartbeats 4000000 in
set_option maxRecDepth 100000 in
theorem g_Md_readCodes_60 {p : Program} {l : Launch} {e : Env} {s : State} {m : MethodId} {args : Array Value} {below : List Frame} {meth : Method} {c : Code} {D : zzD} {bs : Nat} {A : Nat → Prop} {S : zzS} {hz : Nat} {out : Int32 × zzM}  (C : zzC p s m args c prog_12_method_21_code "BoardScriptModel" 6 D) (hlocks : meth.locks = false) (hr : meth.sig.returnType = (some .int)) (hin : meth.name = "readCodes")  {k20 : zzM → Nat → Int32 → Int32 → Int32 → Int32 → Option (Int32 × zzM)} (hk20 : ∀ (M : zzM) (v0 : Nat) (v1 : Int32) (v2 : Int32) (v3 : Int32) (v4 : Int32) (hn_v0 : v0 < S.2.1) (hk_v0 : zzk S v0 = 19), k20 M v0 v1 v2 v3 v4 = some out → zzB p l e { frames := 4, cells := 0, slots := 0, locals := 86 } s m args below meth c 6 D bs A (MQ below (zzQc D bs A S out.2 hz (some (.int out.1))) args s 0 0 A) 0 0 S M hz 20 [(0, .ref (bs + v0)), (1, .int v1), (2, .int v2), (3, .int v3), (4, .int v4)] []) (M : zzM) (v0 : Nat) (v1 : Int32) (v2 : Int32) (v3 : Int32) (v4 : Int32) (v5 : Int32) (hn_v0 : v0 < S.2.1) (hk_v0 : zzk S v0 = 19) (hF : F_Md_readCodes_60 S  k20 M v0 v1 v2 v3 v4 v5 = some out) : zzB p l e { frames := 4, cells := 0, slots := 0, locals := 86 } s m args below meth c 6 D bs A (MQ below (zzQc D bs A S out.2 hz (some (.int out.1))) args s 0 0 A) 0 0 S M hz 60 [(0, .ref (bs + v0)), (1, .int v1), (2, .int v2), (3, .int v3), (4, .int v4), (5, .int v5)] [] := by
  unfold F_Md_readCodes_60 at hF
  refine zi_iload C d_Md_readCodes_60 4 rfl ?_
  refine zi_if_eq (tgt := 75) C d_Md_readCodes_62 (by decide) hF (fun hF => ?_) (fun hF => ?_)
  · refine zi_aload_n C d_Md_readCodes_75 rfl 0 rfl ?_
    refine zi_getI C zc_9 (k := 25) (by decide) zw_39 rfl hn_v0 hk_v0 d_Md_readCodes_76 (fun _ _ _ => rfl) hF (fun x1 hF => ?_)
    refine zi_if_ne (tgt := 91) C d_Md_readCodes_79 (by decide) hF (fun hF => ?_) (fun hF => ?_)
    · refine zz_sub [0, 1, 2, 3, 4, 5] (lv' := [(0, .ref (bs + v0)), (1, .int v1), (2, .int v2), (3, .int v3), (4, .int v4), (5, .int v5)]) rfl ?_
      exact g_Md_readCodes_91 C hlocks hr hin  hk20 _ v0 v1 v2 v3 v4 v5 hn_v0 hk_v0 hF
    · refine zi_iload_n C d_Md_readCodes_82 rfl 1 rfl ?_
      refine zi_if_ne (tgt := 91) C d_Md_readCodes_83 (by decide) hF (fun hF => ?_) (fun hF => ?_)
      · refine zz_sub [0, 1, 2, 3, 4, 5] (lv' := [(0, .ref (bs + v0)), (1, .int v1), (2, .int v2), (3, .int v3), (4, .int v4), (5, .int v5)]) rfl ?_
        exact g_Md_readCodes_91 C hlocks hr hin  hk20 _ v0 v1 v2 v3 v4 v5 hn_v0 hk_v0 hF
      · refine zi_iconst (v := 0) C d_Md_readCodes_86 (by decide) ?_
        refine zi_istore_n (lv' := [(3, .int (0 : Int32)), (0, .ref (bs + v0)), (1, .int v1), (2, .int v2), (4, .int v4), (5, .int v5)]) C d_Md_readCodes_87 rfl (by decide) rfl ?_
        refine zi_goto (tgt := 243) C d_Md_readCodes_88 (by decide) ?_
        refine zi_goto (tgt := 20) C d_Md_readCodes_243 (by decide) ?_
        refine zz_sub [1, 2, 3, 0, 4] (lv' := [(0, .ref (bs + v0)), (1, .int v1), (2, .int v2), (3, .int (0 : Int32)), (4, .int v4)]) rfl ?_
        exact hk20 _ v0 v1 v2 (0 : Int32) v4 hn_v0 hk_v0 hF
  · refine zi_aload_n C d_Md_readCodes_65 rfl 0 rfl ?_
    obtain ⟨r2, M, hqr2, hF⟩ := zzcall_e hF
    refine zi_callV_v (M2 := M) (n := 0) (As := []) (st := []) C (c_Md_readPlain hqr2 hn_v0 hk_v0) zw_70 zw_18 (by decide +kernel) ⟨Nat.le_of_ble_eq_true rfl, Nat.le_of_ble_eq_true rfl⟩ rfl (Nat.le_of_ble_eq_true rfl) ⟨Nat.le_of_ble_eq_true rfl, Nat.le_of_ble_eq_true rfl⟩ zw_71 zw_72 zw_73 zc_9.1 hn_v0 hk_v0 rfl d_Md_readCodes_66 ?_
    refine zi_iconst (v := 0) C d_Md_readCodes_69 (by decide) ?_
    refine zi_istore (lv' := [(4, .int (0 : Int32)), (0, .ref (bs + v0)), (1, .int v1), (2, .int v2), (3, .int v3), (5, .int v5)]) C d_Md_readCodes_70 (by decide) rfl ?_
    refine zi_goto (tgt := 243) C d_Md_readCodes_72 (by decide) ?_
    refine zi_goto (tgt := 20) C d_Md_readCodes_243 (by decide) ?_
    refine zz_sub [1, 2, 3, 4, 0] (lv' := [(0, .ref (bs + v0)), (1, .int v1), (2, .int v2), (3, .int v3), (4, .int (0 : Int32))]) rfl ?_
    exact hk20 _ v0 v1 v2 v3 (0 : Int32) hn_v0 hk_v0 hF
def F_Md_readCodes_20_b (S : zzS)  (k20 : zzM → Nat → Int32 → Int32 → Int32 → Int32 → Option (Int32 × zzM)) (M : zzM) (v0 : Nat) (v1 : Int32) (v2 : Int32) (v3 : Int32) (v4 : Int32) : Option (Int32 × zzM) := zzlet (zzI M v0 17) fun x1 => if x1 = (-1 : Int32) then (if v3 = 0 then (zzlet (zzI M v0 17) fun x4 => if x4 = (-1 : Int32) then (zzcall (F_Md_code S M v0 (0 : Int32) (0 : Int32)) fun r5 M => some (v2, M)) else (some (v2, M))) else (zzcall (F_Md_peek S M v0) fun r6 M => if v4 = 0 then (F_Md_readCodes_60 S  k20 M v0 v1 v2 v3 v4 r6) else (zzcall (F_Md_isNest S M r6) fun r7 M => if r7 = 0 then (F_Md_readCodes_60 S  k20 M v0 v1 v2 v3 v4 r6) else (zzcall (F_Md_nest S M v0 r6) fun r8 M => k20 M v0 v1 v2 v3 v4)))) else (zzlet (zzI M v0 17) fun x2 => if x2 = (-1 : Int32) then (zzcall (F_Md_code S M v0 (0 : Int32) (0 : Int32)) fun r3 M => some (v2, M)) else (some (v2, M)))
def F_Md_readCodes_20 (S : zzS)   (n : Nat) : zzM → Nat → Int32 → Int32 → Int32 → Int32 → Option (Int32 × zzM) := Nat.rec (fun _ _ _ _ _ _ => none) (fun _ k => F_Md_readCodes_20_b S   k) n
set_option maxHeartbeats 4000000 in
set_option maxRecDepth 100000 in
theorem g_Md_readCodes_20_b {p : Program} {l : Launch} {e : Env} {s : State} {m : MethodId} {args : Array Value} {below : List Frame} {meth : Method} {c : Code} {D : zzD} {bs : Nat} {A : Nat → Prop} {S : zzS} {hz : Nat} {out : Int32 × zzM}  (C : zzC p s m args c prog_12_method_21_code "BoardScriptModel" 6 D) (hlocks : meth.locks = false) (hr : meth.sig.returnType = (some .int)) (hin : meth.name = "readCodes")  {k20 : zzM → Nat → Int32 → Int32 → Int32 → Int32 → Option (Int32 × zzM)} (hk20 : ∀ (M : zzM) (v0 : Nat) (v1 : Int32) (v2 : Int32) (v3 : Int32) (v4 : Int32) (hn_v0 : v0 < S.2.1) (hk_v0 : zzk S v0 = 19), k20 M v0 v1 v2 v3 v4 = some out → zzB p l e { frames := 4, cells := 0, slots := 0, locals := 86 } s m args below meth c 6 D bs A (MQ below (zzQc D bs A S out.2 hz (some (.int out.1))) args s 0 0 A) 0 0 S M hz 20 [(0, .ref (bs + v0)), (1, .int v1), (2, .int v2), (3, .int v3), (4, .int v4)] []) (M : zzM) (v0 : Nat) (v1 : Int32) (v2 : Int32) (v3 : Int32) (v4 : Int32) (hn_v0 : v0 < S.2.1) (hk_v0 : zzk S v0 = 19) (hF : F_Md_readCodes_20_b S  k20 M v0 v1 v2 v3 v4 = some out) : zzB p l e { frames := 4, cells := 0, slots := 0, locals := 86 } s m args below meth c 6 D bs A (MQ below (zzQc D bs A S out.2 hz (some (.int out.1))) args s 0 0 A) 0 0 S M hz 20 [(0, .ref (bs + v0)), (1, .int v1), (2, .int v2), (3, .int v3), (4, .int v4)] [] := by
  unfold F_Md_readCodes_20_b at hF
  refine zi_aload_n C d_Md_readCodes_20 rfl 0 rfl ?_
  refine zi_getI C zc_9 (k := 17) (by decide) zw_30 rfl hn_v0 hk_v0 d_Md_readCodes_21 (fun _ _ _ => rfl) hF (fun x1 hF => ?_)
  refine zi_iconst (v := -1) C d_Md_readCodes_24 (by decide) ?_
  refine zi_icmp_ne (tgt := 246) C d_Md_readCodes_25 (by decide) hF (fun hF => ?_) (fun hF => ?_)
  · refine zi_aload_n C d_Md_readCodes_246 rfl 0 rfl ?_
    refine zi_getI C zc_9 (k := 17) (by decide) zw_30 rfl hn_v0 hk_v0 d_Md_readCodes_247 (fun _ _ _ => rfl) hF (fun x2 hF => ?_)
    refine zi_iconst (v := -1) C d_Md_readCodes_250 (by decide) ?_
    refine zi_icmp_ne (tgt := 260) C d_Md_readCodes_251 (by decide) hF (fun hF => ?_) (fun hF => ?_)
    · refine zi_iload_n C d_Md_readCodes_260 rfl 2 rfl ?_
      exact zi_iret C hlocks hr d_Md_readCodes_261 (by cases hF; rfl) rfl (by cases hF; rfl) rfl
    · refine zi_aload_n C d_Md_readCodes_254 rfl 0 rfl ?_
      refine zi_iconst (v := 0) C d_Md_readCodes_255 (by decide) ?_
      refine zi_iconst (v := 0) C d_Md_readCodes_256 (by decide) ?_
      obtain ⟨r3, M, hqr3, hF⟩ := zzcall_e hF
      refine zi_callV_v (M2 := M) (n := 2) (As := [.int (0 : Int32), .int (0 : Int32)]) (st := []) C (c_Md_code hqr3 hn_v0 hk_v0) zw_44 zw_18 (by decide +kernel) ⟨Nat.le_of_ble_eq_true rfl, Nat.le_of_ble_eq_true rfl⟩ rfl (Nat.le_of_ble_eq_true rfl) ⟨Nat.le_of_ble_eq_true rfl, Nat.le_of_ble_eq_true rfl⟩ zw_45 zw_46 zw_47 zc_9.1 hn_v0 hk_v0 rfl d_Md_readCodes_257 ?_
      refine zi_iload_n C d_Md_readCodes_260 rfl 2 rfl ?_
      exact zi_iret C hlocks hr d_Md_readCodes_261 (by cases hF; rfl) rfl (by cases hF; rfl) rfl
  · refine zi_iload_n C d_Md_readCodes_28 rfl 3 rfl ?_
    refine zi_if_eq (tgt := 246) C d_Md_readCodes_29 (by decide) hF (fun hF => ?_) (fun hF => ?_)
    · refine zi_aload_n C d_Md_readCodes_246 rfl 0 rfl ?_
      refine zi_getI C zc_9 (k := 17) (by decide) zw_30 rfl hn_v0 hk_v0 d_Md_readCodes_247 (fun _ _ _ => rfl) hF (fun x4 hF => ?_)
      refine zi_iconst (v := -1) C d_Md_readCodes_250 (by decide) ?_
      refine zi_icmp_ne (tgt := 260) C d_Md_readCodes_251 (by decide) hF (fun hF => ?_) (fun hF => ?_)
      · refine zi_iload_n C d_Md_readCodes_260 rfl 2 rfl ?_
        exact zi_iret C hlocks hr d_Md_readCodes_261 (by cases hF; rfl) rfl (by cases hF; rfl) rfl
      · refine zi_aload_n C d_Md_readCodes_254 rfl 0 rfl ?_
        refine zi_iconst (v := 0) C d_Md_readCodes_255 (by decide) ?_
        refine zi_iconst (v := 0) C d_Md_readCodes_256 (by decide) ?_
        obtain ⟨r5, M, hqr5, hF⟩ := zzcall_e hF
        refine zi_callV_v (M2 := M) (n := 2) (As := [.int (0 : Int32), .int (0 : Int32)]) (st := []) C (c_Md_code hqr5 hn_v0 hk_v0) zw_44 zw_18 (by decide +kernel) ⟨Nat.le_of_ble_eq_true rfl, Nat.le_of_ble_eq_true rfl⟩ rfl (Nat.le_of_ble_eq_true rfl) ⟨Nat.le_of_ble_eq_true rfl, Nat.le_of_ble_eq_true rfl⟩ zw_45 zw_46 zw_47 zc_9.1 hn_v0 hk_v0 rfl d_Md_readCodes_257 ?_
        refine zi_iload_n C d_Md_readCodes_260 rfl 2 rfl ?_
        exact zi_iret C hlocks hr d_Md_readCodes_261 (by cases hF; rfl) rfl (by cases hF; rfl) rfl
    · refine zi_aload_n C d_Md_readCodes_32 rfl 0 rfl ?_
      obtain ⟨r6, M, hqr6, hF⟩ := zzcall_e hF
      refine zi_callV_i (M2 := M) (r := r6) (n := 0) (As := []) (st := []) C (c_Md_peek hqr6 hn_v0 hk_v0) zw_31 zw_18 (by decide +kernel) ⟨Nat.le_of_ble_eq_true rfl, Nat.le_of_ble_eq_true rfl⟩ rfl (Nat.le_of_ble_eq_true rfl) ⟨Nat.le_of_ble_eq_true rfl, Nat.le_of_ble_eq_true rfl⟩ zw_32 zw_33 zw_34 zc_9.1 hn_v0 hk_v0 rfl d_Md_readCodes_33 ?_
      refine zi_istore (lv' := [(5, .int r6), (0, .ref (bs + v0)), (1, .int v1), (2, .int v2), (3, .int v3), (4, .int v4)]) C d_Md_readCodes_36 (by decide) rfl ?_
      refine zi_iload C d_Md_readCodes_38 5 rfl ?_
      refine zi_if_eq (tgt := 60) C d_Md_readCodes_40 (by decide) hF (fun hF => ?_) (fun hF => ?_)
      · refine zz_sub [1, 2, 3, 4, 5, 0] (lv' := [(0, .ref (bs + v0)), (1, .int v1), (2, .int v2), (3, .int v3), (4, .int v4), (5, .int r6)]) rfl ?_
        exact g_Md_readCodes_60 C hlocks hr hin  hk20 _ v0 v1 v2 v3 v4 r6 hn_v0 hk_v0 hF
      · refine zi_iload C d_Md_readCodes_43 0 rfl ?_
        obtain ⟨r7, M, hqr7, hF⟩ := zzcall_e hF
        refine zi_callS_i (M2 := M) (r := r7) (n := 1) (As := [.int r6]) (st := []) C (c_Md_isNest hqr7 ) zw_63 zw_18 (by decide +kernel) ⟨Nat.le_of_ble_eq_true rfl, Nat.le_of_ble_eq_true rfl⟩ rfl (Nat.le_of_ble_eq_true rfl) ⟨Nat.le_of_ble_eq_true rfl, Nat.le_of_ble_eq_true rfl⟩ zw_64 zw_65 rfl d_Md_readCodes_45 ?_
        refine zi_if_eq (tgt := 60) C d_Md_readCodes_48 (by decide) hF (fun hF => ?_) (fun hF => ?_)
        · refine zz_sub [1, 2, 3, 4, 5, 0] (lv' := [(0, .ref (bs + v0)), (1, .int v1), (2, .int v2), (3, .int v3), (4, .int v4), (5, .int r6)]) rfl ?_
          exact g_Md_readCodes_60 C hlocks hr hin  hk20 _ v0 v1 v2 v3 v4 r6 hn_v0 hk_v0 hF
        · refine zi_aload_n C d_Md_readCodes_51 rfl 1 rfl ?_
          refine zi_iload C d_Md_readCodes_52 0 rfl ?_
          obtain ⟨r8, M, hqr8, hF⟩ := zzcall_e hF
          refine zi_callV_v (M2 := M) (n := 1) (As := [.int r6]) (st := []) C (c_Md_nest hqr8 hn_v0 hk_v0) zw_66 zw_18 (by decide +kernel) ⟨Nat.le_of_ble_eq_true rfl, Nat.le_of_ble_eq_true rfl⟩ rfl (Nat.le_of_ble_eq_true rfl) ⟨Nat.le_of_ble_eq_true rfl, Nat.le_of_ble_eq_true rfl⟩ zw_67 zw_68 zw_69 zc_9.1 hn_v0 hk_v0 rfl d_Md_readCodes_54 ?_
          refine zi_goto (tgt := 243) C d_Md_readCodes_57 (by decide) ?_
          refine zi_goto (tgt := 20) C d_Md_readCodes_243 (by decide) ?_
          refine zz_sub [1, 2, 3, 4, 5] (lv' := [(0, .ref (bs + v0)), (1, .int v1), (2, .int v2), (3, .int v3), (4, .int v4)]) rfl ?_
          exact hk20 _ v0 v1 v2 v3 v4 hn_v0 hk_v0 hF
set_option maxHeartbeats 4000000 in
set_option maxRecDepth 100000 in
theorem g_Md_readCodes_20 {p : Program} {l : Launch} {e : Env} {s : State} {m : MethodId} {args : Array Value} {below : List Frame} {meth : Method} {c : Code} {D : zzD} {bs : Nat} {A : Nat → Prop} {S : zzS} {hz : Nat} {out : Int32 × zzM}  (C : zzC p s m args c prog_12_method_21_code "BoardScriptModel" 6 D) (hlocks : meth.locks = false) (hr : meth.sig.returnType = (some .int)) (hin : meth.name = "readCodes")    : ∀ (n : Nat) (M : zzM) (v0 : Nat) (v1 : Int32) (v2 : Int32) (v3 : Int32) (v4 : Int32) (hn_v0 : v0 < S.2.1) (hk_v0 : zzk S v0 = 19) (hF : F_Md_readCodes_20 S   n M v0 v1 v2 v3 v4 = some out), zzB p l e { frames := 4, cells := 0, slots := 0, locals := 86 } s m args below meth c 6 D bs A (MQ below (zzQc D bs A S out.2 hz (some (.int out.1))) args s 0 0 A) 0 0 S M hz 20 [(0, .ref (bs + v0)), (1, .int v1), (2, .int v2), (3, .int v3), (4, .int v4)] [] := by
  intro n
  induction n with
  | zero => intro M v0 v1 v2 v3 v4 hn_v0 hk_v0 hF; cases hF
  | succ n ih => intro M v0 v1 v2 v3 v4 hn_v0 hk_v0 hF; exact g_Md_readCodes_20_b C hlocks hr hin   ih M v0 v1 v2 v3 v4 hn_v0 hk_v0 hF
def F_Md_readCodes (S : zzS)  (M : zzM) (v0 : Nat) (v1 : Int32) : Option (Int32 × zzM) := zzlet (zzI M v0 19) fun x1 => zzlet (zzsI M v0 25 (0 : Int32)) fun M => zzlet (zzsI M v0 27 (0 : Int32)) fun M => F_Md_readCodes_20 S   2000 M v0 v1 x1 (1 : Int32) (1 : Int32)
set_option maxHeartbeats 4000000 in
set_option maxRecDepth 100000 in
theorem c_Md_readCodes {l : Launch} {D : zzD} {bs : Nat} {A : Nat → Prop} {S : zzS} {M : zzM} {hz : Nat} {out : Int32 × zzM} {v0 : Nat} {v1 : Int32}   (hF : F_Md_readCodes S  M v0 v1 = some out) (hn_v0 : v0 < S.2.1) (hk_v0 : zzk S v0 = 19) : Met l y_Md_readCodes (Cond.code y_Md_readCodes prog_12_method_21_code 6 (some .int) :: zzW) { frames := 4, cells := 0, slots := 0, locals := 86 } (zzPc D bs A S M hz [.ref (bs + v0), .int v1]) (zzQc D bs A S out.2 hz (some (.int out.1))) 0 0 A := by
  refine zz_met [.ref (bs + v0), .int v1] (by decide) (Nat.le_of_ble_eq_true rfl) (fun p e s m args below meth c C hr hlocks hin hsz => ?_)
  refine zz_eq (lv' := [(0, .ref (bs + v0)), (1, .int v1)]) (st' := []) rfl rfl ?_
  unfold F_Md_readCodes at hF
  refine zi_aload_n C d_Md_readCodes_0 rfl 0 rfl ?_
  refine zi_getI C zc_9 (k := 19) (by decide) zw_37 rfl hn_v0 hk_v0 d_Md_readCodes_1 (fun _ _ _ => rfl) hF (fun x1 hF => ?_)
  refine zi_istore_n (lv' := [(2, .int x1), (0, .ref (bs + v0)), (1, .int v1)]) C d_Md_readCodes_4 rfl (by decide) rfl ?_
  refine zi_aload_n C d_Md_readCodes_5 rfl 1 rfl ?_
  refine zi_iconst (v := 0) C d_Md_readCodes_6 (by decide) ?_
  refine zi_putI C zc_9 (k := 25) (by decide) zw_39 rfl (Or.inl rfl) hn_v0 hk_v0 d_Md_readCodes_7 rfl hF (fun M hF => ?_)
  refine zi_aload_n C d_Md_readCodes_10 rfl 1 rfl ?_
  refine zi_iconst (v := 0) C d_Md_readCodes_11 (by decide) ?_
  refine zi_putI C zc_9 (k := 27) (by decide) zw_48 rfl (Or.inl rfl) hn_v0 hk_v0 d_Md_readCodes_12 rfl hF (fun M hF => ?_)
  refine zi_iconst (v := 1) C d_Md_readCodes_15 (by decide) ?_
  refine zi_istore_n (lv' := [(3, .int (1 : Int32)), (2, .int x1), (0, .ref (bs + v0)), (1, .int v1)]) C d_Md_readCodes_16 rfl (by decide) rfl ?_
  refine zi_iconst (v := 1) C d_Md_readCodes_17 (by decide) ?_
  refine zi_istore (lv' := [(4, .int (1 : Int32)), (3, .int (1 : Int32)), (2, .int x1), (0, .ref (bs + v0)), (1, .int v1)]) C d_Md_readCodes_18 (by decide) rfl ?_
  refine zz_sub [3, 4, 2, 1, 0] (lv' := [(0, .ref (bs + v0)), (1, .int v1), (2, .int x1), (3, .int (1 : Int32)), (4, .int (1 : Int32))]) rfl ?_
  exact g_Md_readCodes_20 C hlocks hr hin   _ _ v0 v1 x1 (1 : Int32) (1 : Int32) hn_v0 hk_v0 hF
def F_Md_order (S : zzS)  (M : zzM) (v0 : Nat) (v1 : Int32) (v2 : Int32) : Option (Int32 × zzM) := zzlet (zzI M v0 15) fun x1 => zzlet ((600 : Int32) * x1) fun x2 => zzlet (zzI M v0 18) fun x3 => zzlet (x2 + x3) fun x4 => zzref S 1 (zzR M v0 6) fun b5 => zzix S b5 x4 (zzlet (zzsI M b5 (x4).toNatClampNeg v1) fun M => zzref S 1 (zzR M v0 7) fun b6 => zzix S b6 x4 (zzlet (zzsI M b6 (x4).toNatClampNeg v2) fun M => zzref S 1 (zzR M v0 8) fun b7 => zzix S b7 x4 (zzlet (zzsI M b7 (x4).toNatClampNeg (0 : Int32)) fun M => zzref S 1 (zzR M v0 9) fun b8 => zzix S b8 x4 (zzlet (zzsI M b8 (x4).toNatClampNeg (0 : Int32)) fun M => zzref S 1 (zzR M v0 10) fun b9 => zzix S b9 x4 (zzlet (zzsI M b9 (x4).toNatClampNeg (0 : Int32)) fun M => zzref S 1 (zzR M v0 11) fun b10 => zzix S b10 x4 (zzlet (zzsI M b10 (x4).toNatClampNeg (0 : Int32)) fun M => zzlet (zzI M v0 18) fun x11 => zzlet (x11 + (1 : Int32)) fun x12 => zzlet (zzsI M v0 18 x12) fun M => zzlet (zzI M v0 18) fun x13 => zzlet (x13 - (1 : Int32)) fun x14 => some (x14, M)))))))
set_option maxHeartbeats 4000000 in
set_option maxRecDepth 100000 in
theorem c_Md_order {l : Launch} {D : zzD} {bs : Nat} {A : Nat → Prop} {S : zzS} {M : zzM} {hz : Nat} {out : Int32 × zzM} {v0 : Nat} {v1 : Int32} {v2 : Int32}   (hF : F_Md_order S  M v0 v1 v2 = some out) (hn_v0 : v0 < S.2.1) (hk_v0 : zzk S v0 = 19) : Met l y_Md_order (Cond.code y_Md_order prog_12_method_22_code 4 (some .int) :: zzW) { frames := 0, cells := 0, slots := 0, locals := 0 } (zzPc D bs A S M hz [.ref (bs + v0), .int v1, .int v2]) (zzQc D bs A S out.2 hz (some (.int out.1))) 0 0 A := by
  refine zz_met [.ref (bs + v0), .int v1, .int v2] (by decide) (Nat.le_of_ble_eq_true rfl) (fun p e s m args below meth c C hr hlocks hin hsz => ?_)
  refine zz_eq (lv' := [(0, .ref (bs + v0)), (1, .int v1), (2, .int v2)]) (st' := []) rfl rfl ?_
  unfold F_Md_order at hF
  refine zi_sipush (v := 600) C d_Md_order_0 (by decide) ?_
  refine zi_aload_n C d_Md_order_3 rfl 0 rfl ?_
  refine zi_getI C zc_9 (k := 15) (by decide) zw_36 rfl hn_v0 hk_v0 d_Md_order_4 (fun _ _ _ => rfl) hF (fun x1 hF => ?_)
  refine zi_imul C d_Md_order_7 hF (fun x2 hF => ?_)
  refine zi_aload_n C d_Md_order_8 rfl 0 rfl ?_
  refine zi_getI C zc_9 (k := 18) (by decide) zw_86 rfl hn_v0 hk_v0 d_Md_order_9 (fun _ _ _ => rfl) hF (fun x3 hF => ?_)
  refine zi_iadd C d_Md_order_12 hF (fun x4 hF => ?_)
  refine zi_istore_n (lv' := [(3, .int x4), (0, .ref (bs + v0)), (1, .int v1), (2, .int v2)]) C d_Md_order_13 rfl (by decide) rfl ?_
  refine zi_aload_n C d_Md_order_14 rfl 1 rfl ?_
  refine zi_getR C zc_9 (k := 6) (by decide) zw_15 rfl hn_v0 hk_v0 d_Md_order_15 (fun _ _ _ => rfl) hF (fun b5 hn_b5 hk_b5 hF => ?_)
  refine zi_iload_n C d_Md_order_18 rfl 0 rfl ?_
  refine zi_iload_n C d_Md_order_19 rfl 2 rfl ?_
  refine zi_iast C hn_b5 hk_b5 d_Md_order_20 hF (fun M hF => ?_)
  refine zi_aload_n C d_Md_order_21 rfl 1 rfl ?_
  refine zi_getR C zc_9 (k := 7) (by decide) zw_87 rfl hn_v0 hk_v0 d_Md_order_22 (fun _ _ _ => rfl) hF (fun b6 hn_b6 hk_b6 hF => ?_)
  refine zi_iload_n C d_Md_order_25 rfl 0 rfl ?_
  refine zi_iload_n C d_Md_order_26 rfl 3 rfl ?_
  refine zi_iast C hn_b6 hk_b6 d_Md_order_27 hF (fun M hF => ?_)
  refine zi_aload_n C d_Md_order_28 rfl 1 rfl ?_
  refine zi_getR C zc_9 (k := 8) (by decide) zw_88 rfl hn_v0 hk_v0 d_Md_order_29 (fun _ _ _ => rfl) hF (fun b7 hn_b7 hk_b7 hF => ?_)
  refine zi_iload_n C d_Md_order_32 rfl 0 rfl ?_
  refine zi_iconst (v := 0) C d_Md_order_33 (by decide) ?_
  refine zi_iast C hn_b7 hk_b7 d_Md_order_34 hF (fun M hF => ?_)
  refine zi_aload_n C d_Md_order_35 rfl 1 rfl ?_
  refine zi_getR C zc_9 (k := 9) (by decide) zw_89 rfl hn_v0 hk_v0 d_Md_order_36 (fun _ _ _ => rfl) hF (fun b8 hn_b8 hk_b8 hF => ?_)
  refine zi_iload_n C d_Md_order_39 rfl 0 rfl ?_
  refine zi_iconst (v := 0) C d_Md_order_40 (by decide) ?_
  refine zi_iast C hn_b8 hk_b8 d_Md_order_41 hF (fun M hF => ?_)
  refine zi_aload_n C d_Md_order_42 rfl 1 rfl ?_
  refine zi_getR C zc_9 (k := 10) (by decide) zw_90 rfl hn_v0 hk_v0 d_Md_order_43 (fun _ _ _ => rfl) hF (fun b9 hn_b9 hk_b9 hF => ?_)
  refine zi_iload_n C d_Md_order_46 rfl 0 rfl ?_
  refine zi_iconst (v := 0) C d_Md_order_47 (by decide) ?_
  refine zi_iast C hn_b9 hk_b9 d_Md_order_48 hF (fun M hF => ?_)
  refine zi_aload_n C d_Md_order_49 rfl 1 rfl ?_
  refine zi_getR C zc_9 (k := 11) (by decide) zw_91 rfl hn_v0 hk_v0 d_Md_order_50 (fun _ _ _ => rfl) hF (fun b10 hn_b10 hk_b10 hF => ?_)
  refine zi_iload_n C d_Md_order_53 rfl 0 rfl ?_
  refine zi_iconst (v := 0) C d_Md_order_54 (by decide) ?_
  refine zi_iast C hn_b10 hk_b10 d_Md_order_55 hF (fun M hF => ?_)
  refine zi_aload_n C d_Md_order_56 rfl 1 rfl ?_
  refine zi_dup C d_Md_order_57 rfl ?_
  refine zi_getI C zc_9 (k := 18) (by decide) zw_86 rfl hn_v0 hk_v0 d_Md_order_58 (fun _ _ _ => rfl) hF (fun x11 hF => ?_)
  refine zi_iconst (v := 1) C d_Md_order_61 (by decide) ?_
  refine zi_iadd C d_Md_order_62 hF (fun x12 hF => ?_)
  refine zi_putI C zc_9 (k := 18) (by decide) zw_86 rfl (Or.inl rfl) hn_v0 hk_v0 d_Md_order_63 rfl hF (fun M hF => ?_)
  refine zi_aload_n C d_Md_order_66 rfl 1 rfl ?_
  refine zi_getI C zc_9 (k := 18) (by decide) zw_86 rfl hn_v0 hk_v0 d_Md_order_67 (fun _ _ _ => rfl) hF (fun x13 hF => ?_)
  refine zi_iconst (v := 1) C d_Md_order_70 (by decide) ?_
  refine zi_isub C d_Md_order_71 hF (fun x14 hF => ?_)
  exact zi_iret C hlocks hr d_Md_order_72 (by cases hF; rfl) rfl (by cases hF; rfl) rfl
def F_Md_open (S : zzS)  (M : zzM) (v0 : Nat) (v1 : Int32) (v2 : Int32) (v3 : Int32) : Option (Unit × zzM) := zzlet (zzI M v0 17) fun x1 => if x1 = (-1 : Int32) then (zzcall (F_Md_peek S M v0) fun r2 M => if r2 = v2 then (zzlet (zzI M v0 21) fun x4 => if x4 = (2 : Int32) then (zzlet (zzI M v0 16) fun x13 => zzlet (zzsI M v0 17 x13) fun M => some ((), M)) else (zzlet (zzI M v0 16) fun x5 => zzlet (x5 + (1 : Int32)) fun x6 => zzlet (zzsI M v0 16 x6) fun M => zzref S 1 (zzR M v0 22) fun b7 => zzlet (zzI M v0 21) fun x8 => zzix S b7 x8 (zzlet (zzsI M b7 (x8).toNatClampNeg v1) fun M => zzref S 1 (zzR M v0 23) fun b9 => zzlet (zzI M v0 21) fun x10 => zzix S b9 x10 (zzlet (zzsI M b9 (x10).toNatClampNeg v3) fun M => zzlet (zzI M v0 21) fun x11 => zzlet (x11 + (1 : Int32)) fun x12 => zzlet (zzsI M v0 21 x12) fun M => some ((), M))))) else (zzlet (zzI M v0 16) fun x3 => zzlet (zzsI M v0 17 x3) fun M => some ((), M))) else (some ((), M))
set_option maxHeartbeats 4000000 in
set_option maxRecDepth 100000 in
theorem c_Md_open {l : Launch} {D : zzD} {bs : Nat} {A : Nat → Prop} {S : zzS} {M : zzM} {hz : Nat} {out : Unit × zzM} {v0 : Nat} {v1 : Int32} {v2 : Int32} {v3 : Int32}   (hF : F_Md_open S  M v0 v1 v2 v3 = some out) (hn_v0 : v0 < S.2.1) (hk_v0 : zzk S v0 = 19) : Met l y_Md_open (Cond.code y_Md_open prog_12_method_23_code 4 none :: zzW) { frames := 1, cells := 0, slots := 0, locals := 20 } (zzPc D bs A S M hz [.ref (bs + v0), .int v1, .int v2, .int v3]) (zzQc D bs A S out.2 hz none) 0 0 A := by
  refine zz_met [.ref (bs + v0), .int v1, .int v2, .int v3] (by decide) (Nat.le_of_ble_eq_true rfl) (fun p e s m args below meth c C hr hlocks hin hsz => ?_)
  refine zz_eq (lv' := [(0, .ref (bs + v0)), (1, .int v1), (2, .int v2), (3, .int v3)]) (st' := []) rfl rfl ?_
  unfold F_Md_open at hF
  refine zi_aload_n C d_Md_open_0 rfl 0 rfl ?_
  refine zi_getI C zc_9 (k := 17) (by decide) zw_30 rfl hn_v0 hk_v0 d_Md_open_1 (fun _ _ _ => rfl) hF (fun x1 hF => ?_)
  refine zi_iconst (v := -1) C d_Md_open_4 (by decide) ?_
  refine zi_icmp_eq (tgt := 9) C d_Md_open_5 (by decide) hF (fun hF => ?_) (fun hF => ?_)
  · refine zi_aload_n C d_Md_open_9 rfl 0 rfl ?_
    obtain ⟨r2, M, hqr2, hF⟩ := zzcall_e hF
    refine zi_callV_i (M2 := M) (r := r2) (n := 0) (As := []) (st := []) C (c_Md_peek hqr2 hn_v0 hk_v0) zw_31 zw_18 (by decide +kernel) ⟨Nat.le_of_ble_eq_true rfl, Nat.le_of_ble_eq_true rfl⟩ rfl (Nat.le_of_ble_eq_true rfl) ⟨Nat.le_of_ble_eq_true rfl, Nat.le_of_ble_eq_true rfl⟩ zw_32 zw_33 zw_34 zc_9.1 hn_v0 hk_v0 rfl d_Md_open_10 ?_
    refine zi_iload_n C d_Md_open_13 rfl 2 rfl ?_
    refine zi_icmp_ne (tgt := 25) C d_Md_open_14 (by decide) hF (fun hF => ?_) (fun hF => ?_)
    · refine zi_aload_n C d_Md_open_25 rfl 0 rfl ?_
      refine zi_aload_n C d_Md_open_26 rfl 0 rfl ?_
      refine zi_getI C zc_9 (k := 16) (by decide) zw_29 rfl hn_v0 hk_v0 d_Md_open_27 (fun _ _ _ => rfl) hF (fun x3 hF => ?_)
      refine zi_putI C zc_9 (k := 17) (by decide) zw_30 rfl (Or.inl rfl) hn_v0 hk_v0 d_Md_open_30 rfl hF (fun M hF => ?_)
      exact zi_vret C hlocks hr d_Md_open_33 rfl rfl (by cases hF; rfl) rfl
    · refine zi_aload_n C d_Md_open_17 rfl 0 rfl ?_
      refine zi_getI C zc_9 (k := 21) (by decide) zw_92 rfl hn_v0 hk_v0 d_Md_open_18 (fun _ _ _ => rfl) hF (fun x4 hF => ?_)
      refine zi_iconst (v := 2) C d_Md_open_21 (by decide) ?_
      refine zi_icmp_ne (tgt := 34) C d_Md_open_22 (by decide) hF (fun hF => ?_) (fun hF => ?_)
      · refine zi_aload_n C d_Md_open_34 rfl 0 rfl ?_
        refine zi_dup C d_Md_open_35 rfl ?_
        refine zi_getI C zc_9 (k := 16) (by decide) zw_29 rfl hn_v0 hk_v0 d_Md_open_36 (fun _ _ _ => rfl) hF (fun x5 hF => ?_)
        refine zi_iconst (v := 1) C d_Md_open_39 (by decide) ?_
        refine zi_iadd C d_Md_open_40 hF (fun x6 hF => ?_)
        refine zi_putI C zc_9 (k := 16) (by decide) zw_29 rfl (Or.inl rfl) hn_v0 hk_v0 d_Md_open_41 rfl hF (fun M hF => ?_)
        refine zi_aload_n C d_Md_open_44 rfl 0 rfl ?_
        refine zi_getR C zc_9 (k := 22) (by decide) zw_93 rfl hn_v0 hk_v0 d_Md_open_45 (fun _ _ _ => rfl) hF (fun b7 hn_b7 hk_b7 hF => ?_)
        refine zi_aload_n C d_Md_open_48 rfl 0 rfl ?_
        refine zi_getI C zc_9 (k := 21) (by decide) zw_92 rfl hn_v0 hk_v0 d_Md_open_49 (fun _ _ _ => rfl) hF (fun x8 hF => ?_)
        refine zi_iload_n C d_Md_open_52 rfl 1 rfl ?_
        refine zi_iast C hn_b7 hk_b7 d_Md_open_53 hF (fun M hF => ?_)
        refine zi_aload_n C d_Md_open_54 rfl 0 rfl ?_
        refine zi_getR C zc_9 (k := 23) (by decide) zw_94 rfl hn_v0 hk_v0 d_Md_open_55 (fun _ _ _ => rfl) hF (fun b9 hn_b9 hk_b9 hF => ?_)
        refine zi_aload_n C d_Md_open_58 rfl 0 rfl ?_
        refine zi_getI C zc_9 (k := 21) (by decide) zw_92 rfl hn_v0 hk_v0 d_Md_open_59 (fun _ _ _ => rfl) hF (fun x10 hF => ?_)
        refine zi_iload_n C d_Md_open_62 rfl 3 rfl ?_
        refine zi_iast C hn_b9 hk_b9 d_Md_open_63 hF (fun M hF => ?_)
        refine zi_aload_n C d_Md_open_64 rfl 0 rfl ?_
        refine zi_dup C d_Md_open_65 rfl ?_
        refine zi_getI C zc_9 (k := 21) (by decide) zw_92 rfl hn_v0 hk_v0 d_Md_open_66 (fun _ _ _ => rfl) hF (fun x11 hF => ?_)
        refine zi_iconst (v := 1) C d_Md_open_69 (by decide) ?_
        refine zi_iadd C d_Md_open_70 hF (fun x12 hF => ?_)
        refine zi_putI C zc_9 (k := 21) (by decide) zw_92 rfl (Or.inl rfl) hn_v0 hk_v0 d_Md_open_71 rfl hF (fun M hF => ?_)
        exact zi_vret C hlocks hr d_Md_open_74 rfl rfl (by cases hF; rfl) rfl
      · refine zi_aload_n C d_Md_open_25 rfl 0 rfl ?_
        refine zi_aload_n C d_Md_open_26 rfl 0 rfl ?_
        refine zi_getI C zc_9 (k := 16) (by decide) zw_29 rfl hn_v0 hk_v0 d_Md_open_27 (fun _ _ _ => rfl) hF (fun x13 hF => ?_)
        refine zi_putI C zc_9 (k := 17) (by decide) zw_30 rfl (Or.inl rfl) hn_v0 hk_v0 d_Md_open_30 rfl hF (fun M hF => ?_)
        exact zi_vret C hlocks hr d_Md_open_33 rfl rfl (by cases hF; rfl) rfl
  · exact zi_vret C hlocks hr d_Md_open_8 rfl rfl (by cases hF; rfl) rfl
def F_Md_aim (S : zzS)  (M : zzM) (v0 : Nat) (v1 : Int32) : Option (Unit × zzM) := zzref S 1 (zzR M v0 11) fun b1 => zzlet (zzI M v0 15) fun x2 => zzlet ((600 : Int32) * x2) fun x3 => zzlet (x3 + v1) fun x4 => zzlet (zzI M v0 18) fun x5 => zzix S b1 x4 (zzlet (zzsI M b1 (x4).toNatClampNeg x5) fun M => some ((), M))
set_option maxHeartbeats 4000000 in
set_option maxRecDepth 100000 in
theorem c_Md_aim {l : Launch} {D : zzD} {bs : Nat} {A : Nat → Prop} {S : zzS} {M : zzM} {hz : Nat} {out : Unit × zzM} {v0 : Nat} {v1 : Int32}   (hF : F_Md_aim S  M v0 v1 = some out) (hn_v0 : v0 < S.2.1) (hk_v0 : zzk S v0 = 19) : Met l y_Md_aim (Cond.code y_Md_aim prog_12_method_24_code 2 none :: zzW) { frames := 0, cells := 0, slots := 0, locals := 0 } (zzPc D bs A S M hz [.ref (bs + v0), .int v1]) (zzQc D bs A S out.2 hz none) 0 0 A := by
  refine zz_met [.ref (bs + v0), .int v1] (by decide) (Nat.le_of_ble_eq_true rfl) (fun p e s m args below meth c C hr hlocks hin hsz => ?_)
  refine zz_eq (lv' := [(0, .ref (bs + v0)), (1, .int v1)]) (st' := []) rfl rfl ?_
  unfold F_Md_aim at hF
  refine zi_aload_n C d_Md_aim_0 rfl 0 rfl ?_
  refine zi_getR C zc_9 (k := 11) (by decide) zw_91 rfl hn_v0 hk_v0 d_Md_aim_1 (fun _ _ _ => rfl) hF (fun b1 hn_b1 hk_b1 hF => ?_)
  refine zi_sipush (v := 600) C d_Md_aim_4 (by decide) ?_
  refine zi_aload_n C d_Md_aim_7 rfl 0 rfl ?_
  refine zi_getI C zc_9 (k := 15) (by decide) zw_36 rfl hn_v0 hk_v0 d_Md_aim_8 (fun _ _ _ => rfl) hF (fun x2 hF => ?_)
  refine zi_imul C d_Md_aim_11 hF (fun x3 hF => ?_)
  refine zi_iload_n C d_Md_aim_12 rfl 1 rfl ?_
  refine zi_iadd C d_Md_aim_13 hF (fun x4 hF => ?_)
  refine zi_aload_n C d_Md_aim_14 rfl 0 rfl ?_
  refine zi_getI C zc_9 (k := 18) (by decide) zw_86 rfl hn_v0 hk_v0 d_Md_aim_15 (fun _ _ _ => rfl) hF (fun x5 hF => ?_)
  refine zi_iast C hn_b1 hk_b1 d_Md_aim_18 hF (fun M hF => ?_)
  exact zi_vret C hlocks hr d_Md_aim_19 rfl rfl (by cases hF; rfl) rfl
def F_Md_close (S : zzS)  (M : zzM) (v0 : Nat) : Option (Unit × zzM) := zzref S 1 (zzR M v0 22) fun b1 => zzlet (zzI M v0 21) fun x2 => zzlet (x2 - (1 : Int32)) fun x3 => zzix S b1 x3 (zzlet (zzI M b1 (x3).toNatClampNeg) fun x4 => zzref S 1 (zzR M v0 23) fun b5 => zzlet (zzI M v0 21) fun x6 => zzlet (x6 - (1 : Int32)) fun x7 => zzix S b5 x7 (zzlet (zzI M b5 (x7).toNatClampNeg) fun x8 => zzref S 1 (zzR M v0 7) fun b9 => zzlet (zzI M v0 15) fun x10 => zzlet ((600 : Int32) * x10) fun x11 => zzlet (x11 + x8) fun x12 => zzix S b9 x12 (zzlet (zzI M b9 (x12).toNatClampNeg) fun x13 => zzlet (zzI M v0 16) fun x14 => zzlet (x14 + (1 : Int32)) fun x15 => zzlet (zzsI M v0 16 x15) fun M => zzlet (zzI M v0 21) fun x16 => zzlet (x16 - (1 : Int32)) fun x17 => zzlet (zzsI M v0 21 x17) fun M => if x4 = (1 : Int32) then (zzcall (F_Md_peek S M v0) fun r32 M => if r32 = (123 : Int32) then (zzcall (F_Md_order S M v0 (17 : Int32) x13) fun r34 M => zzcall (F_Md_aim S M v0 x8) fun r35 M => zzcall (F_Md_open S M v0 (2 : Int32) (123 : Int32) r34) fun r36 M => some ((), M)) else (zzcall (F_Md_aim S M v0 x8) fun r33 M => some ((), M))) else (if x4 = (2 : Int32) then (zzcall (F_Md_aim S M v0 x8) fun r31 M => some ((), M)) else (if x4 = (3 : Int32) then (zzcall (F_Md_order S M v0 (17 : Int32) x13) fun r25 M => zzref S 1 (zzR M v0 11) fun b26 => zzlet (zzI M v0 15) fun x27 => zzlet ((600 : Int32) * x27) fun x28 => zzlet (x28 + r25) fun x29 => zzix S b26 x29 (zzlet (zzsI M b26 (x29).toNatClampNeg x8) fun M => zzcall (F_Md_aim S M v0 x8) fun r30 M => some ((), M))) else (if x4 = (4 : Int32) then (zzcall (F_Md_order S M v0 (8 : Int32) x13) fun r24 M => some ((), M)) else (if x4 = (5 : Int32) then (zzcall (F_Md_aim S M v0 x8) fun r21 M => zzcall (F_Md_order S M v0 (10 : Int32) x13) fun r22 M => zzcall (F_Md_open S M v0 (6 : Int32) (123 : Int32) x8) fun r23 M => some ((), M)) else (if x4 = (6 : Int32) then (zzcall (F_Md_order S M v0 (11 : Int32) x13) fun r20 M => some ((), M)) else (zzcall (F_Md_order S M v0 (19 : Int32) x13) fun r18 M => zzcall (F_Md_aim S M v0 x8) fun r19 M => some ((), M))))))))))
set_option maxHeartbeats 4000000 in
set_option maxRecDepth 100000 in
theorem c_Md_close {l : Launch} {D : zzD} {bs : Nat} {A : Nat → Prop} {S : zzS} {M : zzM} {hz : Nat} {out : Unit × zzM} {v0 : Nat}   (hF : F_Md_close S  M v0 = some out) (hn_v0 : v0 < S.2.1) (hk_v0 : zzk S v0 = 19) : Met l y_Md_close (Cond.code y_Md_close prog_12_method_25_code 5 none :: zzW) { frames := 2, cells := 0, slots := 0, locals := 43 } (zzPc D bs A S M hz [.ref (bs + v0)]) (zzQc D bs A S out.2 hz none) 0 0 A := by
  refine zz_met [.ref (bs + v0)] (by decide) (Nat.le_of_ble_eq_true rfl) (fun p e s m args below meth c C hr hlocks hin hsz => ?_)
  refine zz_eq (lv' := [(0, .ref (bs + v0))]) (st' := []) rfl rfl ?_
  unfold F_Md_close at hF
  refine zi_aload_n C d_Md_close_0 rfl 0 rfl ?_
  refine zi_getR C zc_9 (k := 22) (by decide) zw_93 rfl hn_v0 hk_v0 d_Md_close_1 (fun _ _ _ => rfl) hF (fun b1 hn_b1 hk_b1 hF => ?_)
  refine zi_aload_n C d_Md_close_4 rfl 0 rfl ?_
  refine zi_getI C zc_9 (k := 21) (by decide) zw_92 rfl hn_v0 hk_v0 d_Md_close_5 (fun _ _ _ => rfl) hF (fun x2 hF => ?_)
  refine zi_iconst (v := 1) C d_Md_close_8 (by decide) ?_
  refine zi_isub C d_Md_close_9 hF (fun x3 hF => ?_)
  refine zi_iald C hn_b1 hk_b1 d_Md_close_10 hF (fun x4 hF => ?_)
  refine zi_istore_n (lv' := [(1, .int x4), (0, .ref (bs + v0))]) C d_Md_close_11 rfl (by decide) rfl ?_
  refine zi_aload_n C d_Md_close_12 rfl 1 rfl ?_
  refine zi_getR C zc_9 (k := 23) (by decide) zw_94 rfl hn_v0 hk_v0 d_Md_close_13 (fun _ _ _ => rfl) hF (fun b5 hn_b5 hk_b5 hF => ?_)
  refine zi_aload_n C d_Md_close_16 rfl 1 rfl ?_
  refine zi_getI C zc_9 (k := 21) (by decide) zw_92 rfl hn_v0 hk_v0 d_Md_close_17 (fun _ _ _ => rfl) hF (fun x6 hF => ?_)
  refine zi_iconst (v := 1) C d_Md_close_20 (by decide) ?_
  refine zi_isub C d_Md_close_21 hF (fun x7 hF => ?_)
  refine zi_iald C hn_b5 hk_b5 d_Md_close_22 hF (fun x8 hF => ?_)
  refine zi_istore_n (lv' := [(2, .int x8), (1, .int x4), (0, .ref (bs + v0))]) C d_Md_close_23 rfl (by decide) rfl ?_
  refine zi_aload_n C d_Md_close_24 rfl 2 rfl ?_
  refine zi_getR C zc_9 (k := 7) (by decide) zw_87 rfl hn_v0 hk_v0 d_Md_close_25 (fun _ _ _ => rfl) hF (fun b9 hn_b9 hk_b9 hF => ?_)
  refine zi_sipush (v := 600) C d_Md_close_28 (by decide) ?_
  refine zi_aload_n C d_Md_close_31 rfl 2 rfl ?_
  refine zi_getI C zc_9 (k := 15) (by decide) zw_36 rfl hn_v0 hk_v0 d_Md_close_32 (fun _ _ _ => rfl) hF (fun x10 hF => ?_)
  refine zi_imul C d_Md_close_35 hF (fun x11 hF => ?_)
  refine zi_iload_n C d_Md_close_36 rfl 0 rfl ?_
  refine zi_iadd C d_Md_close_37 hF (fun x12 hF => ?_)
  refine zi_iald C hn_b9 hk_b9 d_Md_close_38 hF (fun x13 hF => ?_)
  refine zi_istore_n (lv' := [(3, .int x13), (2, .int x8), (1, .int x4), (0, .ref (bs + v0))]) C d_Md_close_39 rfl (by decide) rfl ?_
  refine zi_aload_n C d_Md_close_40 rfl 3 rfl ?_
  refine zi_dup C d_Md_close_41 rfl ?_
  refine zi_getI C zc_9 (k := 16) (by decide) zw_29 rfl hn_v0 hk_v0 d_Md_close_42 (fun _ _ _ => rfl) hF (fun x14 hF => ?_)
  refine zi_iconst (v := 1) C d_Md_close_45 (by decide) ?_
  refine zi_iadd C d_Md_close_46 hF (fun x15 hF => ?_)
  refine zi_putI C zc_9 (k := 16) (by decide) zw_29 rfl (Or.inl rfl) hn_v0 hk_v0 d_Md_close_47 rfl hF (fun M hF => ?_)
  refine zi_aload_n C d_Md_close_50 rfl 3 rfl ?_
  refine zi_dup C d_Md_close_51 rfl ?_
  refine zi_getI C zc_9 (k := 21) (by decide) zw_92 rfl hn_v0 hk_v0 d_Md_close_52 (fun _ _ _ => rfl) hF (fun x16 hF => ?_)
  refine zi_iconst (v := 1) C d_Md_close_55 (by decide) ?_
  refine zi_isub C d_Md_close_56 hF (fun x17 hF => ?_)
  refine zi_putI C zc_9 (k := 21) (by decide) zw_92 rfl (Or.inl rfl) hn_v0 hk_v0 d_Md_close_57 rfl hF (fun M hF => ?_)
  refine zi_iload_n C d_Md_close_60 rfl 2 rfl ?_
  refine zi_iconst (v := 1) C d_Md_close_61 (by decide) ?_
  refine zi_icmp_ne (tgt := 108) C d_Md_close_62 (by decide) hF (fun hF => ?_) (fun hF => ?_)
  · refine zi_iload_n C d_Md_close_108 rfl 2 rfl ?_
    refine zi_iconst (v := 2) C d_Md_close_109 (by decide) ?_
    refine zi_icmp_ne (tgt := 121) C d_Md_close_110 (by decide) hF (fun hF => ?_) (fun hF => ?_)
    · refine zi_iload_n C d_Md_close_121 rfl 2 rfl ?_
      refine zi_iconst (v := 3) C d_Md_close_122 (by decide) ?_
      refine zi_icmp_ne (tgt := 160) C d_Md_close_123 (by decide) hF (fun hF => ?_) (fun hF => ?_)
      · refine zi_iload_n C d_Md_close_160 rfl 2 rfl ?_
        refine zi_iconst (v := 4) C d_Md_close_161 (by decide) ?_
        refine zi_icmp_ne (tgt := 176) C d_Md_close_162 (by decide) hF (fun hF => ?_) (fun hF => ?_)
        · refine zi_iload_n C d_Md_close_176 rfl 2 rfl ?_
          refine zi_iconst (v := 5) C d_Md_close_177 (by decide) ?_
          refine zi_icmp_ne (tgt := 206) C d_Md_close_178 (by decide) hF (fun hF => ?_) (fun hF => ?_)
          · refine zi_iload_n C d_Md_close_206 rfl 2 rfl ?_
            refine zi_bipush (v := 6) C d_Md_close_207 (by decide) ?_
            refine zi_icmp_ne (tgt := 223) C d_Md_close_209 (by decide) hF (fun hF => ?_) (fun hF => ?_)
            · refine zi_aload_n C d_Md_close_223 rfl 3 rfl ?_
              refine zi_bipush (v := 19) C d_Md_close_224 (by decide) ?_
              refine zi_iload_n C d_Md_close_226 rfl 0 rfl ?_
              obtain ⟨r18, M, hqr18, hF⟩ := zzcall_e hF
              refine zi_callV_i (M2 := M) (r := r18) (n := 2) (As := [.int (19 : Int32), .int x13]) (st := []) C (c_Md_order hqr18 hn_v0 hk_v0) zw_95 zw_18 (by decide +kernel) ⟨Nat.le_of_ble_eq_true rfl, Nat.le_of_ble_eq_true rfl⟩ rfl (Nat.le_of_ble_eq_true rfl) ⟨Nat.le_of_ble_eq_true rfl, Nat.le_of_ble_eq_true rfl⟩ zw_96 zw_97 zw_98 zc_9.1 hn_v0 hk_v0 rfl d_Md_close_227 ?_
              refine zi_pop C d_Md_close_230 rfl ?_
              refine zi_aload_n C d_Md_close_231 rfl 3 rfl ?_
              refine zi_iload_n C d_Md_close_232 rfl 1 rfl ?_
              obtain ⟨r19, M, hqr19, hF⟩ := zzcall_e hF
              refine zi_callV_v (M2 := M) (n := 1) (As := [.int x8]) (st := []) C (c_Md_aim hqr19 hn_v0 hk_v0) zw_99 zw_18 (by decide +kernel) ⟨Nat.le_of_ble_eq_true rfl, Nat.le_of_ble_eq_true rfl⟩ rfl (Nat.le_of_ble_eq_true rfl) ⟨Nat.le_of_ble_eq_true rfl, Nat.le_of_ble_eq_true rfl⟩ zw_100 zw_101 zw_102 zc_9.1 hn_v0 hk_v0 rfl d_Md_close_233 ?_
              exact zi_vret C hlocks hr d_Md_close_236 rfl rfl (by cases hF; rfl) rfl
            · refine zi_aload_n C d_Md_close_212 rfl 3 rfl ?_
              refine zi_bipush (v := 11) C d_Md_close_213 (by decide) ?_
              refine zi_iload_n C d_Md_close_215 rfl 0 rfl ?_
              obtain ⟨r20, M, hqr20, hF⟩ := zzcall_e hF
              refine zi_callV_i (M2 := M) (r := r20) (n := 2) (As := [.int (11 : Int32), .int x13]) (st := []) C (c_Md_order hqr20 hn_v0 hk_v0) zw_95 zw_18 (by decide +kernel) ⟨Nat.le_of_ble_eq_true rfl, Nat.le_of_ble_eq_true rfl⟩ rfl (Nat.le_of_ble_eq_true rfl) ⟨Nat.le_of_ble_eq_true rfl, Nat.le_of_ble_eq_true rfl⟩ zw_96 zw_97 zw_98 zc_9.1 hn_v0 hk_v0 rfl d_Md_close_216 ?_
              refine zi_pop C d_Md_close_219 rfl ?_
              refine zi_goto (tgt := 236) C d_Md_close_220 (by decide) ?_
              exact zi_vret C hlocks hr d_Md_close_236 rfl rfl (by cases hF; rfl) rfl
          · refine zi_aload_n C d_Md_close_181 rfl 3 rfl ?_
            refine zi_iload_n C d_Md_close_182 rfl 1 rfl ?_
            obtain ⟨r21, M, hqr21, hF⟩ := zzcall_e hF
            refine zi_callV_v (M2 := M) (n := 1) (As := [.int x8]) (st := []) C (c_Md_aim hqr21 hn_v0 hk_v0) zw_99 zw_18 (by decide +kernel) ⟨Nat.le_of_ble_eq_true rfl, Nat.le_of_ble_eq_true rfl⟩ rfl (Nat.le_of_ble_eq_true rfl) ⟨Nat.le_of_ble_eq_true rfl, Nat.le_of_ble_eq_true rfl⟩ zw_100 zw_101 zw_102 zc_9.1 hn_v0 hk_v0 rfl d_Md_close_183 ?_
            refine zi_aload_n C d_Md_close_186 rfl 3 rfl ?_
            refine zi_bipush (v := 10) C d_Md_close_187 (by decide) ?_
            refine zi_iload_n C d_Md_close_189 rfl 0 rfl ?_
            obtain ⟨r22, M, hqr22, hF⟩ := zzcall_e hF
            refine zi_callV_i (M2 := M) (r := r22) (n := 2) (As := [.int (10 : Int32), .int x13]) (st := []) C (c_Md_order hqr22 hn_v0 hk_v0) zw_95 zw_18 (by decide +kernel) ⟨Nat.le_of_ble_eq_true rfl, Nat.le_of_ble_eq_true rfl⟩ rfl (Nat.le_of_ble_eq_true rfl) ⟨Nat.le_of_ble_eq_true rfl, Nat.le_of_ble_eq_true rfl⟩ zw_96 zw_97 zw_98 zc_9.1 hn_v0 hk_v0 rfl d_Md_close_190 ?_
            refine zi_pop C d_Md_close_193 rfl ?_
            refine zi_aload_n C d_Md_close_194 rfl 3 rfl ?_
            refine zi_bipush (v := 6) C d_Md_close_195 (by decide) ?_
            refine zi_bipush (v := 123) C d_Md_close_197 (by decide) ?_
            refine zi_iload_n C d_Md_close_199 rfl 1 rfl ?_
            obtain ⟨r23, M, hqr23, hF⟩ := zzcall_e hF
            refine zi_callV_v (M2 := M) (n := 3) (As := [.int (6 : Int32), .int (123 : Int32), .int x8]) (st := []) C (c_Md_open hqr23 hn_v0 hk_v0) zw_103 zw_18 (by decide +kernel) ⟨Nat.le_of_ble_eq_true rfl, Nat.le_of_ble_eq_true rfl⟩ rfl (Nat.le_of_ble_eq_true rfl) ⟨Nat.le_of_ble_eq_true rfl, Nat.le_of_ble_eq_true rfl⟩ zw_104 zw_105 zw_106 zc_9.1 hn_v0 hk_v0 rfl d_Md_close_200 ?_
            refine zi_goto (tgt := 236) C d_Md_close_203 (by decide) ?_
            exact zi_vret C hlocks hr d_Md_close_236 rfl rfl (by cases hF; rfl) rfl
        · refine zi_aload_n C d_Md_close_165 rfl 3 rfl ?_
          refine zi_bipush (v := 8) C d_Md_close_166 (by decide) ?_
          refine zi_iload_n C d_Md_close_168 rfl 0 rfl ?_
          obtain ⟨r24, M, hqr24, hF⟩ := zzcall_e hF
          refine zi_callV_i (M2 := M) (r := r24) (n := 2) (As := [.int (8 : Int32), .int x13]) (st := []) C (c_Md_order hqr24 hn_v0 hk_v0) zw_95 zw_18 (by decide +kernel) ⟨Nat.le_of_ble_eq_true rfl, Nat.le_of_ble_eq_true rfl⟩ rfl (Nat.le_of_ble_eq_true rfl) ⟨Nat.le_of_ble_eq_true rfl, Nat.le_of_ble_eq_true rfl⟩ zw_96 zw_97 zw_98 zc_9.1 hn_v0 hk_v0 rfl d_Md_close_169 ?_
          refine zi_pop C d_Md_close_172 rfl ?_
          refine zi_goto (tgt := 236) C d_Md_close_173 (by decide) ?_
          exact zi_vret C hlocks hr d_Md_close_236 rfl rfl (by cases hF; rfl) rfl
      · refine zi_aload_n C d_Md_close_126 rfl 3 rfl ?_
        refine zi_bipush (v := 17) C d_Md_close_127 (by decide) ?_
        refine zi_iload_n C d_Md_close_129 rfl 0 rfl ?_
        obtain ⟨r25, M, hqr25, hF⟩ := zzcall_e hF
        refine zi_callV_i (M2 := M) (r := r25) (n := 2) (As := [.int (17 : Int32), .int x13]) (st := []) C (c_Md_order hqr25 hn_v0 hk_v0) zw_95 zw_18 (by decide +kernel) ⟨Nat.le_of_ble_eq_true rfl, Nat.le_of_ble_eq_true rfl⟩ rfl (Nat.le_of_ble_eq_true rfl) ⟨Nat.le_of_ble_eq_true rfl, Nat.le_of_ble_eq_true rfl⟩ zw_96 zw_97 zw_98 zc_9.1 hn_v0 hk_v0 rfl d_Md_close_130 ?_
        refine zi_istore (lv' := [(4, .int r25), (3, .int x13), (2, .int x8), (1, .int x4), (0, .ref (bs + v0))]) C d_Md_close_133 (by decide) rfl ?_
        refine zi_aload_n C d_Md_close_135 rfl 4 rfl ?_
        refine zi_getR C zc_9 (k := 11) (by decide) zw_91 rfl hn_v0 hk_v0 d_Md_close_136 (fun _ _ _ => rfl) hF (fun b26 hn_b26 hk_b26 hF => ?_)
        refine zi_sipush (v := 600) C d_Md_close_139 (by decide) ?_
        refine zi_aload_n C d_Md_close_142 rfl 4 rfl ?_
        refine zi_getI C zc_9 (k := 15) (by decide) zw_36 rfl hn_v0 hk_v0 d_Md_close_143 (fun _ _ _ => rfl) hF (fun x27 hF => ?_)
        refine zi_imul C d_Md_close_146 hF (fun x28 hF => ?_)
        refine zi_iload C d_Md_close_147 0 rfl ?_
        refine zi_iadd C d_Md_close_149 hF (fun x29 hF => ?_)
        refine zi_iload_n C d_Md_close_150 rfl 2 rfl ?_
        refine zi_iast C hn_b26 hk_b26 d_Md_close_151 hF (fun M hF => ?_)
        refine zi_aload_n C d_Md_close_152 rfl 4 rfl ?_
        refine zi_iload_n C d_Md_close_153 rfl 2 rfl ?_
        obtain ⟨r30, M, hqr30, hF⟩ := zzcall_e hF
        refine zi_callV_v (M2 := M) (n := 1) (As := [.int x8]) (st := []) C (c_Md_aim hqr30 hn_v0 hk_v0) zw_99 zw_18 (by decide +kernel) ⟨Nat.le_of_ble_eq_true rfl, Nat.le_of_ble_eq_true rfl⟩ rfl (Nat.le_of_ble_eq_true rfl) ⟨Nat.le_of_ble_eq_true rfl, Nat.le_of_ble_eq_true rfl⟩ zw_100 zw_101 zw_102 zc_9.1 hn_v0 hk_v0 rfl d_Md_close_154 ?_
        refine zi_goto (tgt := 236) C d_Md_close_157 (by decide) ?_
        exact zi_vret C hlocks hr d_Md_close_236 rfl rfl (by cases hF; rfl) rfl
    · refine zi_aload_n C d_Md_close_113 rfl 3 rfl ?_
      refine zi_iload_n C d_Md_close_114 rfl 1 rfl ?_
      obtain ⟨r31, M, hqr31, hF⟩ := zzcall_e hF
      refine zi_callV_v (M2 := M) (n := 1) (As := [.int x8]) (st := []) C (c_Md_aim hqr31 hn_v0 hk_v0) zw_99 zw_18 (by decide +kernel) ⟨Nat.le_of_ble_eq_true rfl, Nat.le_of_ble_eq_true rfl⟩ rfl (Nat.le_of_ble_eq_true rfl) ⟨Nat.le_of_ble_eq_true rfl, Nat.le_of_ble_eq_true rfl⟩ zw_100 zw_101 zw_102 zc_9.1 hn_v0 hk_v0 rfl d_Md_close_115 ?_
      refine zi_goto (tgt := 236) C d_Md_close_118 (by decide) ?_
      exact zi_vret C hlocks hr d_Md_close_236 rfl rfl (by cases hF; rfl) rfl
  · refine zi_aload_n C d_Md_close_65 rfl 3 rfl ?_
    obtain ⟨r32, M, hqr32, hF⟩ := zzcall_e hF
    refine zi_callV_i (M2 := M) (r := r32) (n := 0) (As := []) (st := []) C (c_Md_peek hqr32 hn_v0 hk_v0) zw_31 zw_18 (by decide +kernel) ⟨Nat.le_of_ble_eq_true rfl, Nat.le_of_ble_eq_true rfl⟩ rfl (Nat.le_of_ble_eq_true rfl) ⟨Nat.le_of_ble_eq_true rfl, Nat.le_of_ble_eq_true rfl⟩ zw_32 zw_33 zw_34 zc_9.1 hn_v0 hk_v0 rfl d_Md_close_66 ?_
    refine zi_bipush (v := 123) C d_Md_close_69 (by decide) ?_
    refine zi_icmp_ne (tgt := 100) C d_Md_close_71 (by decide) hF (fun hF => ?_) (fun hF => ?_)
    · refine zi_aload_n C d_Md_close_100 rfl 3 rfl ?_
      refine zi_iload_n C d_Md_close_101 rfl 1 rfl ?_
      obtain ⟨r33, M, hqr33, hF⟩ := zzcall_e hF
      refine zi_callV_v (M2 := M) (n := 1) (As := [.int x8]) (st := []) C (c_Md_aim hqr33 hn_v0 hk_v0) zw_99 zw_18 (by decide +kernel) ⟨Nat.le_of_ble_eq_true rfl, Nat.le_of_ble_eq_true rfl⟩ rfl (Nat.le_of_ble_eq_true rfl) ⟨Nat.le_of_ble_eq_true rfl, Nat.le_of_ble_eq_true rfl⟩ zw_100 zw_101 zw_102 zc_9.1 hn_v0 hk_v0 rfl d_Md_close_102 ?_
      refine zi_goto (tgt := 236) C d_Md_close_105 (by decide) ?_
      exact zi_vret C hlocks hr d_Md_close_236 rfl rfl (by cases hF; rfl) rfl
    · refine zi_aload_n C d_Md_close_74 rfl 3 rfl ?_
      refine zi_bipush (v := 17) C d_Md_close_75 (by decide) ?_
      refine zi_iload_n C d_Md_close_77 rfl 0 rfl ?_
      obtain ⟨r34, M, hqr34, hF⟩ := zzcall_e hF
      refine zi_callV_i (M2 := M) (r := r34) (n := 2) (As := [.int (17 : Int32), .int x13]) (st := []) C (c_Md_order hqr34 hn_v0 hk_v0) zw_95 zw_18 (by decide +kernel) ⟨Nat.le_of_ble_eq_true rfl, Nat.le_of_ble_eq_true rfl⟩ rfl (Nat.le_of_ble_eq_true rfl) ⟨Nat.le_of_ble_eq_true rfl, Nat.le_of_ble_eq_true rfl⟩ zw_96 zw_97 zw_98 zc_9.1 hn_v0 hk_v0 rfl d_Md_close_78 ?_
      refine zi_istore (lv' := [(4, .int r34), (3, .int x13), (2, .int x8), (1, .int x4), (0, .ref (bs + v0))]) C d_Md_close_81 (by decide) rfl ?_
      refine zi_aload_n C d_Md_close_83 rfl 4 rfl ?_
      refine zi_iload_n C d_Md_close_84 rfl 2 rfl ?_
      obtain ⟨r35, M, hqr35, hF⟩ := zzcall_e hF
      refine zi_callV_v (M2 := M) (n := 1) (As := [.int x8]) (st := []) C (c_Md_aim hqr35 hn_v0 hk_v0) zw_99 zw_18 (by decide +kernel) ⟨Nat.le_of_ble_eq_true rfl, Nat.le_of_ble_eq_true rfl⟩ rfl (Nat.le_of_ble_eq_true rfl) ⟨Nat.le_of_ble_eq_true rfl, Nat.le_of_ble_eq_true rfl⟩ zw_100 zw_101 zw_102 zc_9.1 hn_v0 hk_v0 rfl d_Md_close_85 ?_
      refine zi_aload_n C d_Md_close_88 rfl 4 rfl ?_
      refine zi_iconst (v := 2) C d_Md_close_89 (by decide) ?_
      refine zi_bipush (v := 123) C d_Md_close_90 (by decide) ?_
      refine zi_iload C d_Md_close_92 0 rfl ?_
      obtain ⟨r36, M, hqr36, hF⟩ := zzcall_e hF
      refine zi_callV_v (M2 := M) (n := 3) (As := [.int (2 : Int32), .int (123 : Int32), .int r34]) (st := []) C (c_Md_open hqr36 hn_v0 hk_v0) zw_103 zw_18 (by decide +kernel) ⟨Nat.le_of_ble_eq_true rfl, Nat.le_of_ble_eq_true rfl⟩ rfl (Nat.le_of_ble_eq_true rfl) ⟨Nat.le_of_ble_eq_true rfl, Nat.le_of_ble_eq_true rfl⟩ zw_104 zw_105 zw_106 zc_9.1 hn_v0 hk_v0 rfl d_Md_close_94 ?_
      refine zi_goto (tgt := 236) C d_Md_close_97 (by decide) ?_
      exact zi_vret C hlocks hr d_Md_close_236 rfl rfl (by cases hF; rfl) rfl
