def F_Md_call (S : zzS)  (M : zzM) (v0 : Nat) (v1 : Int32) : Option (Unit × zzM) := zzref S 1 (zzR M v0 12) fun b1 => zzlet (zzI M v0 3) fun x2 => zzlet ((26 : Int32) * x2) fun x3 => zzlet (x3 + v1) fun x4 => zzix S b1 x4 (zzlet (zzI M b1 (x4).toNatClampNeg) fun x5 => if x5 = (-1 : Int32) then (zzlet (zzI M v0 51) fun x14 => zzcall (F_Md_raise S M v0 (6 : Int32) x14 (0 : Int32)) fun r15 M => some ((), M)) else (zzlet (zzI M v0 53) fun x6 => if x6 = (2 : Int32) then (zzlet (zzI M v0 51) fun x12 => zzcall (F_Md_raise S M v0 (5 : Int32) x12 (0 : Int32)) fun r13 M => some ((), M)) else (zzref S 1 (zzR M v0 54) fun b7 => zzlet (zzI M v0 53) fun x8 => zzlet (zzI M v0 52) fun x9 => zzix S b7 x8 (zzlet (zzsI M b7 (x8).toNatClampNeg x9) fun M => zzlet (zzI M v0 53) fun x10 => zzlet (x10 + (1 : Int32)) fun x11 => zzlet (zzsI M v0 53 x11) fun M => zzlet (zzsI M v0 52 x5) fun M => some ((), M)))))
set_option maxHeartbeats 4000000 in
set_option maxRecDepth 100000 in
theorem c_Md_call {l : Launch} {D : zzD} {bs : Nat} {A : Nat → Prop} {S : zzS} {M : zzM} {hz : Nat} {out : Unit × zzM} {v0 : Nat} {v1 : Int32}   (hF : F_Md_call S  M v0 v1 = some out) (hn_v0 : v0 < S.2.1) (hk_v0 : zzk S v0 = 19) : Met l y_Md_call (Cond.code y_Md_call prog_12_method_52_code 3 none :: zzW) { frames := 2, cells := 0, slots := 0, locals := 47 } (zzPc D bs A S M hz [.ref (bs + v0), .int v1]) (zzQc D bs A S out.2 hz none) 0 0 A := by
  refine zz_met [.ref (bs + v0), .int v1] (by decide) (Nat.le_of_ble_eq_true rfl) (fun p e s m args below meth c C hr hlocks hin hsz => ?_)
  refine zz_eq (lv' := [(0, .ref (bs + v0)), (1, .int v1)]) (st' := []) rfl rfl ?_
  unfold F_Md_call at hF
  refine zi_aload_n C d_Md_call_0 rfl 0 rfl ?_
  refine zi_getR C zc_9 (k := 12) (by decide) zw_110 rfl hn_v0 hk_v0 d_Md_call_1 (fun _ _ _ => rfl) hF (fun b1 hn_b1 hk_b1 hF => ?_)
  refine zi_bipush (v := 26) C d_Md_call_4 (by decide) ?_
  refine zi_aload_n C d_Md_call_6 rfl 0 rfl ?_
  refine zi_getI C zc_9 (k := 3) (by decide) zw_16 rfl hn_v0 hk_v0 d_Md_call_7 (fun _ _ _ => rfl) hF (fun x2 hF => ?_)
  refine zi_imul C d_Md_call_10 hF (fun x3 hF => ?_)
  refine zi_iload_n C d_Md_call_11 rfl 1 rfl ?_
  refine zi_iadd C d_Md_call_12 hF (fun x4 hF => ?_)
  refine zi_iald C hn_b1 hk_b1 d_Md_call_13 hF (fun x5 hF => ?_)
  refine zi_istore_n (lv' := [(2, .int x5), (0, .ref (bs + v0)), (1, .int v1)]) C d_Md_call_14 rfl (by decide) rfl ?_
  refine zi_iload_n C d_Md_call_15 rfl 0 rfl ?_
  refine zi_iconst (v := -1) C d_Md_call_16 (by decide) ?_
  refine zi_icmp_ne (tgt := 32) C d_Md_call_17 (by decide) hF (fun hF => ?_) (fun hF => ?_)
  · refine zi_aload_n C d_Md_call_32 rfl 1 rfl ?_
    refine zi_getI C zc_9 (k := 53) (by decide) zw_179 rfl hn_v0 hk_v0 d_Md_call_33 (fun _ _ _ => rfl) hF (fun x6 hF => ?_)
    refine zi_iconst (v := 2) C d_Md_call_36 (by decide) ?_
    refine zi_icmp_ne (tgt := 51) C d_Md_call_37 (by decide) hF (fun hF => ?_) (fun hF => ?_)
    · refine zi_aload_n C d_Md_call_51 rfl 1 rfl ?_
      refine zi_getR C zc_9 (k := 54) (by decide) zw_207 rfl hn_v0 hk_v0 d_Md_call_52 (fun _ _ _ => rfl) hF (fun b7 hn_b7 hk_b7 hF => ?_)
      refine zi_aload_n C d_Md_call_55 rfl 1 rfl ?_
      refine zi_getI C zc_9 (k := 53) (by decide) zw_179 rfl hn_v0 hk_v0 d_Md_call_56 (fun _ _ _ => rfl) hF (fun x8 hF => ?_)
      refine zi_aload_n C d_Md_call_59 rfl 1 rfl ?_
      refine zi_getI C zc_9 (k := 52) (by decide) zw_189 rfl hn_v0 hk_v0 d_Md_call_60 (fun _ _ _ => rfl) hF (fun x9 hF => ?_)
      refine zi_iast C hn_b7 hk_b7 d_Md_call_63 hF (fun M hF => ?_)
      refine zi_aload_n C d_Md_call_64 rfl 1 rfl ?_
      refine zi_dup C d_Md_call_65 rfl ?_
      refine zi_getI C zc_9 (k := 53) (by decide) zw_179 rfl hn_v0 hk_v0 d_Md_call_66 (fun _ _ _ => rfl) hF (fun x10 hF => ?_)
      refine zi_iconst (v := 1) C d_Md_call_69 (by decide) ?_
      refine zi_iadd C d_Md_call_70 hF (fun x11 hF => ?_)
      refine zi_putI C zc_9 (k := 53) (by decide) zw_179 rfl (Or.inl rfl) hn_v0 hk_v0 d_Md_call_71 rfl hF (fun M hF => ?_)
      refine zi_aload_n C d_Md_call_74 rfl 1 rfl ?_
      refine zi_iload_n C d_Md_call_75 rfl 0 rfl ?_
      refine zi_putI C zc_9 (k := 52) (by decide) zw_189 rfl (Or.inl rfl) hn_v0 hk_v0 d_Md_call_76 rfl hF (fun M hF => ?_)
      exact zi_vret C hlocks hr d_Md_call_79 rfl rfl (by cases hF; rfl) rfl
    · refine zi_aload_n C d_Md_call_40 rfl 1 rfl ?_
      refine zi_iconst (v := 5) C d_Md_call_41 (by decide) ?_
      refine zi_aload_n C d_Md_call_42 rfl 1 rfl ?_
      refine zi_getI C zc_9 (k := 51) (by decide) zw_191 rfl hn_v0 hk_v0 d_Md_call_43 (fun _ _ _ => rfl) hF (fun x12 hF => ?_)
      refine zi_iconst (v := 0) C d_Md_call_46 (by decide) ?_
      obtain ⟨r13, M, hqr13, hF⟩ := zzcall_e hF
      refine zi_callV_v (M2 := M) (n := 3) (As := [.int (5 : Int32), .int x12, .int (0 : Int32)]) (st := []) C (c_Md_raise hqr13 hn_v0 hk_v0) zw_196 zw_18 (by decide +kernel) ⟨Nat.le_of_ble_eq_true rfl, Nat.le_of_ble_eq_true rfl⟩ rfl (Nat.le_of_ble_eq_true rfl) ⟨Nat.le_of_ble_eq_true rfl, Nat.le_of_ble_eq_true rfl⟩ zw_197 zw_198 zw_199 zc_9.1 hn_v0 hk_v0 rfl d_Md_call_47 ?_
      exact zi_vret C hlocks hr d_Md_call_50 rfl rfl (by cases hF; rfl) rfl
  · refine zi_aload_n C d_Md_call_20 rfl 1 rfl ?_
    refine zi_bipush (v := 6) C d_Md_call_21 (by decide) ?_
    refine zi_aload_n C d_Md_call_23 rfl 1 rfl ?_
    refine zi_getI C zc_9 (k := 51) (by decide) zw_191 rfl hn_v0 hk_v0 d_Md_call_24 (fun _ _ _ => rfl) hF (fun x14 hF => ?_)
    refine zi_iconst (v := 0) C d_Md_call_27 (by decide) ?_
    obtain ⟨r15, M, hqr15, hF⟩ := zzcall_e hF
    refine zi_callV_v (M2 := M) (n := 3) (As := [.int (6 : Int32), .int x14, .int (0 : Int32)]) (st := []) C (c_Md_raise hqr15 hn_v0 hk_v0) zw_196 zw_18 (by decide +kernel) ⟨Nat.le_of_ble_eq_true rfl, Nat.le_of_ble_eq_true rfl⟩ rfl (Nat.le_of_ble_eq_true rfl) ⟨Nat.le_of_ble_eq_true rfl, Nat.le_of_ble_eq_true rfl⟩ zw_197 zw_198 zw_199 zc_9.1 hn_v0 hk_v0 rfl d_Md_call_28 ?_
    exact zi_vret C hlocks hr d_Md_call_31 rfl rfl (by cases hF; rfl) rfl
def F_Md_closeEnd (S : zzS)  (M : zzM) (v0 : Nat) : Option (Unit × zzM) := zzlet (zzI M v0 55) fun x1 => zzlet (x1 - (1 : Int32)) fun x2 => zzlet (zzsI M v0 55 x2) fun M => zzlet (zzI M v0 55) fun x3 => zzref S 1 (zzR M v0 59) fun b4 => zzix S b4 x3 (zzlet (zzI M b4 (x3).toNatClampNeg) fun x5 => if x5 = 0 then (some ((), M)) else (zzref S 1 (zzR M v0 59) fun b6 => zzix S b6 x3 (zzlet (zzI M b6 (x3).toNatClampNeg) fun x7 => zzref S 1 (zzR M v0 60) fun b8 => zzix S b8 x3 (zzlet (zzI M b8 (x3).toNatClampNeg) fun x9 => zzref S 1 (zzR M v0 61) fun b10 => zzix S b10 x3 (zzlet (zzI M b10 (x3).toNatClampNeg) fun x11 => zzcall (F_Md_raise S M v0 x7 x9 x11) fun r12 M => some ((), M))))))
set_option maxHeartbeats 4000000 in
set_option maxRecDepth 100000 in
theorem c_Md_closeEnd {l : Launch} {D : zzD} {bs : Nat} {A : Nat → Prop} {S : zzS} {M : zzM} {hz : Nat} {out : Unit × zzM} {v0 : Nat}   (hF : F_Md_closeEnd S  M v0 = some out) (hn_v0 : v0 < S.2.1) (hk_v0 : zzk S v0 = 19) : Met l y_Md_closeEnd (Cond.code y_Md_closeEnd prog_12_method_53_code 2 none :: zzW) { frames := 2, cells := 0, slots := 0, locals := 47 } (zzPc D bs A S M hz [.ref (bs + v0)]) (zzQc D bs A S out.2 hz none) 0 0 A := by
  refine zz_met [.ref (bs + v0)] (by decide) (Nat.le_of_ble_eq_true rfl) (fun p e s m args below meth c C hr hlocks hin hsz => ?_)
  refine zz_eq (lv' := [(0, .ref (bs + v0))]) (st' := []) rfl rfl ?_
  unfold F_Md_closeEnd at hF
  refine zi_aload_n C d_Md_closeEnd_0 rfl 0 rfl ?_
  refine zi_dup C d_Md_closeEnd_1 rfl ?_
  refine zi_getI C zc_9 (k := 55) (by decide) zw_175 rfl hn_v0 hk_v0 d_Md_closeEnd_2 (fun _ _ _ => rfl) hF (fun x1 hF => ?_)
  refine zi_iconst (v := 1) C d_Md_closeEnd_5 (by decide) ?_
  refine zi_isub C d_Md_closeEnd_6 hF (fun x2 hF => ?_)
  refine zi_putI C zc_9 (k := 55) (by decide) zw_175 rfl (Or.inl rfl) hn_v0 hk_v0 d_Md_closeEnd_7 rfl hF (fun M hF => ?_)
  refine zi_aload_n C d_Md_closeEnd_10 rfl 0 rfl ?_
  refine zi_getI C zc_9 (k := 55) (by decide) zw_175 rfl hn_v0 hk_v0 d_Md_closeEnd_11 (fun _ _ _ => rfl) hF (fun x3 hF => ?_)
  refine zi_istore_n (lv' := [(1, .int x3), (0, .ref (bs + v0))]) C d_Md_closeEnd_14 rfl (by decide) rfl ?_
  refine zi_aload_n C d_Md_closeEnd_15 rfl 1 rfl ?_
  refine zi_getR C zc_9 (k := 59) (by decide) zw_185 rfl hn_v0 hk_v0 d_Md_closeEnd_16 (fun _ _ _ => rfl) hF (fun b4 hn_b4 hk_b4 hF => ?_)
  refine zi_iload_n C d_Md_closeEnd_19 rfl 0 rfl ?_
  refine zi_iald C hn_b4 hk_b4 d_Md_closeEnd_20 hF (fun x5 hF => ?_)
  refine zi_if_eq (tgt := 46) C d_Md_closeEnd_21 (by decide) hF (fun hF => ?_) (fun hF => ?_)
  · exact zi_vret C hlocks hr d_Md_closeEnd_46 rfl rfl (by cases hF; rfl) rfl
  · refine zi_aload_n C d_Md_closeEnd_24 rfl 1 rfl ?_
    refine zi_aload_n C d_Md_closeEnd_25 rfl 1 rfl ?_
    refine zi_getR C zc_9 (k := 59) (by decide) zw_185 rfl hn_v0 hk_v0 d_Md_closeEnd_26 (fun _ _ _ => rfl) hF (fun b6 hn_b6 hk_b6 hF => ?_)
    refine zi_iload_n C d_Md_closeEnd_29 rfl 0 rfl ?_
    refine zi_iald C hn_b6 hk_b6 d_Md_closeEnd_30 hF (fun x7 hF => ?_)
    refine zi_aload_n C d_Md_closeEnd_31 rfl 1 rfl ?_
    refine zi_getR C zc_9 (k := 60) (by decide) zw_186 rfl hn_v0 hk_v0 d_Md_closeEnd_32 (fun _ _ _ => rfl) hF (fun b8 hn_b8 hk_b8 hF => ?_)
    refine zi_iload_n C d_Md_closeEnd_35 rfl 0 rfl ?_
    refine zi_iald C hn_b8 hk_b8 d_Md_closeEnd_36 hF (fun x9 hF => ?_)
    refine zi_aload_n C d_Md_closeEnd_37 rfl 1 rfl ?_
    refine zi_getR C zc_9 (k := 61) (by decide) zw_187 rfl hn_v0 hk_v0 d_Md_closeEnd_38 (fun _ _ _ => rfl) hF (fun b10 hn_b10 hk_b10 hF => ?_)
    refine zi_iload_n C d_Md_closeEnd_41 rfl 0 rfl ?_
    refine zi_iald C hn_b10 hk_b10 d_Md_closeEnd_42 hF (fun x11 hF => ?_)
    obtain ⟨r12, M, hqr12, hF⟩ := zzcall_e hF
    refine zi_callV_v (M2 := M) (n := 3) (As := [.int x7, .int x9, .int x11]) (st := []) C (c_Md_raise hqr12 hn_v0 hk_v0) zw_196 zw_18 (by decide +kernel) ⟨Nat.le_of_ble_eq_true rfl, Nat.le_of_ble_eq_true rfl⟩ rfl (Nat.le_of_ble_eq_true rfl) ⟨Nat.le_of_ble_eq_true rfl, Nat.le_of_ble_eq_true rfl⟩ zw_197 zw_198 zw_199 zc_9.1 hn_v0 hk_v0 rfl d_Md_closeEnd_43 ?_
    exact zi_vret C hlocks hr d_Md_closeEnd_46 rfl rfl (by cases hF; rfl) rfl
def F_Md_beginClosing (S : zzS)  (M : zzM) (v0 : Nat) (v1 : Int32) : Option (Unit × zzM) := zzref S 1 (zzR M v0 56) fun b1 => zzlet (zzI M v0 55) fun x2 => zzlet (x2 - (1 : Int32)) fun x3 => zzix S b1 x3 (zzlet (zzsI M b1 (x3).toNatClampNeg (10 : Int32)) fun M => zzlet (zzI M v0 42) fun x4 => if x4 = (20 : Int32) then (some ((), M)) else (zzref S 1 (zzR M v0 43) fun b5 => zzlet (zzI M v0 42) fun x6 => zzix S b5 x6 (zzlet (zzsI M b5 (x6).toNatClampNeg v1) fun M => zzlet (zzI M v0 42) fun x7 => zzlet (x7 + (1 : Int32)) fun x8 => zzlet (zzsI M v0 42 x8) fun M => some ((), M))))
set_option maxHeartbeats 4000000 in
set_option maxRecDepth 100000 in
theorem c_Md_beginClosing {l : Launch} {D : zzD} {bs : Nat} {A : Nat → Prop} {S : zzS} {M : zzM} {hz : Nat} {out : Unit × zzM} {v0 : Nat} {v1 : Int32}   (hF : F_Md_beginClosing S  M v0 v1 = some out) (hn_v0 : v0 < S.2.1) (hk_v0 : zzk S v0 = 19) : Met l y_Md_beginClosing (Cond.code y_Md_beginClosing prog_12_method_54_code 2 none :: zzW) { frames := 0, cells := 0, slots := 0, locals := 0 } (zzPc D bs A S M hz [.ref (bs + v0), .int v1]) (zzQc D bs A S out.2 hz none) 0 0 A := by
  refine zz_met [.ref (bs + v0), .int v1] (by decide) (Nat.le_of_ble_eq_true rfl) (fun p e s m args below meth c C hr hlocks hin hsz => ?_)
  refine zz_eq (lv' := [(0, .ref (bs + v0)), (1, .int v1)]) (st' := []) rfl rfl ?_
  unfold F_Md_beginClosing at hF
  refine zi_aload_n C d_Md_beginClosing_0 rfl 0 rfl ?_
  refine zi_getR C zc_9 (k := 56) (by decide) zw_180 rfl hn_v0 hk_v0 d_Md_beginClosing_1 (fun _ _ _ => rfl) hF (fun b1 hn_b1 hk_b1 hF => ?_)
  refine zi_aload_n C d_Md_beginClosing_4 rfl 0 rfl ?_
  refine zi_getI C zc_9 (k := 55) (by decide) zw_175 rfl hn_v0 hk_v0 d_Md_beginClosing_5 (fun _ _ _ => rfl) hF (fun x2 hF => ?_)
  refine zi_iconst (v := 1) C d_Md_beginClosing_8 (by decide) ?_
  refine zi_isub C d_Md_beginClosing_9 hF (fun x3 hF => ?_)
  refine zi_bipush (v := 10) C d_Md_beginClosing_10 (by decide) ?_
  refine zi_iast C hn_b1 hk_b1 d_Md_beginClosing_12 hF (fun M hF => ?_)
  refine zi_aload_n C d_Md_beginClosing_13 rfl 0 rfl ?_
  refine zi_getI C zc_9 (k := 42) (by decide) zw_4 rfl hn_v0 hk_v0 d_Md_beginClosing_14 (fun _ _ _ => rfl) hF (fun x4 hF => ?_)
  refine zi_bipush (v := 20) C d_Md_beginClosing_17 (by decide) ?_
  refine zi_icmp_ne (tgt := 23) C d_Md_beginClosing_19 (by decide) hF (fun hF => ?_) (fun hF => ?_)
  · refine zi_aload_n C d_Md_beginClosing_23 rfl 0 rfl ?_
    refine zi_getR C zc_9 (k := 43) (by decide) zw_208 rfl hn_v0 hk_v0 d_Md_beginClosing_24 (fun _ _ _ => rfl) hF (fun b5 hn_b5 hk_b5 hF => ?_)
    refine zi_aload_n C d_Md_beginClosing_27 rfl 0 rfl ?_
    refine zi_getI C zc_9 (k := 42) (by decide) zw_4 rfl hn_v0 hk_v0 d_Md_beginClosing_28 (fun _ _ _ => rfl) hF (fun x6 hF => ?_)
    refine zi_iload_n C d_Md_beginClosing_31 rfl 1 rfl ?_
    refine zi_iast C hn_b5 hk_b5 d_Md_beginClosing_32 hF (fun M hF => ?_)
    refine zi_aload_n C d_Md_beginClosing_33 rfl 0 rfl ?_
    refine zi_dup C d_Md_beginClosing_34 rfl ?_
    refine zi_getI C zc_9 (k := 42) (by decide) zw_4 rfl hn_v0 hk_v0 d_Md_beginClosing_35 (fun _ _ _ => rfl) hF (fun x7 hF => ?_)
    refine zi_iconst (v := 1) C d_Md_beginClosing_38 (by decide) ?_
    refine zi_iadd C d_Md_beginClosing_39 hF (fun x8 hF => ?_)
    refine zi_putI C zc_9 (k := 42) (by decide) zw_4 rfl (Or.inl rfl) hn_v0 hk_v0 d_Md_beginClosing_40 rfl hF (fun M hF => ?_)
    exact zi_vret C hlocks hr d_Md_beginClosing_43 rfl rfl (by cases hF; rfl) rfl
  · exact zi_vret C hlocks hr d_Md_beginClosing_22 rfl rfl (by cases hF; rfl) rfl
def F_Md_endAct (S : zzS)  (M : zzM) (v0 : Nat) (v1 : Int32) : Option (Unit × zzM) := zzlet (zzI M v0 32) fun x1 => if x1 = (-1 : Int32) then (zzlet (zzI M v0 55) fun x2 => zzlet (x2 - (1 : Int32)) fun x3 => zzlet (zzsI M v0 55 x3) fun M => some ((), M)) else (zzref S 1 (zzR M v0 58) fun b4 => zzlet (zzI M v0 55) fun x5 => zzlet (x5 - (1 : Int32)) fun x6 => zzix S b4 x6 (zzlet (zzI M b4 (x6).toNatClampNeg) fun x7 => zzlet (zzI M v0 32) fun x8 => if x7 = x8 then (zzcall (F_Md_raise S M v0 (7 : Int32) v1 (0 : Int32)) fun r11 M => some ((), M)) else (zzlet (zzI M v0 55) fun x9 => zzlet (x9 - (1 : Int32)) fun x10 => zzlet (zzsI M v0 55 x10) fun M => some ((), M))))
set_option maxHeartbeats 4000000 in
set_option maxRecDepth 100000 in
theorem c_Md_endAct {l : Launch} {D : zzD} {bs : Nat} {A : Nat → Prop} {S : zzS} {M : zzM} {hz : Nat} {out : Unit × zzM} {v0 : Nat} {v1 : Int32}   (hF : F_Md_endAct S  M v0 v1 = some out) (hn_v0 : v0 < S.2.1) (hk_v0 : zzk S v0 = 19) : Met l y_Md_endAct (Cond.code y_Md_endAct prog_12_method_55_code 2 none :: zzW) { frames := 2, cells := 0, slots := 0, locals := 47 } (zzPc D bs A S M hz [.ref (bs + v0), .int v1]) (zzQc D bs A S out.2 hz none) 0 0 A := by
  refine zz_met [.ref (bs + v0), .int v1] (by decide) (Nat.le_of_ble_eq_true rfl) (fun p e s m args below meth c C hr hlocks hin hsz => ?_)
  refine zz_eq (lv' := [(0, .ref (bs + v0)), (1, .int v1)]) (st' := []) rfl rfl ?_
  unfold F_Md_endAct at hF
  refine zi_aload_n C d_Md_endAct_0 rfl 0 rfl ?_
  refine zi_getI C zc_9 (k := 32) (by decide) zw_14 rfl hn_v0 hk_v0 d_Md_endAct_1 (fun _ _ _ => rfl) hF (fun x1 hF => ?_)
  refine zi_iconst (v := -1) C d_Md_endAct_4 (by decide) ?_
  refine zi_icmp_eq (tgt := 37) C d_Md_endAct_5 (by decide) hF (fun hF => ?_) (fun hF => ?_)
  · refine zi_aload_n C d_Md_endAct_37 rfl 0 rfl ?_
    refine zi_dup C d_Md_endAct_38 rfl ?_
    refine zi_getI C zc_9 (k := 55) (by decide) zw_175 rfl hn_v0 hk_v0 d_Md_endAct_39 (fun _ _ _ => rfl) hF (fun x2 hF => ?_)
    refine zi_iconst (v := 1) C d_Md_endAct_42 (by decide) ?_
    refine zi_isub C d_Md_endAct_43 hF (fun x3 hF => ?_)
    refine zi_putI C zc_9 (k := 55) (by decide) zw_175 rfl (Or.inl rfl) hn_v0 hk_v0 d_Md_endAct_44 rfl hF (fun M hF => ?_)
    exact zi_vret C hlocks hr d_Md_endAct_47 rfl rfl (by cases hF; rfl) rfl
  · refine zi_aload_n C d_Md_endAct_8 rfl 0 rfl ?_
    refine zi_getR C zc_9 (k := 58) (by decide) zw_188 rfl hn_v0 hk_v0 d_Md_endAct_9 (fun _ _ _ => rfl) hF (fun b4 hn_b4 hk_b4 hF => ?_)
    refine zi_aload_n C d_Md_endAct_12 rfl 0 rfl ?_
    refine zi_getI C zc_9 (k := 55) (by decide) zw_175 rfl hn_v0 hk_v0 d_Md_endAct_13 (fun _ _ _ => rfl) hF (fun x5 hF => ?_)
    refine zi_iconst (v := 1) C d_Md_endAct_16 (by decide) ?_
    refine zi_isub C d_Md_endAct_17 hF (fun x6 hF => ?_)
    refine zi_iald C hn_b4 hk_b4 d_Md_endAct_18 hF (fun x7 hF => ?_)
    refine zi_aload_n C d_Md_endAct_19 rfl 0 rfl ?_
    refine zi_getI C zc_9 (k := 32) (by decide) zw_14 rfl hn_v0 hk_v0 d_Md_endAct_20 (fun _ _ _ => rfl) hF (fun x8 hF => ?_)
    refine zi_icmp_ne (tgt := 37) C d_Md_endAct_23 (by decide) hF (fun hF => ?_) (fun hF => ?_)
    · refine zi_aload_n C d_Md_endAct_37 rfl 0 rfl ?_
      refine zi_dup C d_Md_endAct_38 rfl ?_
      refine zi_getI C zc_9 (k := 55) (by decide) zw_175 rfl hn_v0 hk_v0 d_Md_endAct_39 (fun _ _ _ => rfl) hF (fun x9 hF => ?_)
      refine zi_iconst (v := 1) C d_Md_endAct_42 (by decide) ?_
      refine zi_isub C d_Md_endAct_43 hF (fun x10 hF => ?_)
      refine zi_putI C zc_9 (k := 55) (by decide) zw_175 rfl (Or.inl rfl) hn_v0 hk_v0 d_Md_endAct_44 rfl hF (fun M hF => ?_)
      exact zi_vret C hlocks hr d_Md_endAct_47 rfl rfl (by cases hF; rfl) rfl
    · refine zi_aload_n C d_Md_endAct_26 rfl 0 rfl ?_
      refine zi_bipush (v := 7) C d_Md_endAct_27 (by decide) ?_
      refine zi_iload_n C d_Md_endAct_29 rfl 1 rfl ?_
      refine zi_iconst (v := 0) C d_Md_endAct_30 (by decide) ?_
      obtain ⟨r11, M, hqr11, hF⟩ := zzcall_e hF
      refine zi_callV_v (M2 := M) (n := 3) (As := [.int (7 : Int32), .int v1, .int (0 : Int32)]) (st := []) C (c_Md_raise hqr11 hn_v0 hk_v0) zw_196 zw_18 (by decide +kernel) ⟨Nat.le_of_ble_eq_true rfl, Nat.le_of_ble_eq_true rfl⟩ rfl (Nat.le_of_ble_eq_true rfl) ⟨Nat.le_of_ble_eq_true rfl, Nat.le_of_ble_eq_true rfl⟩ zw_197 zw_198 zw_199 zc_9.1 hn_v0 hk_v0 rfl d_Md_endAct_31 ?_
      refine zi_goto (tgt := 47) C d_Md_endAct_34 (by decide) ?_
      exact zi_vret C hlocks hr d_Md_endAct_47 rfl rfl (by cases hF; rfl) rfl
def F_Md_walk_168 (S : zzS)   (M : zzM) (v0 : Nat) (v1 : Int32) (v2 : Int32) : Option (Unit × zzM) := zzref S 1 (zzR M v0 7) fun b1 => zzix S b1 v1 (zzlet (zzI M b1 (v1).toNatClampNeg) fun x2 => zzcall (F_Md_step S M v0 x2) fun r3 M => if r3 = 0 then (some ((), M)) else (if v2 = (1 : Int32) then (zzcall (F_Md_store S M v0 v2 v1) fun r5 M => some ((), M)) else (if v2 = (2 : Int32) then (zzcall (F_Md_store S M v0 v2 v1) fun r7 M => some ((), M)) else (if v2 = (3 : Int32) then (zzcall (F_Md_store S M v0 v2 v1) fun r9 M => some ((), M)) else (if v2 = (4 : Int32) then (zzcall (F_Md_act S M v0 v2 v1) fun r11 M => some ((), M)) else (if v2 = (5 : Int32) then (zzcall (F_Md_act S M v0 v2 v1) fun r13 M => some ((), M)) else (if v2 = (6 : Int32) then (zzcall (F_Md_act S M v0 v2 v1) fun r15 M => some ((), M)) else (if v2 = (7 : Int32) then (zzlet (zzI M v0 45) fun x17 => zzcall (F_Md_handle S M v0 (7 : Int32) x17) fun r18 M => zzlet (zzI M v0 45) fun x19 => zzlet (x19 + (1 : Int32)) fun x20 => zzlet (zzsI M v0 45 x20) fun M => some ((), M)) else (if v2 = (8 : Int32) then (zzcall (F_Md_act S M v0 v2 v1) fun r22 M => some ((), M)) else (if v2 = (9 : Int32) then (zzref S 1 (zzR M v0 11) fun b24 => zzix S b24 v1 (zzlet (zzI M b24 (v1).toNatClampNeg) fun x25 => zzcall (F_Md_handle S M v0 (9 : Int32) x25) fun r26 M => some ((), M))) else (if v2 = (10 : Int32) then (zzcall (F_Md_act S M v0 v2 v1) fun r28 M => some ((), M)) else (if v2 = (11 : Int32) then (zzcall (F_Md_act S M v0 v2 v1) fun r30 M => some ((), M)) else (if v2 = (12 : Int32) then (zzcall (F_Md_act S M v0 v2 v1) fun r32 M => some ((), M)) else (if v2 = (13 : Int32) then (zzcall (F_Md_act S M v0 v2 v1) fun r34 M => some ((), M)) else (if v2 = (14 : Int32) then (zzcall (F_Md_act S M v0 v2 v1) fun r36 M => some ((), M)) else (if v2 = (15 : Int32) then (zzcall (F_Md_act S M v0 v2 v1) fun r38 M => some ((), M)) else (if v2 = (16 : Int32) then (zzcall (F_Md_act S M v0 v2 v1) fun r40 M => some ((), M)) else (if v2 = (17 : Int32) then (zzcall (F_Md_act S M v0 v2 v1) fun r42 M => some ((), M)) else (if v2 = (18 : Int32) then (zzref S 1 (zzR M v0 8) fun b44 => zzix S b44 v1 (zzlet (zzI M b44 (v1).toNatClampNeg) fun x45 => zzcall (F_Md_call S M v0 x45) fun r46 M => some ((), M))) else (zzcall (F_Md_act S M v0 v2 v1) fun r47 M => some ((), M)))))))))))))))))))))
set_option maxHeartbeats 4000000 in
set_option maxRecDepth 100000 in
theorem g_Md_walk_168 {p : Program} {l : Launch} {e : Env} {s : State} {m : MethodId} {args : Array Value} {below : List Frame} {meth : Method} {c : Code} {D : zzD} {bs : Nat} {A : Nat → Prop} {S : zzS} {hz : Nat} {out : Unit × zzM}  (C : zzC p s m args c prog_12_method_56_code "BoardScriptModel" 3 D) (hlocks : meth.locks = false) (hr : meth.sig.returnType = none) (hin : meth.name = "walk")    (M : zzM) (v0 : Nat) (v1 : Int32) (v2 : Int32) (hn_v0 : v0 < S.2.1) (hk_v0 : zzk S v0 = 19) (hF : F_Md_walk_168 S   M v0 v1 v2 = some out) : zzB p l e { frames := 4, cells := 0, slots := 0, locals := 97 } s m args below meth c 3 D bs A (MQ below (zzQc D bs A S out.2 hz none) args s 0 0 A) 0 0 S M hz 168 [(0, .ref (bs + v0)), (1, .int v1), (2, .int v2)] [] := by
  unfold F_Md_walk_168 at hF
  refine zi_aload_n C d_Md_walk_168 rfl 0 rfl ?_
  refine zi_aload_n C d_Md_walk_169 rfl 0 rfl ?_
  refine zi_getR C zc_9 (k := 7) (by decide) zw_87 rfl hn_v0 hk_v0 d_Md_walk_170 (fun _ _ _ => rfl) hF (fun b1 hn_b1 hk_b1 hF => ?_)
  refine zi_iload_n C d_Md_walk_173 rfl 1 rfl ?_
  refine zi_iald C hn_b1 hk_b1 d_Md_walk_174 hF (fun x2 hF => ?_)
  obtain ⟨r3, M, hqr3, hF⟩ := zzcall_e hF
  refine zi_callV_i (M2 := M) (r := r3) (n := 1) (As := [.int x2]) (st := []) C (c_Md_step hqr3 hn_v0 hk_v0) zw_221 zw_18 (by decide +kernel) ⟨Nat.le_of_ble_eq_true rfl, Nat.le_of_ble_eq_true rfl⟩ rfl (Nat.le_of_ble_eq_true rfl) ⟨Nat.le_of_ble_eq_true rfl, Nat.le_of_ble_eq_true rfl⟩ zw_222 zw_223 zw_224 zc_9.1 hn_v0 hk_v0 rfl d_Md_walk_175 ?_
  refine zi_if_ne (tgt := 182) C d_Md_walk_178 (by decide) hF (fun hF => ?_) (fun hF => ?_)
  · refine zi_iload_n C d_Md_walk_182 rfl 2 rfl ?_
    by_cases hs4 : v2 = (1 : Int32)
    · rw [if_pos hs4] at hF
      refine zi_tableIn C d_Md_walk_183 85 268 (by rw [hs4]; decide) (by rw [hs4]; decide) (by rw [hs4]; decide +kernel) (by decide) ?_
      refine zi_aload_n C d_Md_walk_268 rfl 0 rfl ?_
      refine zi_iload_n C d_Md_walk_269 rfl 2 rfl ?_
      refine zi_iload_n C d_Md_walk_270 rfl 1 rfl ?_
      obtain ⟨r5, M, hqr5, hF⟩ := zzcall_e hF
      refine zi_callV_v (M2 := M) (n := 2) (As := [.int v2, .int v1]) (st := []) C (c_Md_store hqr5 hn_v0 hk_v0) zw_225 zw_18 (by decide +kernel) ⟨Nat.le_of_ble_eq_true rfl, Nat.le_of_ble_eq_true rfl⟩ rfl (Nat.le_of_ble_eq_true rfl) ⟨Nat.le_of_ble_eq_true rfl, Nat.le_of_ble_eq_true rfl⟩ zw_226 zw_227 zw_228 zc_9.1 hn_v0 hk_v0 rfl d_Md_walk_271 ?_
      exact zi_vret C hlocks hr d_Md_walk_274 rfl rfl (by cases hF; rfl) rfl
    · rw [if_neg hs4] at hF
      by_cases hs6 : v2 = (2 : Int32)
      · rw [if_pos hs6] at hF
        refine zi_tableIn C d_Md_walk_183 85 268 (by rw [hs6]; decide) (by rw [hs6]; decide) (by rw [hs6]; decide +kernel) (by decide) ?_
        refine zi_aload_n C d_Md_walk_268 rfl 0 rfl ?_
        refine zi_iload_n C d_Md_walk_269 rfl 2 rfl ?_
        refine zi_iload_n C d_Md_walk_270 rfl 1 rfl ?_
        obtain ⟨r7, M, hqr7, hF⟩ := zzcall_e hF
        refine zi_callV_v (M2 := M) (n := 2) (As := [.int v2, .int v1]) (st := []) C (c_Md_store hqr7 hn_v0 hk_v0) zw_225 zw_18 (by decide +kernel) ⟨Nat.le_of_ble_eq_true rfl, Nat.le_of_ble_eq_true rfl⟩ rfl (Nat.le_of_ble_eq_true rfl) ⟨Nat.le_of_ble_eq_true rfl, Nat.le_of_ble_eq_true rfl⟩ zw_226 zw_227 zw_228 zc_9.1 hn_v0 hk_v0 rfl d_Md_walk_271 ?_
        exact zi_vret C hlocks hr d_Md_walk_274 rfl rfl (by cases hF; rfl) rfl
      · rw [if_neg hs6] at hF
        by_cases hs8 : v2 = (3 : Int32)
        · rw [if_pos hs8] at hF
          refine zi_tableIn C d_Md_walk_183 85 268 (by rw [hs8]; decide) (by rw [hs8]; decide) (by rw [hs8]; decide +kernel) (by decide) ?_
          refine zi_aload_n C d_Md_walk_268 rfl 0 rfl ?_
          refine zi_iload_n C d_Md_walk_269 rfl 2 rfl ?_
          refine zi_iload_n C d_Md_walk_270 rfl 1 rfl ?_
          obtain ⟨r9, M, hqr9, hF⟩ := zzcall_e hF
          refine zi_callV_v (M2 := M) (n := 2) (As := [.int v2, .int v1]) (st := []) C (c_Md_store hqr9 hn_v0 hk_v0) zw_225 zw_18 (by decide +kernel) ⟨Nat.le_of_ble_eq_true rfl, Nat.le_of_ble_eq_true rfl⟩ rfl (Nat.le_of_ble_eq_true rfl) ⟨Nat.le_of_ble_eq_true rfl, Nat.le_of_ble_eq_true rfl⟩ zw_226 zw_227 zw_228 zc_9.1 hn_v0 hk_v0 rfl d_Md_walk_271 ?_
          exact zi_vret C hlocks hr d_Md_walk_274 rfl rfl (by cases hF; rfl) rfl
        · rw [if_neg hs8] at hF
          by_cases hs10 : v2 = (4 : Int32)
          · rw [if_pos hs10] at hF
            refine zi_tableIn C d_Md_walk_183 137 320 (by rw [hs10]; decide) (by rw [hs10]; decide) (by rw [hs10]; decide +kernel) (by decide) ?_
            refine zi_aload_n C d_Md_walk_320 rfl 0 rfl ?_
            refine zi_iload_n C d_Md_walk_321 rfl 2 rfl ?_
            refine zi_iload_n C d_Md_walk_322 rfl 1 rfl ?_
            obtain ⟨r11, M, hqr11, hF⟩ := zzcall_e hF
            refine zi_callV_v (M2 := M) (n := 2) (As := [.int v2, .int v1]) (st := []) C (c_Md_act hqr11 hn_v0 hk_v0) zw_229 zw_18 (by decide +kernel) ⟨Nat.le_of_ble_eq_true rfl, Nat.le_of_ble_eq_true rfl⟩ rfl (Nat.le_of_ble_eq_true rfl) ⟨Nat.le_of_ble_eq_true rfl, Nat.le_of_ble_eq_true rfl⟩ zw_230 zw_231 zw_232 zc_9.1 hn_v0 hk_v0 rfl d_Md_walk_323 ?_
            exact zi_vret C hlocks hr d_Md_walk_326 rfl rfl (by cases hF; rfl) rfl
          · rw [if_neg hs10] at hF
            by_cases hs12 : v2 = (5 : Int32)
            · rw [if_pos hs12] at hF
              refine zi_tableIn C d_Md_walk_183 137 320 (by rw [hs12]; decide) (by rw [hs12]; decide) (by rw [hs12]; decide +kernel) (by decide) ?_
              refine zi_aload_n C d_Md_walk_320 rfl 0 rfl ?_
              refine zi_iload_n C d_Md_walk_321 rfl 2 rfl ?_
              refine zi_iload_n C d_Md_walk_322 rfl 1 rfl ?_
              obtain ⟨r13, M, hqr13, hF⟩ := zzcall_e hF
              refine zi_callV_v (M2 := M) (n := 2) (As := [.int v2, .int v1]) (st := []) C (c_Md_act hqr13 hn_v0 hk_v0) zw_229 zw_18 (by decide +kernel) ⟨Nat.le_of_ble_eq_true rfl, Nat.le_of_ble_eq_true rfl⟩ rfl (Nat.le_of_ble_eq_true rfl) ⟨Nat.le_of_ble_eq_true rfl, Nat.le_of_ble_eq_true rfl⟩ zw_230 zw_231 zw_232 zc_9.1 hn_v0 hk_v0 rfl d_Md_walk_323 ?_
              exact zi_vret C hlocks hr d_Md_walk_326 rfl rfl (by cases hF; rfl) rfl
            · rw [if_neg hs12] at hF
              by_cases hs14 : v2 = (6 : Int32)
              · rw [if_pos hs14] at hF
                refine zi_tableIn C d_Md_walk_183 137 320 (by rw [hs14]; decide) (by rw [hs14]; decide) (by rw [hs14]; decide +kernel) (by decide) ?_
                refine zi_aload_n C d_Md_walk_320 rfl 0 rfl ?_
                refine zi_iload_n C d_Md_walk_321 rfl 2 rfl ?_
                refine zi_iload_n C d_Md_walk_322 rfl 1 rfl ?_
                obtain ⟨r15, M, hqr15, hF⟩ := zzcall_e hF
                refine zi_callV_v (M2 := M) (n := 2) (As := [.int v2, .int v1]) (st := []) C (c_Md_act hqr15 hn_v0 hk_v0) zw_229 zw_18 (by decide +kernel) ⟨Nat.le_of_ble_eq_true rfl, Nat.le_of_ble_eq_true rfl⟩ rfl (Nat.le_of_ble_eq_true rfl) ⟨Nat.le_of_ble_eq_true rfl, Nat.le_of_ble_eq_true rfl⟩ zw_230 zw_231 zw_232 zc_9.1 hn_v0 hk_v0 rfl d_Md_walk_323 ?_
                exact zi_vret C hlocks hr d_Md_walk_326 rfl rfl (by cases hF; rfl) rfl
              · rw [if_neg hs14] at hF
                by_cases hs16 : v2 = (7 : Int32)
                · rw [if_pos hs16] at hF
                  refine zi_tableIn C d_Md_walk_183 92 275 (by rw [hs16]; decide) (by rw [hs16]; decide) (by rw [hs16]; decide +kernel) (by decide) ?_
                  refine zi_aload_n C d_Md_walk_275 rfl 0 rfl ?_
                  refine zi_bipush (v := 7) C d_Md_walk_276 (by decide) ?_
                  refine zi_aload_n C d_Md_walk_278 rfl 0 rfl ?_
                  refine zi_getI C zc_9 (k := 45) (by decide) zw_6 rfl hn_v0 hk_v0 d_Md_walk_279 (fun _ _ _ => rfl) hF (fun x17 hF => ?_)
                  obtain ⟨r18, M, hqr18, hF⟩ := zzcall_e hF
                  refine zi_callV_v (M2 := M) (n := 2) (As := [.int (7 : Int32), .int x17]) (st := []) C (c_Md_handle hqr18 hn_v0 hk_v0) zw_233 zw_18 (by decide +kernel) ⟨Nat.le_of_ble_eq_true rfl, Nat.le_of_ble_eq_true rfl⟩ rfl (Nat.le_of_ble_eq_true rfl) ⟨Nat.le_of_ble_eq_true rfl, Nat.le_of_ble_eq_true rfl⟩ zw_234 zw_235 zw_236 zc_9.1 hn_v0 hk_v0 rfl d_Md_walk_282 ?_
                  refine zi_aload_n C d_Md_walk_285 rfl 0 rfl ?_
                  refine zi_dup C d_Md_walk_286 rfl ?_
                  refine zi_getI C zc_9 (k := 45) (by decide) zw_6 rfl hn_v0 hk_v0 d_Md_walk_287 (fun _ _ _ => rfl) hF (fun x19 hF => ?_)
                  refine zi_iconst (v := 1) C d_Md_walk_290 (by decide) ?_
                  refine zi_iadd C d_Md_walk_291 hF (fun x20 hF => ?_)
                  refine zi_putI C zc_9 (k := 45) (by decide) zw_6 rfl (Or.inl rfl) hn_v0 hk_v0 d_Md_walk_292 rfl hF (fun M hF => ?_)
                  exact zi_vret C hlocks hr d_Md_walk_295 rfl rfl (by cases hF; rfl) rfl
                · rw [if_neg hs16] at hF
                  by_cases hs21 : v2 = (8 : Int32)
                  · rw [if_pos hs21] at hF
                    refine zi_tableIn C d_Md_walk_183 137 320 (by rw [hs21]; decide) (by rw [hs21]; decide) (by rw [hs21]; decide +kernel) (by decide) ?_
                    refine zi_aload_n C d_Md_walk_320 rfl 0 rfl ?_
                    refine zi_iload_n C d_Md_walk_321 rfl 2 rfl ?_
                    refine zi_iload_n C d_Md_walk_322 rfl 1 rfl ?_
                    obtain ⟨r22, M, hqr22, hF⟩ := zzcall_e hF
                    refine zi_callV_v (M2 := M) (n := 2) (As := [.int v2, .int v1]) (st := []) C (c_Md_act hqr22 hn_v0 hk_v0) zw_229 zw_18 (by decide +kernel) ⟨Nat.le_of_ble_eq_true rfl, Nat.le_of_ble_eq_true rfl⟩ rfl (Nat.le_of_ble_eq_true rfl) ⟨Nat.le_of_ble_eq_true rfl, Nat.le_of_ble_eq_true rfl⟩ zw_230 zw_231 zw_232 zc_9.1 hn_v0 hk_v0 rfl d_Md_walk_323 ?_
                    exact zi_vret C hlocks hr d_Md_walk_326 rfl rfl (by cases hF; rfl) rfl
                  · rw [if_neg hs21] at hF
                    by_cases hs23 : v2 = (9 : Int32)
                    · rw [if_pos hs23] at hF
                      refine zi_tableIn C d_Md_walk_183 113 296 (by rw [hs23]; decide) (by rw [hs23]; decide) (by rw [hs23]; decide +kernel) (by decide) ?_
                      refine zi_aload_n C d_Md_walk_296 rfl 0 rfl ?_
                      refine zi_bipush (v := 9) C d_Md_walk_297 (by decide) ?_
                      refine zi_aload_n C d_Md_walk_299 rfl 0 rfl ?_
                      refine zi_getR C zc_9 (k := 11) (by decide) zw_91 rfl hn_v0 hk_v0 d_Md_walk_300 (fun _ _ _ => rfl) hF (fun b24 hn_b24 hk_b24 hF => ?_)
                      refine zi_iload_n C d_Md_walk_303 rfl 1 rfl ?_
                      refine zi_iald C hn_b24 hk_b24 d_Md_walk_304 hF (fun x25 hF => ?_)
                      obtain ⟨r26, M, hqr26, hF⟩ := zzcall_e hF
                      refine zi_callV_v (M2 := M) (n := 2) (As := [.int (9 : Int32), .int x25]) (st := []) C (c_Md_handle hqr26 hn_v0 hk_v0) zw_233 zw_18 (by decide +kernel) ⟨Nat.le_of_ble_eq_true rfl, Nat.le_of_ble_eq_true rfl⟩ rfl (Nat.le_of_ble_eq_true rfl) ⟨Nat.le_of_ble_eq_true rfl, Nat.le_of_ble_eq_true rfl⟩ zw_234 zw_235 zw_236 zc_9.1 hn_v0 hk_v0 rfl d_Md_walk_305 ?_
                      exact zi_vret C hlocks hr d_Md_walk_308 rfl rfl (by cases hF; rfl) rfl
                    · rw [if_neg hs23] at hF
                      by_cases hs27 : v2 = (10 : Int32)
                      · rw [if_pos hs27] at hF
                        refine zi_tableIn C d_Md_walk_183 137 320 (by rw [hs27]; decide) (by rw [hs27]; decide) (by rw [hs27]; decide +kernel) (by decide) ?_
                        refine zi_aload_n C d_Md_walk_320 rfl 0 rfl ?_
                        refine zi_iload_n C d_Md_walk_321 rfl 2 rfl ?_
                        refine zi_iload_n C d_Md_walk_322 rfl 1 rfl ?_
                        obtain ⟨r28, M, hqr28, hF⟩ := zzcall_e hF
                        refine zi_callV_v (M2 := M) (n := 2) (As := [.int v2, .int v1]) (st := []) C (c_Md_act hqr28 hn_v0 hk_v0) zw_229 zw_18 (by decide +kernel) ⟨Nat.le_of_ble_eq_true rfl, Nat.le_of_ble_eq_true rfl⟩ rfl (Nat.le_of_ble_eq_true rfl) ⟨Nat.le_of_ble_eq_true rfl, Nat.le_of_ble_eq_true rfl⟩ zw_230 zw_231 zw_232 zc_9.1 hn_v0 hk_v0 rfl d_Md_walk_323 ?_
                        exact zi_vret C hlocks hr d_Md_walk_326 rfl rfl (by cases hF; rfl) rfl
                      · rw [if_neg hs27] at hF
                        by_cases hs29 : v2 = (11 : Int32)
                        · rw [if_pos hs29] at hF
                          refine zi_tableIn C d_Md_walk_183 137 320 (by rw [hs29]; decide) (by rw [hs29]; decide) (by rw [hs29]; decide +kernel) (by decide) ?_
                          refine zi_aload_n C d_Md_walk_320 rfl 0 rfl ?_
                          refine zi_iload_n C d_Md_walk_321 rfl 2 rfl ?_
                          refine zi_iload_n C d_Md_walk_322 rfl 1 rfl ?_
                          obtain ⟨r30, M, hqr30, hF⟩ := zzcall_e hF
                          refine zi_callV_v (M2 := M) (n := 2) (As := [.int v2, .int v1]) (st := []) C (c_Md_act hqr30 hn_v0 hk_v0) zw_229 zw_18 (by decide +kernel) ⟨Nat.le_of_ble_eq_true rfl, Nat.le_of_ble_eq_true rfl⟩ rfl (Nat.le_of_ble_eq_true rfl) ⟨Nat.le_of_ble_eq_true rfl, Nat.le_of_ble_eq_true rfl⟩ zw_230 zw_231 zw_232 zc_9.1 hn_v0 hk_v0 rfl d_Md_walk_323 ?_
                          exact zi_vret C hlocks hr d_Md_walk_326 rfl rfl (by cases hF; rfl) rfl
                        · rw [if_neg hs29] at hF
                          by_cases hs31 : v2 = (12 : Int32)
                          · rw [if_pos hs31] at hF
                            refine zi_tableIn C d_Md_walk_183 137 320 (by rw [hs31]; decide) (by rw [hs31]; decide) (by rw [hs31]; decide +kernel) (by decide) ?_
                            refine zi_aload_n C d_Md_walk_320 rfl 0 rfl ?_
                            refine zi_iload_n C d_Md_walk_321 rfl 2 rfl ?_
                            refine zi_iload_n C d_Md_walk_322 rfl 1 rfl ?_
                            obtain ⟨r32, M, hqr32, hF⟩ := zzcall_e hF
                            refine zi_callV_v (M2 := M) (n := 2) (As := [.int v2, .int v1]) (st := []) C (c_Md_act hqr32 hn_v0 hk_v0) zw_229 zw_18 (by decide +kernel) ⟨Nat.le_of_ble_eq_true rfl, Nat.le_of_ble_eq_true rfl⟩ rfl (Nat.le_of_ble_eq_true rfl) ⟨Nat.le_of_ble_eq_true rfl, Nat.le_of_ble_eq_true rfl⟩ zw_230 zw_231 zw_232 zc_9.1 hn_v0 hk_v0 rfl d_Md_walk_323 ?_
                            exact zi_vret C hlocks hr d_Md_walk_326 rfl rfl (by cases hF; rfl) rfl
                          · rw [if_neg hs31] at hF
                            by_cases hs33 : v2 = (13 : Int32)
                            · rw [if_pos hs33] at hF
                              refine zi_tableIn C d_Md_walk_183 137 320 (by rw [hs33]; decide) (by rw [hs33]; decide) (by rw [hs33]; decide +kernel) (by decide) ?_
                              refine zi_aload_n C d_Md_walk_320 rfl 0 rfl ?_
                              refine zi_iload_n C d_Md_walk_321 rfl 2 rfl ?_
                              refine zi_iload_n C d_Md_walk_322 rfl 1 rfl ?_
                              obtain ⟨r34, M, hqr34, hF⟩ := zzcall_e hF
                              refine zi_callV_v (M2 := M) (n := 2) (As := [.int v2, .int v1]) (st := []) C (c_Md_act hqr34 hn_v0 hk_v0) zw_229 zw_18 (by decide +kernel) ⟨Nat.le_of_ble_eq_true rfl, Nat.le_of_ble_eq_true rfl⟩ rfl (Nat.le_of_ble_eq_true rfl) ⟨Nat.le_of_ble_eq_true rfl, Nat.le_of_ble_eq_true rfl⟩ zw_230 zw_231 zw_232 zc_9.1 hn_v0 hk_v0 rfl d_Md_walk_323 ?_
                              exact zi_vret C hlocks hr d_Md_walk_326 rfl rfl (by cases hF; rfl) rfl
                            · rw [if_neg hs33] at hF
                              by_cases hs35 : v2 = (14 : Int32)
                              · rw [if_pos hs35] at hF
                                refine zi_tableIn C d_Md_walk_183 137 320 (by rw [hs35]; decide) (by rw [hs35]; decide) (by rw [hs35]; decide +kernel) (by decide) ?_
                                refine zi_aload_n C d_Md_walk_320 rfl 0 rfl ?_
                                refine zi_iload_n C d_Md_walk_321 rfl 2 rfl ?_
                                refine zi_iload_n C d_Md_walk_322 rfl 1 rfl ?_
                                obtain ⟨r36, M, hqr36, hF⟩ := zzcall_e hF
                                refine zi_callV_v (M2 := M) (n := 2) (As := [.int v2, .int v1]) (st := []) C (c_Md_act hqr36 hn_v0 hk_v0) zw_229 zw_18 (by decide +kernel) ⟨Nat.le_of_ble_eq_true rfl, Nat.le_of_ble_eq_true rfl⟩ rfl (Nat.le_of_ble_eq_true rfl) ⟨Nat.le_of_ble_eq_true rfl, Nat.le_of_ble_eq_true rfl⟩ zw_230 zw_231 zw_232 zc_9.1 hn_v0 hk_v0 rfl d_Md_walk_323 ?_
                                exact zi_vret C hlocks hr d_Md_walk_326 rfl rfl (by cases hF; rfl) rfl
                              · rw [if_neg hs35] at hF
                                by_cases hs37 : v2 = (15 : Int32)
                                · rw [if_pos hs37] at hF
                                  refine zi_tableIn C d_Md_walk_183 137 320 (by rw [hs37]; decide) (by rw [hs37]; decide) (by rw [hs37]; decide +kernel) (by decide) ?_
                                  refine zi_aload_n C d_Md_walk_320 rfl 0 rfl ?_
                                  refine zi_iload_n C d_Md_walk_321 rfl 2 rfl ?_
                                  refine zi_iload_n C d_Md_walk_322 rfl 1 rfl ?_
                                  obtain ⟨r38, M, hqr38, hF⟩ := zzcall_e hF
                                  refine zi_callV_v (M2 := M) (n := 2) (As := [.int v2, .int v1]) (st := []) C (c_Md_act hqr38 hn_v0 hk_v0) zw_229 zw_18 (by decide +kernel) ⟨Nat.le_of_ble_eq_true rfl, Nat.le_of_ble_eq_true rfl⟩ rfl (Nat.le_of_ble_eq_true rfl) ⟨Nat.le_of_ble_eq_true rfl, Nat.le_of_ble_eq_true rfl⟩ zw_230 zw_231 zw_232 zc_9.1 hn_v0 hk_v0 rfl d_Md_walk_323 ?_
                                  exact zi_vret C hlocks hr d_Md_walk_326 rfl rfl (by cases hF; rfl) rfl
                                · rw [if_neg hs37] at hF
                                  by_cases hs39 : v2 = (16 : Int32)
                                  · rw [if_pos hs39] at hF
                                    refine zi_tableIn C d_Md_walk_183 137 320 (by rw [hs39]; decide) (by rw [hs39]; decide) (by rw [hs39]; decide +kernel) (by decide) ?_
                                    refine zi_aload_n C d_Md_walk_320 rfl 0 rfl ?_
                                    refine zi_iload_n C d_Md_walk_321 rfl 2 rfl ?_
                                    refine zi_iload_n C d_Md_walk_322 rfl 1 rfl ?_
                                    obtain ⟨r40, M, hqr40, hF⟩ := zzcall_e hF
                                    refine zi_callV_v (M2 := M) (n := 2) (As := [.int v2, .int v1]) (st := []) C (c_Md_act hqr40 hn_v0 hk_v0) zw_229 zw_18 (by decide +kernel) ⟨Nat.le_of_ble_eq_true rfl, Nat.le_of_ble_eq_true rfl⟩ rfl (Nat.le_of_ble_eq_true rfl) ⟨Nat.le_of_ble_eq_true rfl, Nat.le_of_ble_eq_true rfl⟩ zw_230 zw_231 zw_232 zc_9.1 hn_v0 hk_v0 rfl d_Md_walk_323 ?_
                                    exact zi_vret C hlocks hr d_Md_walk_326 rfl rfl (by cases hF; rfl) rfl
                                  · rw [if_neg hs39] at hF
                                    by_cases hs41 : v2 = (17 : Int32)
                                    · rw [if_pos hs41] at hF
                                      refine zi_tableIn C d_Md_walk_183 137 320 (by rw [hs41]; decide) (by rw [hs41]; decide) (by rw [hs41]; decide +kernel) (by decide) ?_
                                      refine zi_aload_n C d_Md_walk_320 rfl 0 rfl ?_
                                      refine zi_iload_n C d_Md_walk_321 rfl 2 rfl ?_
                                      refine zi_iload_n C d_Md_walk_322 rfl 1 rfl ?_
                                      obtain ⟨r42, M, hqr42, hF⟩ := zzcall_e hF
                                      refine zi_callV_v (M2 := M) (n := 2) (As := [.int v2, .int v1]) (st := []) C (c_Md_act hqr42 hn_v0 hk_v0) zw_229 zw_18 (by decide +kernel) ⟨Nat.le_of_ble_eq_true rfl, Nat.le_of_ble_eq_true rfl⟩ rfl (Nat.le_of_ble_eq_true rfl) ⟨Nat.le_of_ble_eq_true rfl, Nat.le_of_ble_eq_true rfl⟩ zw_230 zw_231 zw_232 zc_9.1 hn_v0 hk_v0 rfl d_Md_walk_323 ?_
                                      exact zi_vret C hlocks hr d_Md_walk_326 rfl rfl (by cases hF; rfl) rfl
                                    · rw [if_neg hs41] at hF
                                      by_cases hs43 : v2 = (18 : Int32)
                                      · rw [if_pos hs43] at hF
                                        refine zi_tableIn C d_Md_walk_183 126 309 (by rw [hs43]; decide) (by rw [hs43]; decide) (by rw [hs43]; decide +kernel) (by decide) ?_
                                        refine zi_aload_n C d_Md_walk_309 rfl 0 rfl ?_
                                        refine zi_aload_n C d_Md_walk_310 rfl 0 rfl ?_
                                        refine zi_getR C zc_9 (k := 8) (by decide) zw_88 rfl hn_v0 hk_v0 d_Md_walk_311 (fun _ _ _ => rfl) hF (fun b44 hn_b44 hk_b44 hF => ?_)
                                        refine zi_iload_n C d_Md_walk_314 rfl 1 rfl ?_
                                        refine zi_iald C hn_b44 hk_b44 d_Md_walk_315 hF (fun x45 hF => ?_)
                                        obtain ⟨r46, M, hqr46, hF⟩ := zzcall_e hF
                                        refine zi_callV_v (M2 := M) (n := 1) (As := [.int x45]) (st := []) C (c_Md_call hqr46 hn_v0 hk_v0) zw_237 zw_18 (by decide +kernel) ⟨Nat.le_of_ble_eq_true rfl, Nat.le_of_ble_eq_true rfl⟩ rfl (Nat.le_of_ble_eq_true rfl) ⟨Nat.le_of_ble_eq_true rfl, Nat.le_of_ble_eq_true rfl⟩ zw_238 zw_239 zw_240 zc_9.1 hn_v0 hk_v0 rfl d_Md_walk_316 ?_
                                        exact zi_vret C hlocks hr d_Md_walk_319 rfl rfl (by cases hF; rfl) rfl
                                      · rw [if_neg hs43] at hF
                                        refine zi_tableOut C d_Md_walk_183 320 (by have q0 : (v2).toInt ≠ 1 := zz_ne hs4 (by decide); have q1 : (v2).toInt ≠ 2 := zz_ne hs6 (by decide); have q2 : (v2).toInt ≠ 3 := zz_ne hs8 (by decide); have q3 : (v2).toInt ≠ 4 := zz_ne hs10 (by decide); have q4 : (v2).toInt ≠ 5 := zz_ne hs12 (by decide); have q5 : (v2).toInt ≠ 6 := zz_ne hs14 (by decide); have q6 : (v2).toInt ≠ 7 := zz_ne hs16 (by decide); have q7 : (v2).toInt ≠ 8 := zz_ne hs21 (by decide); have q8 : (v2).toInt ≠ 9 := zz_ne hs23 (by decide); have q9 : (v2).toInt ≠ 10 := zz_ne hs27 (by decide); have q10 : (v2).toInt ≠ 11 := zz_ne hs29 (by decide); have q11 : (v2).toInt ≠ 12 := zz_ne hs31 (by decide); have q12 : (v2).toInt ≠ 13 := zz_ne hs33 (by decide); have q13 : (v2).toInt ≠ 14 := zz_ne hs35 (by decide); have q14 : (v2).toInt ≠ 15 := zz_ne hs37 (by decide); have q15 : (v2).toInt ≠ 16 := zz_ne hs39 (by decide); have q16 : (v2).toInt ≠ 17 := zz_ne hs41 (by decide); have q17 : (v2).toInt ≠ 18 := zz_ne hs43 (by decide); omega) (by decide) ?_
                                        refine zi_aload_n C d_Md_walk_320 rfl 0 rfl ?_
                                        refine zi_iload_n C d_Md_walk_321 rfl 2 rfl ?_
                                        refine zi_iload_n C d_Md_walk_322 rfl 1 rfl ?_
                                        obtain ⟨r47, M, hqr47, hF⟩ := zzcall_e hF
                                        refine zi_callV_v (M2 := M) (n := 2) (As := [.int v2, .int v1]) (st := []) C (c_Md_act hqr47 hn_v0 hk_v0) zw_229 zw_18 (by decide +kernel) ⟨Nat.le_of_ble_eq_true rfl, Nat.le_of_ble_eq_true rfl⟩ rfl (Nat.le_of_ble_eq_true rfl) ⟨Nat.le_of_ble_eq_true rfl, Nat.le_of_ble_eq_true rfl⟩ zw_230 zw_231 zw_232 zc_9.1 hn_v0 hk_v0 rfl d_Md_walk_323 ?_
                                        exact zi_vret C hlocks hr d_Md_walk_326 rfl rfl (by cases hF; rfl) rfl
  · exact zi_vret C hlocks hr d_Md_walk_181 rfl rfl (by cases hF; rfl) rfl
def F_Md_walk (S : zzS)  (M : zzM) (v0 : Nat) : Option (Unit × zzM) := zzlet (zzI M v0 3) fun x1 => zzlet ((600 : Int32) * x1) fun x2 => zzlet (zzI M v0 52) fun x3 => zzlet (x2 + x3) fun x4 => zzref S 1 (zzR M v0 6) fun b5 => zzix S b5 x4 (zzlet (zzI M b5 (x4).toNatClampNeg) fun x6 => zzlet (zzI M v0 52) fun x7 => zzlet (x7 + (1 : Int32)) fun x8 => zzlet (zzsI M v0 52 x8) fun M => if x6 = (8 : Int32) then (zzref S 1 (zzR M v0 7) fun b10 => zzix S b10 x4 (zzlet (zzI M b10 (x4).toNatClampNeg) fun x11 => zzcall (F_Md_endAct S M v0 x11) fun r12 M => some ((), M))) else (if x6 = (9 : Int32) then (F_Md_walk_168 S   M v0 x4 x6) else (if x6 = (10 : Int32) then (zzref S 1 (zzR M v0 7) fun b15 => zzix S b15 x4 (zzlet (zzI M b15 (x4).toNatClampNeg) fun x16 => zzcall (F_Md_beginClosing S M v0 x16) fun r17 M => some ((), M))) else (if x6 = (11 : Int32) then (zzcall (F_Md_closeEnd S M v0) fun r19 M => some ((), M)) else (if x6 = (12 : Int32) then (F_Md_walk_168 S   M v0 x4 x6) else (if x6 = (13 : Int32) then (F_Md_walk_168 S   M v0 x4 x6) else (if x6 = (14 : Int32) then (F_Md_walk_168 S   M v0 x4 x6) else (if x6 = (15 : Int32) then (F_Md_walk_168 S   M v0 x4 x6) else (if x6 = (16 : Int32) then (F_Md_walk_168 S   M v0 x4 x6) else (if x6 = (17 : Int32) then (zzref S 1 (zzR M v0 11) fun b26 => zzix S b26 x4 (zzlet (zzI M b26 (x4).toNatClampNeg) fun x27 => zzlet (zzsI M v0 52 x27) fun M => some ((), M))) else (if x6 = (18 : Int32) then (F_Md_walk_168 S   M v0 x4 x6) else (if x6 = (19 : Int32) then (zzlet (zzI M v0 53) fun x30 => zzlet (x30 - (1 : Int32)) fun x31 => zzlet (zzsI M v0 53 x31) fun M => zzref S 1 (zzR M v0 54) fun b32 => zzlet (zzI M v0 53) fun x33 => zzix S b32 x33 (zzlet (zzI M b32 (x33).toNatClampNeg) fun x34 => zzlet (zzsI M v0 52 x34) fun M => some ((), M))) else (if x6 = (20 : Int32) then (zzck (zzokZ (1 : Int32)) (zzlet (zzsI M v0 49 (1 : Int32)) fun M => some ((), M))) else (F_Md_walk_168 S   M v0 x4 x6))))))))))))))
set_option maxHeartbeats 4000000 in
set_option maxRecDepth 100000 in
theorem c_Md_walk {l : Launch} {D : zzD} {bs : Nat} {A : Nat → Prop} {S : zzS} {M : zzM} {hz : Nat} {out : Unit × zzM} {v0 : Nat}   (hF : F_Md_walk S  M v0 = some out) (hn_v0 : v0 < S.2.1) (hk_v0 : zzk S v0 = 19) : Met l y_Md_walk (Cond.code y_Md_walk prog_12_method_56_code 3 none :: zzW) { frames := 4, cells := 0, slots := 0, locals := 97 } (zzPc D bs A S M hz [.ref (bs + v0)]) (zzQc D bs A S out.2 hz none) 0 0 A := by
  refine zz_met [.ref (bs + v0)] (by decide) (Nat.le_of_ble_eq_true rfl) (fun p e s m args below meth c C hr hlocks hin hsz => ?_)
  refine zz_eq (lv' := [(0, .ref (bs + v0))]) (st' := []) rfl rfl ?_
  unfold F_Md_walk at hF
  refine zi_sipush (v := 600) C d_Md_walk_0 (by decide) ?_
  refine zi_aload_n C d_Md_walk_3 rfl 0 rfl ?_
  refine zi_getI C zc_9 (k := 3) (by decide) zw_16 rfl hn_v0 hk_v0 d_Md_walk_4 (fun _ _ _ => rfl) hF (fun x1 hF => ?_)
  refine zi_imul C d_Md_walk_7 hF (fun x2 hF => ?_)
  refine zi_aload_n C d_Md_walk_8 rfl 0 rfl ?_
  refine zi_getI C zc_9 (k := 52) (by decide) zw_189 rfl hn_v0 hk_v0 d_Md_walk_9 (fun _ _ _ => rfl) hF (fun x3 hF => ?_)
  refine zi_iadd C d_Md_walk_12 hF (fun x4 hF => ?_)
  refine zi_istore_n (lv' := [(1, .int x4), (0, .ref (bs + v0))]) C d_Md_walk_13 rfl (by decide) rfl ?_
  refine zi_aload_n C d_Md_walk_14 rfl 1 rfl ?_
  refine zi_getR C zc_9 (k := 6) (by decide) zw_15 rfl hn_v0 hk_v0 d_Md_walk_15 (fun _ _ _ => rfl) hF (fun b5 hn_b5 hk_b5 hF => ?_)
  refine zi_iload_n C d_Md_walk_18 rfl 0 rfl ?_
  refine zi_iald C hn_b5 hk_b5 d_Md_walk_19 hF (fun x6 hF => ?_)
  refine zi_istore_n (lv' := [(2, .int x6), (1, .int x4), (0, .ref (bs + v0))]) C d_Md_walk_20 rfl (by decide) rfl ?_
  refine zi_aload_n C d_Md_walk_21 rfl 2 rfl ?_
  refine zi_dup C d_Md_walk_22 rfl ?_
  refine zi_getI C zc_9 (k := 52) (by decide) zw_189 rfl hn_v0 hk_v0 d_Md_walk_23 (fun _ _ _ => rfl) hF (fun x7 hF => ?_)
  refine zi_iconst (v := 1) C d_Md_walk_26 (by decide) ?_
  refine zi_iadd C d_Md_walk_27 hF (fun x8 hF => ?_)
  refine zi_putI C zc_9 (k := 52) (by decide) zw_189 rfl (Or.inl rfl) hn_v0 hk_v0 d_Md_walk_28 rfl hF (fun M hF => ?_)
  refine zi_iload_n C d_Md_walk_31 rfl 0 rfl ?_
  by_cases hs9 : x6 = (8 : Int32)
  · rw [if_pos hs9] at hF
    refine zi_tableIn C d_Md_walk_32 109 141 (by rw [hs9]; decide) (by rw [hs9]; decide) (by rw [hs9]; decide +kernel) (by decide) ?_
    refine zi_aload_n C d_Md_walk_141 rfl 2 rfl ?_
    refine zi_aload_n C d_Md_walk_142 rfl 2 rfl ?_
    refine zi_getR C zc_9 (k := 7) (by decide) zw_87 rfl hn_v0 hk_v0 d_Md_walk_143 (fun _ _ _ => rfl) hF (fun b10 hn_b10 hk_b10 hF => ?_)
    refine zi_iload_n C d_Md_walk_146 rfl 1 rfl ?_
    refine zi_iald C hn_b10 hk_b10 d_Md_walk_147 hF (fun x11 hF => ?_)
    obtain ⟨r12, M, hqr12, hF⟩ := zzcall_e hF
    refine zi_callV_v (M2 := M) (n := 1) (As := [.int x11]) (st := []) C (c_Md_endAct hqr12 hn_v0 hk_v0) zw_209 zw_18 (by decide +kernel) ⟨Nat.le_of_ble_eq_true rfl, Nat.le_of_ble_eq_true rfl⟩ rfl (Nat.le_of_ble_eq_true rfl) ⟨Nat.le_of_ble_eq_true rfl, Nat.le_of_ble_eq_true rfl⟩ zw_210 zw_211 zw_212 zc_9.1 hn_v0 hk_v0 rfl d_Md_walk_148 ?_
    exact zi_vret C hlocks hr d_Md_walk_151 rfl rfl (by cases hF; rfl) rfl
  · rw [if_neg hs9] at hF
    by_cases hs13 : x6 = (9 : Int32)
    · rw [if_pos hs13] at hF
      refine zi_tableIn C d_Md_walk_32 136 168 (by rw [hs13]; decide) (by rw [hs13]; decide) (by rw [hs13]; decide +kernel) (by decide) ?_
      refine zz_sub [2, 1, 0] (lv' := [(0, .ref (bs + v0)), (1, .int x4), (2, .int x6)]) rfl ?_
      exact g_Md_walk_168 C hlocks hr hin   _ v0 x4 x6 hn_v0 hk_v0 hF
    · rw [if_neg hs13] at hF
      by_cases hs14 : x6 = (10 : Int32)
      · rw [if_pos hs14] at hF
        refine zi_tableIn C d_Md_walk_32 120 152 (by rw [hs14]; decide) (by rw [hs14]; decide) (by rw [hs14]; decide +kernel) (by decide) ?_
        refine zi_aload_n C d_Md_walk_152 rfl 2 rfl ?_
        refine zi_aload_n C d_Md_walk_153 rfl 2 rfl ?_
        refine zi_getR C zc_9 (k := 7) (by decide) zw_87 rfl hn_v0 hk_v0 d_Md_walk_154 (fun _ _ _ => rfl) hF (fun b15 hn_b15 hk_b15 hF => ?_)
        refine zi_iload_n C d_Md_walk_157 rfl 1 rfl ?_
        refine zi_iald C hn_b15 hk_b15 d_Md_walk_158 hF (fun x16 hF => ?_)
        obtain ⟨r17, M, hqr17, hF⟩ := zzcall_e hF
        refine zi_callV_v (M2 := M) (n := 1) (As := [.int x16]) (st := []) C (c_Md_beginClosing hqr17 hn_v0 hk_v0) zw_213 zw_18 (by decide +kernel) ⟨Nat.le_of_ble_eq_true rfl, Nat.le_of_ble_eq_true rfl⟩ rfl (Nat.le_of_ble_eq_true rfl) ⟨Nat.le_of_ble_eq_true rfl, Nat.le_of_ble_eq_true rfl⟩ zw_214 zw_215 zw_216 zc_9.1 hn_v0 hk_v0 rfl d_Md_walk_159 ?_
        exact zi_vret C hlocks hr d_Md_walk_162 rfl rfl (by cases hF; rfl) rfl
      · rw [if_neg hs14] at hF
        by_cases hs18 : x6 = (11 : Int32)
        · rw [if_pos hs18] at hF
          refine zi_tableIn C d_Md_walk_32 131 163 (by rw [hs18]; decide) (by rw [hs18]; decide) (by rw [hs18]; decide +kernel) (by decide) ?_
          refine zi_aload_n C d_Md_walk_163 rfl 2 rfl ?_
          obtain ⟨r19, M, hqr19, hF⟩ := zzcall_e hF
          refine zi_callV_v (M2 := M) (n := 0) (As := []) (st := []) C (c_Md_closeEnd hqr19 hn_v0 hk_v0) zw_217 zw_18 (by decide +kernel) ⟨Nat.le_of_ble_eq_true rfl, Nat.le_of_ble_eq_true rfl⟩ rfl (Nat.le_of_ble_eq_true rfl) ⟨Nat.le_of_ble_eq_true rfl, Nat.le_of_ble_eq_true rfl⟩ zw_218 zw_219 zw_220 zc_9.1 hn_v0 hk_v0 rfl d_Md_walk_164 ?_
          exact zi_vret C hlocks hr d_Md_walk_167 rfl rfl (by cases hF; rfl) rfl
        · rw [if_neg hs18] at hF
          by_cases hs20 : x6 = (12 : Int32)
          · rw [if_pos hs20] at hF
            refine zi_tableIn C d_Md_walk_32 136 168 (by rw [hs20]; decide) (by rw [hs20]; decide) (by rw [hs20]; decide +kernel) (by decide) ?_
            refine zz_sub [2, 1, 0] (lv' := [(0, .ref (bs + v0)), (1, .int x4), (2, .int x6)]) rfl ?_
            exact g_Md_walk_168 C hlocks hr hin   _ v0 x4 x6 hn_v0 hk_v0 hF
          · rw [if_neg hs20] at hF
            by_cases hs21 : x6 = (13 : Int32)
            · rw [if_pos hs21] at hF
              refine zi_tableIn C d_Md_walk_32 136 168 (by rw [hs21]; decide) (by rw [hs21]; decide) (by rw [hs21]; decide +kernel) (by decide) ?_
              refine zz_sub [2, 1, 0] (lv' := [(0, .ref (bs + v0)), (1, .int x4), (2, .int x6)]) rfl ?_
              exact g_Md_walk_168 C hlocks hr hin   _ v0 x4 x6 hn_v0 hk_v0 hF
            · rw [if_neg hs21] at hF
              by_cases hs22 : x6 = (14 : Int32)
              · rw [if_pos hs22] at hF
                refine zi_tableIn C d_Md_walk_32 136 168 (by rw [hs22]; decide) (by rw [hs22]; decide) (by rw [hs22]; decide +kernel) (by decide) ?_
                refine zz_sub [2, 1, 0] (lv' := [(0, .ref (bs + v0)), (1, .int x4), (2, .int x6)]) rfl ?_
                exact g_Md_walk_168 C hlocks hr hin   _ v0 x4 x6 hn_v0 hk_v0 hF
              · rw [if_neg hs22] at hF
                by_cases hs23 : x6 = (15 : Int32)
                · rw [if_pos hs23] at hF
                  refine zi_tableIn C d_Md_walk_32 136 168 (by rw [hs23]; decide) (by rw [hs23]; decide) (by rw [hs23]; decide +kernel) (by decide) ?_
                  refine zz_sub [2, 1, 0] (lv' := [(0, .ref (bs + v0)), (1, .int x4), (2, .int x6)]) rfl ?_
                  exact g_Md_walk_168 C hlocks hr hin   _ v0 x4 x6 hn_v0 hk_v0 hF
                · rw [if_neg hs23] at hF
                  by_cases hs24 : x6 = (16 : Int32)
                  · rw [if_pos hs24] at hF
                    refine zi_tableIn C d_Md_walk_32 136 168 (by rw [hs24]; decide) (by rw [hs24]; decide) (by rw [hs24]; decide +kernel) (by decide) ?_
                    refine zz_sub [2, 1, 0] (lv' := [(0, .ref (bs + v0)), (1, .int x4), (2, .int x6)]) rfl ?_
                    exact g_Md_walk_168 C hlocks hr hin   _ v0 x4 x6 hn_v0 hk_v0 hF
                  · rw [if_neg hs24] at hF
                    by_cases hs25 : x6 = (17 : Int32)
                    · rw [if_pos hs25] at hF
                      refine zi_tableIn C d_Md_walk_32 74 106 (by rw [hs25]; decide) (by rw [hs25]; decide) (by rw [hs25]; decide +kernel) (by decide) ?_
                      refine zi_aload_n C d_Md_walk_106 rfl 2 rfl ?_
                      refine zi_aload_n C d_Md_walk_107 rfl 2 rfl ?_
                      refine zi_getR C zc_9 (k := 11) (by decide) zw_91 rfl hn_v0 hk_v0 d_Md_walk_108 (fun _ _ _ => rfl) hF (fun b26 hn_b26 hk_b26 hF => ?_)
                      refine zi_iload_n C d_Md_walk_111 rfl 1 rfl ?_
                      refine zi_iald C hn_b26 hk_b26 d_Md_walk_112 hF (fun x27 hF => ?_)
                      refine zi_putI C zc_9 (k := 52) (by decide) zw_189 rfl (Or.inl rfl) hn_v0 hk_v0 d_Md_walk_113 rfl hF (fun M hF => ?_)
                      exact zi_vret C hlocks hr d_Md_walk_116 rfl rfl (by cases hF; rfl) rfl
                    · rw [if_neg hs25] at hF
                      by_cases hs28 : x6 = (18 : Int32)
                      · rw [if_pos hs28] at hF
                        refine zi_tableIn C d_Md_walk_32 136 168 (by rw [hs28]; decide) (by rw [hs28]; decide) (by rw [hs28]; decide +kernel) (by decide) ?_
                        refine zz_sub [2, 1, 0] (lv' := [(0, .ref (bs + v0)), (1, .int x4), (2, .int x6)]) rfl ?_
                        exact g_Md_walk_168 C hlocks hr hin   _ v0 x4 x6 hn_v0 hk_v0 hF
                      · rw [if_neg hs28] at hF
                        by_cases hs29 : x6 = (19 : Int32)
                        · rw [if_pos hs29] at hF
                          refine zi_tableIn C d_Md_walk_32 85 117 (by rw [hs29]; decide) (by rw [hs29]; decide) (by rw [hs29]; decide +kernel) (by decide) ?_
                          refine zi_aload_n C d_Md_walk_117 rfl 2 rfl ?_
                          refine zi_dup C d_Md_walk_118 rfl ?_
                          refine zi_getI C zc_9 (k := 53) (by decide) zw_179 rfl hn_v0 hk_v0 d_Md_walk_119 (fun _ _ _ => rfl) hF (fun x30 hF => ?_)
                          refine zi_iconst (v := 1) C d_Md_walk_122 (by decide) ?_
                          refine zi_isub C d_Md_walk_123 hF (fun x31 hF => ?_)
                          refine zi_putI C zc_9 (k := 53) (by decide) zw_179 rfl (Or.inl rfl) hn_v0 hk_v0 d_Md_walk_124 rfl hF (fun M hF => ?_)
                          refine zi_aload_n C d_Md_walk_127 rfl 2 rfl ?_
                          refine zi_aload_n C d_Md_walk_128 rfl 2 rfl ?_
                          refine zi_getR C zc_9 (k := 54) (by decide) zw_207 rfl hn_v0 hk_v0 d_Md_walk_129 (fun _ _ _ => rfl) hF (fun b32 hn_b32 hk_b32 hF => ?_)
                          refine zi_aload_n C d_Md_walk_132 rfl 2 rfl ?_
                          refine zi_getI C zc_9 (k := 53) (by decide) zw_179 rfl hn_v0 hk_v0 d_Md_walk_133 (fun _ _ _ => rfl) hF (fun x33 hF => ?_)
                          refine zi_iald C hn_b32 hk_b32 d_Md_walk_136 hF (fun x34 hF => ?_)
                          refine zi_putI C zc_9 (k := 52) (by decide) zw_189 rfl (Or.inl rfl) hn_v0 hk_v0 d_Md_walk_137 rfl hF (fun M hF => ?_)
                          exact zi_vret C hlocks hr d_Md_walk_140 rfl rfl (by cases hF; rfl) rfl
                        · rw [if_neg hs29] at hF
                          by_cases hs35 : x6 = (20 : Int32)
                          · rw [if_pos hs35] at hF
                            refine zi_tableIn C d_Md_walk_32 68 100 (by rw [hs35]; decide) (by rw [hs35]; decide) (by rw [hs35]; decide +kernel) (by decide) ?_
                            refine zi_aload_n C d_Md_walk_100 rfl 2 rfl ?_
                            refine zi_iconst (v := 1) C d_Md_walk_101 (by decide) ?_
                            refine zi_putZ C zc_9 (k := 49) (by decide) zw_177 rfl (Or.inl rfl) hn_v0 hk_v0 d_Md_walk_102 rfl hF (fun M hF => ?_)
                            exact zi_vret C hlocks hr d_Md_walk_105 rfl rfl (by cases hF; rfl) rfl
                          · rw [if_neg hs35] at hF
                            refine zi_tableOut C d_Md_walk_32 168 (by have q0 : (x6).toInt ≠ 8 := zz_ne hs9 (by decide); have q1 : (x6).toInt ≠ 9 := zz_ne hs13 (by decide); have q2 : (x6).toInt ≠ 10 := zz_ne hs14 (by decide); have q3 : (x6).toInt ≠ 11 := zz_ne hs18 (by decide); have q4 : (x6).toInt ≠ 12 := zz_ne hs20 (by decide); have q5 : (x6).toInt ≠ 13 := zz_ne hs21 (by decide); have q6 : (x6).toInt ≠ 14 := zz_ne hs22 (by decide); have q7 : (x6).toInt ≠ 15 := zz_ne hs23 (by decide); have q8 : (x6).toInt ≠ 16 := zz_ne hs24 (by decide); have q9 : (x6).toInt ≠ 17 := zz_ne hs25 (by decide); have q10 : (x6).toInt ≠ 18 := zz_ne hs28 (by decide); have q11 : (x6).toInt ≠ 19 := zz_ne hs29 (by decide); have q12 : (x6).toInt ≠ 20 := zz_ne hs35 (by decide); omega) (by decide) ?_
                            refine zz_sub [2, 1, 0] (lv' := [(0, .ref (bs + v0)), (1, .int x4), (2, .int x6)]) rfl ?_
                            exact g_Md_walk_168 C hlocks hr hin   _ v0 x4 x6 hn_v0 hk_v0 hF
def F_Md_run_66_b (S : zzS)  (k66 : zzM → Nat → Option (Int32 × zzM)) (M : zzM) (v0 : Nat) : Option (Int32 × zzM) := zzlet (zzI M v0 49) fun x1 => if x1 = 0 then (zzcall (F_Md_walk S M v0) fun r3 M => k66 M v0) else (zzlet (zzI M v0 50) fun x2 => some (x2, M))
def F_Md_run_66 (S : zzS)   (n : Nat) : zzM → Nat → Option (Int32 × zzM) := Nat.rec (fun _ _ => none) (fun _ k => F_Md_run_66_b S   k) n
set_option maxHeartbeats 4000000 in
set_option maxRecDepth 100000 in
theorem g_Md_run_66_b {p : Program} {l : Launch} {e : Env} {s : State} {m : MethodId} {args : Array Value} {below : List Frame} {meth : Method} {c : Code} {D : zzD} {bs : Nat} {A : Nat → Prop} {S : zzS} {hz : Nat} {out : Int32 × zzM}  (C : zzC p s m args c prog_12_method_57_code "BoardScriptModel" 3 D) (hlocks : meth.locks = false) (hr : meth.sig.returnType = (some .int)) (hin : meth.name = "run")  {k66 : zzM → Nat → Option (Int32 × zzM)} (hk66 : ∀ (M : zzM) (v0 : Nat) (hn_v0 : v0 < S.2.1) (hk_v0 : zzk S v0 = 19), k66 M v0 = some out → zzB p l e { frames := 5, cells := 0, slots := 0, locals := 119 } s m args below meth c 3 D bs A (MQ below (zzQc D bs A S out.2 hz (some (.int out.1))) args s 0 0 A) 0 0 S M hz 66 [(0, .ref (bs + v0))] []) (M : zzM) (v0 : Nat) (hn_v0 : v0 < S.2.1) (hk_v0 : zzk S v0 = 19) (hF : F_Md_run_66_b S  k66 M v0 = some out) : zzB p l e { frames := 5, cells := 0, slots := 0, locals := 119 } s m args below meth c 3 D bs A (MQ below (zzQc D bs A S out.2 hz (some (.int out.1))) args s 0 0 A) 0 0 S M hz 66 [(0, .ref (bs + v0))] [] := by
  unfold F_Md_run_66_b at hF
  refine zi_aload_n C d_Md_run_66 rfl 0 rfl ?_
  refine zi_getI C zc_9 (k := 49) (by decide) zw_177 rfl hn_v0 hk_v0 d_Md_run_67 (fun _ _ _ => rfl) hF (fun x1 hF => ?_)
  refine zi_if_ne (tgt := 80) C d_Md_run_70 (by decide) hF (fun hF => ?_) (fun hF => ?_)
  · refine zi_aload_n C d_Md_run_80 rfl 0 rfl ?_
    refine zi_getI C zc_9 (k := 50) (by decide) zw_176 rfl hn_v0 hk_v0 d_Md_run_81 (fun _ _ _ => rfl) hF (fun x2 hF => ?_)
    exact zi_iret C hlocks hr d_Md_run_84 (by cases hF; rfl) rfl (by cases hF; rfl) rfl
  · refine zi_aload_n C d_Md_run_73 rfl 0 rfl ?_
    obtain ⟨r3, M, hqr3, hF⟩ := zzcall_e hF
    refine zi_callV_v (M2 := M) (n := 0) (As := []) (st := []) C (c_Md_walk hqr3 hn_v0 hk_v0) zw_242 zw_18 (by decide +kernel) ⟨Nat.le_of_ble_eq_true rfl, Nat.le_of_ble_eq_true rfl⟩ rfl (Nat.le_of_ble_eq_true rfl) ⟨Nat.le_of_ble_eq_true rfl, Nat.le_of_ble_eq_true rfl⟩ zw_243 zw_244 zw_245 zc_9.1 hn_v0 hk_v0 rfl d_Md_run_74 ?_
    refine zi_goto (tgt := 66) C d_Md_run_77 (by decide) ?_
    refine zz_sub [0] (lv' := [(0, .ref (bs + v0))]) rfl ?_
    exact hk66 _ v0 hn_v0 hk_v0 hF
set_option maxHeartbeats 4000000 in
set_option maxRecDepth 100000 in
theorem g_Md_run_66 {p : Program} {l : Launch} {e : Env} {s : State} {m : MethodId} {args : Array Value} {below : List Frame} {meth : Method} {c : Code} {D : zzD} {bs : Nat} {A : Nat → Prop} {S : zzS} {hz : Nat} {out : Int32 × zzM}  (C : zzC p s m args c prog_12_method_57_code "BoardScriptModel" 3 D) (hlocks : meth.locks = false) (hr : meth.sig.returnType = (some .int)) (hin : meth.name = "run")    : ∀ (n : Nat) (M : zzM) (v0 : Nat) (hn_v0 : v0 < S.2.1) (hk_v0 : zzk S v0 = 19) (hF : F_Md_run_66 S   n M v0 = some out), zzB p l e { frames := 5, cells := 0, slots := 0, locals := 119 } s m args below meth c 3 D bs A (MQ below (zzQc D bs A S out.2 hz (some (.int out.1))) args s 0 0 A) 0 0 S M hz 66 [(0, .ref (bs + v0))] [] := by
  intro n
  induction n with
  | zero => intro M v0 hn_v0 hk_v0 hF; cases hF
  | succ n ih => intro M v0 hn_v0 hk_v0 hF; exact g_Md_run_66_b C hlocks hr hin   ih M v0 hn_v0 hk_v0 hF
def F_Md_run_20 (S : zzS)   (M : zzM) (v0 : Nat) (v1 : Int64) (w0 : Int32) (w1 : Nat) : Option (Int32 × zzM) := zzlet (zzsI M w1 0 w0) fun M => zzlet (zzI M v0 0) fun x1 => if x1 = 0 then (zzcall (F_Md_forget S M v0) fun r2 M => zzlet (zzsL M v0 34 v1) fun M => zzck (zzokZ (0 : Int32)) (zzlet (zzsI M v0 49 (0 : Int32)) fun M => zzlet (zzsI M v0 50 (0 : Int32)) fun M => zzlet (zzsI M v0 52 (0 : Int32)) fun M => zzlet (zzsI M v0 53 (0 : Int32)) fun M => zzlet (zzsI M v0 55 (0 : Int32)) fun M => F_Md_run_66 S   2000 M v0)) else (some ((0 : Int32), M))
set_option maxHeartbeats 4000000 in
set_option maxRecDepth 100000 in
theorem g_Md_run_20 {p : Program} {l : Launch} {e : Env} {s : State} {m : MethodId} {args : Array Value} {below : List Frame} {meth : Method} {c : Code} {D : zzD} {bs : Nat} {A : Nat → Prop} {S : zzS} {hz : Nat} {out : Int32 × zzM}  (C : zzC p s m args c prog_12_method_57_code "BoardScriptModel" 3 D) (hlocks : meth.locks = false) (hr : meth.sig.returnType = (some .int)) (hin : meth.name = "run")    (M : zzM) (v0 : Nat) (v1 : Int64) (w0 : Int32) (w1 : Nat) (hn_v0 : v0 < S.2.1) (hk_v0 : zzk S v0 = 19) (hn_w1 : w1 < S.2.1) (hk_w1 : zzk S w1 = 19) (hF : F_Md_run_20 S   M v0 v1 w0 w1 = some out) : zzB p l e { frames := 5, cells := 0, slots := 0, locals := 119 } s m args below meth c 3 D bs A (MQ below (zzQc D bs A S out.2 hz (some (.int out.1))) args s 0 0 A) 0 0 S M hz 20 [(0, .ref (bs + v0)), (1, .long v1)] [.int w0, .ref (bs + w1)] := by
  unfold F_Md_run_20 at hF
  refine zi_putI C zc_9 (k := 0) (by decide) zw_23 rfl (Or.inl rfl) hn_w1 hk_w1 d_Md_run_20 rfl hF (fun M hF => ?_)
  refine zi_aload_n C d_Md_run_23 rfl 0 rfl ?_
  refine zi_getI C zc_9 (k := 0) (by decide) zw_23 rfl hn_v0 hk_v0 d_Md_run_24 (fun _ _ _ => rfl) hF (fun x1 hF => ?_)
  refine zi_if_eq (tgt := 32) C d_Md_run_27 (by decide) hF (fun hF => ?_) (fun hF => ?_)
  · refine zi_aload_n C d_Md_run_32 rfl 0 rfl ?_
    obtain ⟨r2, M, hqr2, hF⟩ := zzcall_e hF
    refine zi_callV_v (M2 := M) (n := 0) (As := []) (st := []) C (c_Md_forget hqr2 hn_v0 hk_v0) zw_17 zw_18 (by decide +kernel) ⟨Nat.le_of_ble_eq_true rfl, Nat.le_of_ble_eq_true rfl⟩ rfl (Nat.le_of_ble_eq_true rfl) ⟨Nat.le_of_ble_eq_true rfl, Nat.le_of_ble_eq_true rfl⟩ zw_19 zw_20 zw_21 zc_9.1 hn_v0 hk_v0 rfl d_Md_run_33 ?_
    refine zi_aload_n C d_Md_run_36 rfl 0 rfl ?_
    refine zi_lload_n C d_Md_run_37 rfl 1 rfl ?_
    refine zi_putL C zc_9 (k := 34) (by decide) zw_190 rfl (Or.inl rfl) hn_v0 hk_v0 d_Md_run_38 rfl hF (fun M hF => ?_)
    refine zi_aload_n C d_Md_run_41 rfl 0 rfl ?_
    refine zi_iconst (v := 0) C d_Md_run_42 (by decide) ?_
    refine zi_putZ C zc_9 (k := 49) (by decide) zw_177 rfl (Or.inl rfl) hn_v0 hk_v0 d_Md_run_43 rfl hF (fun M hF => ?_)
    refine zi_aload_n C d_Md_run_46 rfl 0 rfl ?_
    refine zi_iconst (v := 0) C d_Md_run_47 (by decide) ?_
    refine zi_putI C zc_9 (k := 50) (by decide) zw_176 rfl (Or.inl rfl) hn_v0 hk_v0 d_Md_run_48 rfl hF (fun M hF => ?_)
    refine zi_aload_n C d_Md_run_51 rfl 0 rfl ?_
    refine zi_iconst (v := 0) C d_Md_run_52 (by decide) ?_
    refine zi_putI C zc_9 (k := 52) (by decide) zw_189 rfl (Or.inl rfl) hn_v0 hk_v0 d_Md_run_53 rfl hF (fun M hF => ?_)
    refine zi_aload_n C d_Md_run_56 rfl 0 rfl ?_
    refine zi_iconst (v := 0) C d_Md_run_57 (by decide) ?_
    refine zi_putI C zc_9 (k := 53) (by decide) zw_179 rfl (Or.inl rfl) hn_v0 hk_v0 d_Md_run_58 rfl hF (fun M hF => ?_)
    refine zi_aload_n C d_Md_run_61 rfl 0 rfl ?_
    refine zi_iconst (v := 0) C d_Md_run_62 (by decide) ?_
    refine zi_putI C zc_9 (k := 55) (by decide) zw_175 rfl (Or.inl rfl) hn_v0 hk_v0 d_Md_run_63 rfl hF (fun M hF => ?_)
    refine zz_sub [0] (lv' := [(0, .ref (bs + v0))]) rfl ?_
    exact g_Md_run_66 C hlocks hr hin   _ _ v0 hn_v0 hk_v0 hF
  · refine zi_iconst (v := 0) C d_Md_run_30 (by decide) ?_
    exact zi_iret C hlocks hr d_Md_run_31 (by cases hF; rfl) rfl (by cases hF; rfl) rfl
def F_Md_run_19 (S : zzS)   (M : zzM) (v0 : Nat) (v1 : Int64) (w0 : Nat) : Option (Int32 × zzM) := F_Md_run_20 S   M v0 v1 (1 : Int32) w0
set_option maxHeartbeats 4000000 in
set_option maxRecDepth 100000 in
theorem g_Md_run_19 {p : Program} {l : Launch} {e : Env} {s : State} {m : MethodId} {args : Array Value} {below : List Frame} {meth : Method} {c : Code} {D : zzD} {bs : Nat} {A : Nat → Prop} {S : zzS} {hz : Nat} {out : Int32 × zzM}  (C : zzC p s m args c prog_12_method_57_code "BoardScriptModel" 3 D) (hlocks : meth.locks = false) (hr : meth.sig.returnType = (some .int)) (hin : meth.name = "run")    (M : zzM) (v0 : Nat) (v1 : Int64) (w0 : Nat) (hn_v0 : v0 < S.2.1) (hk_v0 : zzk S v0 = 19) (hn_w0 : w0 < S.2.1) (hk_w0 : zzk S w0 = 19) (hF : F_Md_run_19 S   M v0 v1 w0 = some out) : zzB p l e { frames := 5, cells := 0, slots := 0, locals := 119 } s m args below meth c 3 D bs A (MQ below (zzQc D bs A S out.2 hz (some (.int out.1))) args s 0 0 A) 0 0 S M hz 19 [(0, .ref (bs + v0)), (1, .long v1)] [.ref (bs + w0)] := by
  unfold F_Md_run_19 at hF
  refine zi_iconst (v := 1) C d_Md_run_19 (by decide) ?_
  refine zz_sub [0, 1] (lv' := [(0, .ref (bs + v0)), (1, .long v1)]) rfl ?_
  exact g_Md_run_20 C hlocks hr hin   _ v0 v1 (1 : Int32) w0 hn_v0 hk_v0 hn_w0 hk_w0 hF
def F_Md_run (S : zzS)  (M : zzM) (v0 : Nat) (v1 : Int64) : Option (Int32 × zzM) := zzlet (lg_cmp v1 (1 : Int64)) fun x1 => if x1 < 0 then (F_Md_run_19 S   M v0 v1 v0) else (zzlet (lg_cmp v1 (300 : Int64)) fun x2 => if 0 < x2 then (F_Md_run_19 S   M v0 v1 v0) else (F_Md_run_20 S   M v0 v1 (0 : Int32) v0))
set_option maxHeartbeats 4000000 in
set_option maxRecDepth 100000 in
theorem c_Md_run {l : Launch} {D : zzD} {bs : Nat} {A : Nat → Prop} {S : zzS} {M : zzM} {hz : Nat} {out : Int32 × zzM} {v0 : Nat} {v1 : Int64}   (hF : F_Md_run S  M v0 v1 = some out) (hn_v0 : v0 < S.2.1) (hk_v0 : zzk S v0 = 19) : Met l y_Md_run (Cond.code y_Md_run prog_12_method_57_code 3 (some .int) :: zzW) { frames := 5, cells := 0, slots := 0, locals := 119 } (zzPc D bs A S M hz [.ref (bs + v0), .long v1]) (zzQc D bs A S out.2 hz (some (.int out.1))) 0 0 A := by
  refine zz_met [.ref (bs + v0), .long v1] (by decide) (Nat.le_of_ble_eq_true rfl) (fun p e s m args below meth c C hr hlocks hin hsz => ?_)
  refine zz_eq (lv' := [(0, .ref (bs + v0)), (1, .long v1)]) (st' := []) rfl rfl ?_
  unfold F_Md_run at hF
  refine zi_aload_n C d_Md_run_0 rfl 0 rfl ?_
  refine zi_lload_n C d_Md_run_1 rfl 1 rfl ?_
  refine zi_lconst (v := 1) C d_Md_run_2 (by decide) ?_
  refine zi_lcmp C d_Md_run_3 hF (fun x1 hF => ?_)
  refine zi_if_lt (tgt := 19) C d_Md_run_4 (by decide) hF (fun hF => ?_) (fun hF => ?_)
  · refine zz_sub [0, 1] (lv' := [(0, .ref (bs + v0)), (1, .long v1)]) rfl ?_
    exact g_Md_run_19 C hlocks hr hin   _ v0 v1 v0 hn_v0 hk_v0 hn_v0 hk_v0 hF
  · refine zi_lload_n C d_Md_run_7 rfl 1 rfl ?_
    refine zi_ldc2 (v := 300) C zw_241 d_Md_run_8 ?_
    refine zi_lcmp C d_Md_run_11 hF (fun x2 hF => ?_)
    refine zi_if_gt (tgt := 19) C d_Md_run_12 (by decide) hF (fun hF => ?_) (fun hF => ?_)
    · refine zz_sub [0, 1] (lv' := [(0, .ref (bs + v0)), (1, .long v1)]) rfl ?_
      exact g_Md_run_19 C hlocks hr hin   _ v0 v1 v0 hn_v0 hk_v0 hn_v0 hk_v0 hF
    · refine zi_iconst (v := 0) C d_Md_run_15 (by decide) ?_
      refine zi_goto (tgt := 20) C d_Md_run_16 (by decide) ?_
      refine zz_sub [0, 1] (lv' := [(0, .ref (bs + v0)), (1, .long v1)]) rfl ?_
      exact g_Md_run_20 C hlocks hr hin   _ v0 v1 (0 : Int32) v0 hn_v0 hk_v0 hn_v0 hk_v0 hF
def F_Md_query (S : zzS)  (M : zzM) (v0 : Nat) (v1 : Int32) : Option (Int32 × zzM) := zzlet (zzsI M v0 0 (0 : Int32)) fun M => if v1 < 0 then (some ((-1 : Int32), M)) else (zzlet (zzI M v0 40) fun x1 => if x1 ≤ v1 then (some ((-1 : Int32), M)) else (zzref S 1 (zzR M v0 41) fun b2 => zzix S b2 v1 (zzlet (zzI M b2 (v1).toNatClampNeg) fun x3 => some (x3, M))))
set_option maxHeartbeats 4000000 in
set_option maxRecDepth 100000 in
theorem c_Md_query {l : Launch} {D : zzD} {bs : Nat} {A : Nat → Prop} {S : zzS} {M : zzM} {hz : Nat} {out : Int32 × zzM} {v0 : Nat} {v1 : Int32}   (hF : F_Md_query S  M v0 v1 = some out) (hn_v0 : v0 < S.2.1) (hk_v0 : zzk S v0 = 19) : Met l y_Md_query (Cond.code y_Md_query prog_12_method_58_code 2 (some .int) :: zzW) { frames := 0, cells := 0, slots := 0, locals := 0 } (zzPc D bs A S M hz [.ref (bs + v0), .int v1]) (zzQc D bs A S out.2 hz (some (.int out.1))) 0 0 A := by
  refine zz_met [.ref (bs + v0), .int v1] (by decide) (Nat.le_of_ble_eq_true rfl) (fun p e s m args below meth c C hr hlocks hin hsz => ?_)
  refine zz_eq (lv' := [(0, .ref (bs + v0)), (1, .int v1)]) (st' := []) rfl rfl ?_
  unfold F_Md_query at hF
  refine zi_aload_n C d_Md_query_0 rfl 0 rfl ?_
  refine zi_iconst (v := 0) C d_Md_query_1 (by decide) ?_
  refine zi_putI C zc_9 (k := 0) (by decide) zw_23 rfl (Or.inl rfl) hn_v0 hk_v0 d_Md_query_2 rfl hF (fun M hF => ?_)
  refine zi_iload_n C d_Md_query_5 rfl 1 rfl ?_
  refine zi_if_lt (tgt := 26) C d_Md_query_6 (by decide) hF (fun hF => ?_) (fun hF => ?_)
  · refine zi_iconst (v := -1) C d_Md_query_26 (by decide) ?_
    exact zi_iret C hlocks hr d_Md_query_27 (by cases hF; rfl) rfl (by cases hF; rfl) rfl
  · refine zi_iload_n C d_Md_query_9 rfl 1 rfl ?_
    refine zi_aload_n C d_Md_query_10 rfl 0 rfl ?_
    refine zi_getI C zc_9 (k := 40) (by decide) zw_3 rfl hn_v0 hk_v0 d_Md_query_11 (fun _ _ _ => rfl) hF (fun x1 hF => ?_)
    refine zi_icmp_ge (tgt := 26) C d_Md_query_14 (by decide) hF (fun hF => ?_) (fun hF => ?_)
    · refine zi_iconst (v := -1) C d_Md_query_26 (by decide) ?_
      exact zi_iret C hlocks hr d_Md_query_27 (by cases hF; rfl) rfl (by cases hF; rfl) rfl
    · refine zi_aload_n C d_Md_query_17 rfl 0 rfl ?_
      refine zi_getR C zc_9 (k := 41) (by decide) zw_200 rfl hn_v0 hk_v0 d_Md_query_18 (fun _ _ _ => rfl) hF (fun b2 hn_b2 hk_b2 hF => ?_)
      refine zi_iload_n C d_Md_query_21 rfl 1 rfl ?_
      refine zi_iald C hn_b2 hk_b2 d_Md_query_22 hF (fun x3 hF => ?_)
      refine zi_goto (tgt := 27) C d_Md_query_23 (by decide) ?_
      exact zi_iret C hlocks hr d_Md_query_27 (by cases hF; rfl) rfl (by cases hF; rfl) rfl
def F_Md_output (S : zzS)  (M : zzM) (v0 : Nat) (v1 : Int32) : Option (Int32 × zzM) := if v1 < 0 then (zzlet (zzsI M v0 0 (1 : Int32)) fun M => zzlet (zzI M v0 0) fun x1 => if x1 = 0 then (zzref S 1 (zzR M v0 37) fun b2 => zzix S b2 v1 (zzlet (zzI M b2 (v1).toNatClampNeg) fun x3 => some (x3, M))) else (some ((0 : Int32), M))) else (zzlet (zzI M v0 36) fun x4 => if x4 ≤ v1 then (zzlet (zzsI M v0 0 (1 : Int32)) fun M => zzlet (zzI M v0 0) fun x5 => if x5 = 0 then (zzref S 1 (zzR M v0 37) fun b6 => zzix S b6 v1 (zzlet (zzI M b6 (v1).toNatClampNeg) fun x7 => some (x7, M))) else (some ((0 : Int32), M))) else (zzlet (zzsI M v0 0 (0 : Int32)) fun M => zzlet (zzI M v0 0) fun x8 => if x8 = 0 then (zzref S 1 (zzR M v0 37) fun b9 => zzix S b9 v1 (zzlet (zzI M b9 (v1).toNatClampNeg) fun x10 => some (x10, M))) else (some ((0 : Int32), M))))
set_option maxHeartbeats 4000000 in
set_option maxRecDepth 100000 in
theorem c_Md_output {l : Launch} {D : zzD} {bs : Nat} {A : Nat → Prop} {S : zzS} {M : zzM} {hz : Nat} {out : Int32 × zzM} {v0 : Nat} {v1 : Int32}   (hF : F_Md_output S  M v0 v1 = some out) (hn_v0 : v0 < S.2.1) (hk_v0 : zzk S v0 = 19) : Met l y_Md_output (Cond.code y_Md_output prog_12_method_59_code 2 (some .int) :: zzW) { frames := 0, cells := 0, slots := 0, locals := 0 } (zzPc D bs A S M hz [.ref (bs + v0), .int v1]) (zzQc D bs A S out.2 hz (some (.int out.1))) 0 0 A := by
  refine zz_met [.ref (bs + v0), .int v1] (by decide) (Nat.le_of_ble_eq_true rfl) (fun p e s m args below meth c C hr hlocks hin hsz => ?_)
  refine zz_eq (lv' := [(0, .ref (bs + v0)), (1, .int v1)]) (st' := []) rfl rfl ?_
  unfold F_Md_output at hF
  refine zi_aload_n C d_Md_output_0 rfl 0 rfl ?_
  refine zi_iload_n C d_Md_output_1 rfl 1 rfl ?_
  refine zi_if_lt (tgt := 17) C d_Md_output_2 (by decide) hF (fun hF => ?_) (fun hF => ?_)
  · refine zi_iconst (v := 1) C d_Md_output_17 (by decide) ?_
    refine zi_putI C zc_9 (k := 0) (by decide) zw_23 rfl (Or.inl rfl) hn_v0 hk_v0 d_Md_output_18 rfl hF (fun M hF => ?_)
    refine zi_aload_n C d_Md_output_21 rfl 0 rfl ?_
    refine zi_getI C zc_9 (k := 0) (by decide) zw_23 rfl hn_v0 hk_v0 d_Md_output_22 (fun _ _ _ => rfl) hF (fun x1 hF => ?_)
    refine zi_if_ne (tgt := 37) C d_Md_output_25 (by decide) hF (fun hF => ?_) (fun hF => ?_)
    · refine zi_iconst (v := 0) C d_Md_output_37 (by decide) ?_
      exact zi_iret C hlocks hr d_Md_output_38 (by cases hF; rfl) rfl (by cases hF; rfl) rfl
    · refine zi_aload_n C d_Md_output_28 rfl 0 rfl ?_
      refine zi_getR C zc_9 (k := 37) (by decide) zw_201 rfl hn_v0 hk_v0 d_Md_output_29 (fun _ _ _ => rfl) hF (fun b2 hn_b2 hk_b2 hF => ?_)
      refine zi_iload_n C d_Md_output_32 rfl 1 rfl ?_
      refine zi_iald C hn_b2 hk_b2 d_Md_output_33 hF (fun x3 hF => ?_)
      refine zi_goto (tgt := 38) C d_Md_output_34 (by decide) ?_
      exact zi_iret C hlocks hr d_Md_output_38 (by cases hF; rfl) rfl (by cases hF; rfl) rfl
  · refine zi_iload_n C d_Md_output_5 rfl 1 rfl ?_
    refine zi_aload_n C d_Md_output_6 rfl 0 rfl ?_
    refine zi_getI C zc_9 (k := 36) (by decide) zw_1 rfl hn_v0 hk_v0 d_Md_output_7 (fun _ _ _ => rfl) hF (fun x4 hF => ?_)
    refine zi_icmp_ge (tgt := 17) C d_Md_output_10 (by decide) hF (fun hF => ?_) (fun hF => ?_)
    · refine zi_iconst (v := 1) C d_Md_output_17 (by decide) ?_
      refine zi_putI C zc_9 (k := 0) (by decide) zw_23 rfl (Or.inl rfl) hn_v0 hk_v0 d_Md_output_18 rfl hF (fun M hF => ?_)
      refine zi_aload_n C d_Md_output_21 rfl 0 rfl ?_
      refine zi_getI C zc_9 (k := 0) (by decide) zw_23 rfl hn_v0 hk_v0 d_Md_output_22 (fun _ _ _ => rfl) hF (fun x5 hF => ?_)
      refine zi_if_ne (tgt := 37) C d_Md_output_25 (by decide) hF (fun hF => ?_) (fun hF => ?_)
      · refine zi_iconst (v := 0) C d_Md_output_37 (by decide) ?_
        exact zi_iret C hlocks hr d_Md_output_38 (by cases hF; rfl) rfl (by cases hF; rfl) rfl
      · refine zi_aload_n C d_Md_output_28 rfl 0 rfl ?_
        refine zi_getR C zc_9 (k := 37) (by decide) zw_201 rfl hn_v0 hk_v0 d_Md_output_29 (fun _ _ _ => rfl) hF (fun b6 hn_b6 hk_b6 hF => ?_)
        refine zi_iload_n C d_Md_output_32 rfl 1 rfl ?_
        refine zi_iald C hn_b6 hk_b6 d_Md_output_33 hF (fun x7 hF => ?_)
        refine zi_goto (tgt := 38) C d_Md_output_34 (by decide) ?_
        exact zi_iret C hlocks hr d_Md_output_38 (by cases hF; rfl) rfl (by cases hF; rfl) rfl
    · refine zi_iconst (v := 0) C d_Md_output_13 (by decide) ?_
      refine zi_goto (tgt := 18) C d_Md_output_14 (by decide) ?_
      refine zi_putI C zc_9 (k := 0) (by decide) zw_23 rfl (Or.inl rfl) hn_v0 hk_v0 d_Md_output_18 rfl hF (fun M hF => ?_)
      refine zi_aload_n C d_Md_output_21 rfl 0 rfl ?_
      refine zi_getI C zc_9 (k := 0) (by decide) zw_23 rfl hn_v0 hk_v0 d_Md_output_22 (fun _ _ _ => rfl) hF (fun x8 hF => ?_)
      refine zi_if_ne (tgt := 37) C d_Md_output_25 (by decide) hF (fun hF => ?_) (fun hF => ?_)
      · refine zi_iconst (v := 0) C d_Md_output_37 (by decide) ?_
        exact zi_iret C hlocks hr d_Md_output_38 (by cases hF; rfl) rfl (by cases hF; rfl) rfl
      · refine zi_aload_n C d_Md_output_28 rfl 0 rfl ?_
        refine zi_getR C zc_9 (k := 37) (by decide) zw_201 rfl hn_v0 hk_v0 d_Md_output_29 (fun _ _ _ => rfl) hF (fun b9 hn_b9 hk_b9 hF => ?_)
        refine zi_iload_n C d_Md_output_32 rfl 1 rfl ?_
        refine zi_iald C hn_b9 hk_b9 d_Md_output_33 hF (fun x10 hF => ?_)
        refine zi_goto (tgt := 38) C d_Md_output_34 (by decide) ?_
        exact zi_iret C hlocks hr d_Md_output_38 (by cases hF; rfl) rfl (by cases hF; rfl) rfl
def F_Md_error_15 (S : zzS)   (M : zzM) (v0 : Nat) (v1 : Int32) (w0 : Int32) (w1 : Nat) : Option (Int32 × zzM) := zzlet (zzsI M w1 0 w0) fun M => zzlet (zzI M v0 0) fun x1 => if x1 = 0 then (if v1 = 0 then (zzlet (zzI M v0 46) fun x4 => some (x4, M)) else (if v1 = (1 : Int32) then (zzlet (zzI M v0 47) fun x3 => some (x3, M)) else (zzlet (zzI M v0 48) fun x2 => some (x2, M)))) else (some ((0 : Int32), M))
set_option maxHeartbeats 4000000 in
set_option maxRecDepth 100000 in
theorem g_Md_error_15 {p : Program} {l : Launch} {e : Env} {s : State} {m : MethodId} {args : Array Value} {below : List Frame} {meth : Method} {c : Code} {D : zzD} {bs : Nat} {A : Nat → Prop} {S : zzS} {hz : Nat} {out : Int32 × zzM}  (C : zzC p s m args c prog_12_method_60_code "BoardScriptModel" 2 D) (hlocks : meth.locks = false) (hr : meth.sig.returnType = (some .int)) (hin : meth.name = "error")    (M : zzM) (v0 : Nat) (v1 : Int32) (w0 : Int32) (w1 : Nat) (hn_v0 : v0 < S.2.1) (hk_v0 : zzk S v0 = 19) (hn_w1 : w1 < S.2.1) (hk_w1 : zzk S w1 = 19) (hF : F_Md_error_15 S   M v0 v1 w0 w1 = some out) : zzB p l e { frames := 0, cells := 0, slots := 0, locals := 0 } s m args below meth c 2 D bs A (MQ below (zzQc D bs A S out.2 hz (some (.int out.1))) args s 0 0 A) 0 0 S M hz 15 [(0, .ref (bs + v0)), (1, .int v1)] [.int w0, .ref (bs + w1)] := by
  unfold F_Md_error_15 at hF
  refine zi_putI C zc_9 (k := 0) (by decide) zw_23 rfl (Or.inl rfl) hn_w1 hk_w1 d_Md_error_15 rfl hF (fun M hF => ?_)
  refine zi_aload_n C d_Md_error_18 rfl 0 rfl ?_
  refine zi_getI C zc_9 (k := 0) (by decide) zw_23 rfl hn_v0 hk_v0 d_Md_error_19 (fun _ _ _ => rfl) hF (fun x1 hF => ?_)
  refine zi_if_eq (tgt := 27) C d_Md_error_22 (by decide) hF (fun hF => ?_) (fun hF => ?_)
  · refine zi_iload_n C d_Md_error_27 rfl 1 rfl ?_
    refine zi_if_ne (tgt := 38) C d_Md_error_28 (by decide) hF (fun hF => ?_) (fun hF => ?_)
    · refine zi_iload_n C d_Md_error_38 rfl 1 rfl ?_
      refine zi_iconst (v := 1) C d_Md_error_39 (by decide) ?_
      refine zi_icmp_ne (tgt := 50) C d_Md_error_40 (by decide) hF (fun hF => ?_) (fun hF => ?_)
      · refine zi_aload_n C d_Md_error_50 rfl 0 rfl ?_
        refine zi_getI C zc_9 (k := 48) (by decide) zw_9 rfl hn_v0 hk_v0 d_Md_error_51 (fun _ _ _ => rfl) hF (fun x2 hF => ?_)
        exact zi_iret C hlocks hr d_Md_error_54 (by cases hF; rfl) rfl (by cases hF; rfl) rfl
      · refine zi_aload_n C d_Md_error_43 rfl 0 rfl ?_
        refine zi_getI C zc_9 (k := 47) (by decide) zw_8 rfl hn_v0 hk_v0 d_Md_error_44 (fun _ _ _ => rfl) hF (fun x3 hF => ?_)
        refine zi_goto (tgt := 54) C d_Md_error_47 (by decide) ?_
        exact zi_iret C hlocks hr d_Md_error_54 (by cases hF; rfl) rfl (by cases hF; rfl) rfl
    · refine zi_aload_n C d_Md_error_31 rfl 0 rfl ?_
      refine zi_getI C zc_9 (k := 46) (by decide) zw_7 rfl hn_v0 hk_v0 d_Md_error_32 (fun _ _ _ => rfl) hF (fun x4 hF => ?_)
      refine zi_goto (tgt := 54) C d_Md_error_35 (by decide) ?_
      exact zi_iret C hlocks hr d_Md_error_54 (by cases hF; rfl) rfl (by cases hF; rfl) rfl
  · refine zi_iconst (v := 0) C d_Md_error_25 (by decide) ?_
    exact zi_iret C hlocks hr d_Md_error_26 (by cases hF; rfl) rfl (by cases hF; rfl) rfl
def F_Md_error_14 (S : zzS)   (M : zzM) (v0 : Nat) (v1 : Int32) (w0 : Nat) : Option (Int32 × zzM) := F_Md_error_15 S   M v0 v1 (1 : Int32) w0
set_option maxHeartbeats 4000000 in
set_option maxRecDepth 100000 in
theorem g_Md_error_14 {p : Program} {l : Launch} {e : Env} {s : State} {m : MethodId} {args : Array Value} {below : List Frame} {meth : Method} {c : Code} {D : zzD} {bs : Nat} {A : Nat → Prop} {S : zzS} {hz : Nat} {out : Int32 × zzM}  (C : zzC p s m args c prog_12_method_60_code "BoardScriptModel" 2 D) (hlocks : meth.locks = false) (hr : meth.sig.returnType = (some .int)) (hin : meth.name = "error")    (M : zzM) (v0 : Nat) (v1 : Int32) (w0 : Nat) (hn_v0 : v0 < S.2.1) (hk_v0 : zzk S v0 = 19) (hn_w0 : w0 < S.2.1) (hk_w0 : zzk S w0 = 19) (hF : F_Md_error_14 S   M v0 v1 w0 = some out) : zzB p l e { frames := 0, cells := 0, slots := 0, locals := 0 } s m args below meth c 2 D bs A (MQ below (zzQc D bs A S out.2 hz (some (.int out.1))) args s 0 0 A) 0 0 S M hz 14 [(0, .ref (bs + v0)), (1, .int v1)] [.ref (bs + w0)] := by
  unfold F_Md_error_14 at hF
  refine zi_iconst (v := 1) C d_Md_error_14 (by decide) ?_
  refine zz_sub [0, 1] (lv' := [(0, .ref (bs + v0)), (1, .int v1)]) rfl ?_
  exact g_Md_error_15 C hlocks hr hin   _ v0 v1 (1 : Int32) w0 hn_v0 hk_v0 hn_w0 hk_w0 hF
def F_Md_error (S : zzS)  (M : zzM) (v0 : Nat) (v1 : Int32) : Option (Int32 × zzM) := if v1 < 0 then (F_Md_error_14 S   M v0 v1 v0) else (if (3 : Int32) ≤ v1 then (F_Md_error_14 S   M v0 v1 v0) else (F_Md_error_15 S   M v0 v1 (0 : Int32) v0))
set_option maxHeartbeats 4000000 in
set_option maxRecDepth 100000 in
theorem c_Md_error {l : Launch} {D : zzD} {bs : Nat} {A : Nat → Prop} {S : zzS} {M : zzM} {hz : Nat} {out : Int32 × zzM} {v0 : Nat} {v1 : Int32}   (hF : F_Md_error S  M v0 v1 = some out) (hn_v0 : v0 < S.2.1) (hk_v0 : zzk S v0 = 19) : Met l y_Md_error (Cond.code y_Md_error prog_12_method_60_code 2 (some .int) :: zzW) { frames := 0, cells := 0, slots := 0, locals := 0 } (zzPc D bs A S M hz [.ref (bs + v0), .int v1]) (zzQc D bs A S out.2 hz (some (.int out.1))) 0 0 A := by
  refine zz_met [.ref (bs + v0), .int v1] (by decide) (Nat.le_of_ble_eq_true rfl) (fun p e s m args below meth c C hr hlocks hin hsz => ?_)
  refine zz_eq (lv' := [(0, .ref (bs + v0)), (1, .int v1)]) (st' := []) rfl rfl ?_
  unfold F_Md_error at hF
  refine zi_aload_n C d_Md_error_0 rfl 0 rfl ?_
  refine zi_iload_n C d_Md_error_1 rfl 1 rfl ?_
  refine zi_if_lt (tgt := 14) C d_Md_error_2 (by decide) hF (fun hF => ?_) (fun hF => ?_)
  · refine zz_sub [0, 1] (lv' := [(0, .ref (bs + v0)), (1, .int v1)]) rfl ?_
    exact g_Md_error_14 C hlocks hr hin   _ v0 v1 v0 hn_v0 hk_v0 hn_v0 hk_v0 hF
  · refine zi_iload_n C d_Md_error_5 rfl 1 rfl ?_
    refine zi_iconst (v := 3) C d_Md_error_6 (by decide) ?_
    refine zi_icmp_ge (tgt := 14) C d_Md_error_7 (by decide) hF (fun hF => ?_) (fun hF => ?_)
    · refine zz_sub [0, 1] (lv' := [(0, .ref (bs + v0)), (1, .int v1)]) rfl ?_
      exact g_Md_error_14 C hlocks hr hin   _ v0 v1 v0 hn_v0 hk_v0 hn_v0 hk_v0 hF
    · refine zi_iconst (v := 0) C d_Md_error_10 (by decide) ?_
      refine zi_goto (tgt := 15) C d_Md_error_11 (by decide) ?_
      refine zz_sub [0, 1] (lv' := [(0, .ref (bs + v0)), (1, .int v1)]) rfl ?_
      exact g_Md_error_15 C hlocks hr hin   _ v0 v1 (0 : Int32) v0 hn_v0 hk_v0 hn_v0 hk_v0 hF
def F_Md_closed (S : zzS)  (M : zzM) (v0 : Nat) (v1 : Int32) : Option (Int32 × zzM) := zzlet (zzsI M v0 0 (0 : Int32)) fun M => if v1 < 0 then (some ((-1 : Int32), M)) else (zzlet (zzI M v0 42) fun x1 => if x1 ≤ v1 then (some ((-1 : Int32), M)) else (zzref S 1 (zzR M v0 43) fun b2 => zzix S b2 v1 (zzlet (zzI M b2 (v1).toNatClampNeg) fun x3 => some (x3, M))))
set_option maxHeartbeats 4000000 in
set_option maxRecDepth 100000 in
theorem c_Md_closed {l : Launch} {D : zzD} {bs : Nat} {A : Nat → Prop} {S : zzS} {M : zzM} {hz : Nat} {out : Int32 × zzM} {v0 : Nat} {v1 : Int32}   (hF : F_Md_closed S  M v0 v1 = some out) (hn_v0 : v0 < S.2.1) (hk_v0 : zzk S v0 = 19) : Met l y_Md_closed (Cond.code y_Md_closed prog_12_method_61_code 2 (some .int) :: zzW) { frames := 0, cells := 0, slots := 0, locals := 0 } (zzPc D bs A S M hz [.ref (bs + v0), .int v1]) (zzQc D bs A S out.2 hz (some (.int out.1))) 0 0 A := by
  refine zz_met [.ref (bs + v0), .int v1] (by decide) (Nat.le_of_ble_eq_true rfl) (fun p e s m args below meth c C hr hlocks hin hsz => ?_)
  refine zz_eq (lv' := [(0, .ref (bs + v0)), (1, .int v1)]) (st' := []) rfl rfl ?_
  unfold F_Md_closed at hF
  refine zi_aload_n C d_Md_closed_0 rfl 0 rfl ?_
  refine zi_iconst (v := 0) C d_Md_closed_1 (by decide) ?_
  refine zi_putI C zc_9 (k := 0) (by decide) zw_23 rfl (Or.inl rfl) hn_v0 hk_v0 d_Md_closed_2 rfl hF (fun M hF => ?_)
  refine zi_iload_n C d_Md_closed_5 rfl 1 rfl ?_
  refine zi_if_lt (tgt := 26) C d_Md_closed_6 (by decide) hF (fun hF => ?_) (fun hF => ?_)
  · refine zi_iconst (v := -1) C d_Md_closed_26 (by decide) ?_
    exact zi_iret C hlocks hr d_Md_closed_27 (by cases hF; rfl) rfl (by cases hF; rfl) rfl
  · refine zi_iload_n C d_Md_closed_9 rfl 1 rfl ?_
    refine zi_aload_n C d_Md_closed_10 rfl 0 rfl ?_
    refine zi_getI C zc_9 (k := 42) (by decide) zw_4 rfl hn_v0 hk_v0 d_Md_closed_11 (fun _ _ _ => rfl) hF (fun x1 hF => ?_)
    refine zi_icmp_ge (tgt := 26) C d_Md_closed_14 (by decide) hF (fun hF => ?_) (fun hF => ?_)
    · refine zi_iconst (v := -1) C d_Md_closed_26 (by decide) ?_
      exact zi_iret C hlocks hr d_Md_closed_27 (by cases hF; rfl) rfl (by cases hF; rfl) rfl
    · refine zi_aload_n C d_Md_closed_17 rfl 0 rfl ?_
      refine zi_getR C zc_9 (k := 43) (by decide) zw_208 rfl hn_v0 hk_v0 d_Md_closed_18 (fun _ _ _ => rfl) hF (fun b2 hn_b2 hk_b2 hF => ?_)
      refine zi_iload_n C d_Md_closed_21 rfl 1 rfl ?_
      refine zi_iald C hn_b2 hk_b2 d_Md_closed_22 hF (fun x3 hF => ?_)
      refine zi_goto (tgt := 27) C d_Md_closed_23 (by decide) ?_
      exact zi_iret C hlocks hr d_Md_closed_27 (by cases hF; rfl) rfl (by cases hF; rfl) rfl
def F_Md_restored (S : zzS)  (M : zzM) (v0 : Nat) : Option (Int32 × zzM) := zzlet (zzsI M v0 0 (0 : Int32)) fun M => zzlet (zzI M v0 44) fun x1 => zzck (zzokZ x1) (some (x1, M))
set_option maxHeartbeats 4000000 in
set_option maxRecDepth 100000 in
theorem c_Md_restored {l : Launch} {D : zzD} {bs : Nat} {A : Nat → Prop} {S : zzS} {M : zzM} {hz : Nat} {out : Int32 × zzM} {v0 : Nat}   (hF : F_Md_restored S  M v0 = some out) (hn_v0 : v0 < S.2.1) (hk_v0 : zzk S v0 = 19) : Met l y_Md_restored (Cond.code y_Md_restored prog_12_method_62_code 1 (some .boolean) :: zzW) { frames := 0, cells := 0, slots := 0, locals := 0 } (zzPc D bs A S M hz [.ref (bs + v0)]) (zzQc D bs A S out.2 hz (some (.int out.1))) 0 0 A := by
  refine zz_met [.ref (bs + v0)] (by decide) (Nat.le_of_ble_eq_true rfl) (fun p e s m args below meth c C hr hlocks hin hsz => ?_)
  refine zz_eq (lv' := [(0, .ref (bs + v0))]) (st' := []) rfl rfl ?_
  unfold F_Md_restored at hF
  refine zi_aload_n C d_Md_restored_0 rfl 0 rfl ?_
  refine zi_iconst (v := 0) C d_Md_restored_1 (by decide) ?_
  refine zi_putI C zc_9 (k := 0) (by decide) zw_23 rfl (Or.inl rfl) hn_v0 hk_v0 d_Md_restored_2 rfl hF (fun M hF => ?_)
  refine zi_aload_n C d_Md_restored_5 rfl 0 rfl ?_
  refine zi_getI C zc_9 (k := 44) (by decide) zw_5 rfl hn_v0 hk_v0 d_Md_restored_6 (fun _ _ _ => rfl) hF (fun x1 hF => ?_)
  obtain ⟨hok, hF⟩ := zzck_e hF
  exact zi_zret C hlocks hr (zzokZ_n hok).1 d_Md_restored_9 (by cases hF; rfl) rfl (by cases hF; rfl) rfl
def F_Md_added (S : zzS)  (M : zzM) (v0 : Nat) (v1 : Int32) : Option (Int32 × zzM) := zzlet (zzsI M v0 0 (0 : Int32)) fun M => if v1 < 0 then (some ((-1 : Int32), M)) else (zzlet (zzI M v0 38) fun x1 => if v1 < x1 then (zzref S 1 (zzR M v0 39) fun b2 => zzix S b2 v1 (zzlet (zzI M b2 (v1).toNatClampNeg) fun x3 => zzcall (F_Md_ask S M v0 x3) fun r4 M => if r4 = 0 then (some ((-2 : Int32), M)) else (zzlet (zzL M v0 65) fun x5 => zzlet (lg_cmp x5 (0 : Int64)) fun x6 => if x6 = 0 then (some ((0 : Int32), M)) else (some ((1 : Int32), M))))) else (some ((-1 : Int32), M)))
set_option maxHeartbeats 4000000 in
set_option maxRecDepth 100000 in
theorem c_Md_added {l : Launch} {D : zzD} {bs : Nat} {A : Nat → Prop} {S : zzS} {M : zzM} {hz : Nat} {out : Int32 × zzM} {v0 : Nat} {v1 : Int32}   (hF : F_Md_added S  M v0 v1 = some out) (hn_v0 : v0 < S.2.1) (hk_v0 : zzk S v0 = 19) : Met l y_Md_added (Cond.code y_Md_added prog_12_method_63_code 2 (some .int) :: zzW) { frames := 2, cells := 0, slots := 0, locals := 50 } (zzPc D bs A S M hz [.ref (bs + v0), .int v1]) (zzQc D bs A S out.2 hz (some (.int out.1))) 0 0 A := by
  refine zz_met [.ref (bs + v0), .int v1] (by decide) (Nat.le_of_ble_eq_true rfl) (fun p e s m args below meth c C hr hlocks hin hsz => ?_)
  refine zz_eq (lv' := [(0, .ref (bs + v0)), (1, .int v1)]) (st' := []) rfl rfl ?_
  unfold F_Md_added at hF
  refine zi_aload_n C d_Md_added_0 rfl 0 rfl ?_
  refine zi_iconst (v := 0) C d_Md_added_1 (by decide) ?_
  refine zi_putI C zc_9 (k := 0) (by decide) zw_23 rfl (Or.inl rfl) hn_v0 hk_v0 d_Md_added_2 rfl hF (fun M hF => ?_)
  refine zi_iload_n C d_Md_added_5 rfl 1 rfl ?_
  refine zi_if_lt (tgt := 17) C d_Md_added_6 (by decide) hF (fun hF => ?_) (fun hF => ?_)
  · refine zi_iconst (v := -1) C d_Md_added_17 (by decide) ?_
    exact zi_iret C hlocks hr d_Md_added_18 (by cases hF; rfl) rfl (by cases hF; rfl) rfl
  · refine zi_iload_n C d_Md_added_9 rfl 1 rfl ?_
    refine zi_aload_n C d_Md_added_10 rfl 0 rfl ?_
    refine zi_getI C zc_9 (k := 38) (by decide) zw_2 rfl hn_v0 hk_v0 d_Md_added_11 (fun _ _ _ => rfl) hF (fun x1 hF => ?_)
    refine zi_icmp_lt (tgt := 19) C d_Md_added_14 (by decide) hF (fun hF => ?_) (fun hF => ?_)
    · refine zi_aload_n C d_Md_added_19 rfl 0 rfl ?_
      refine zi_aload_n C d_Md_added_20 rfl 0 rfl ?_
      refine zi_getR C zc_9 (k := 39) (by decide) zw_206 rfl hn_v0 hk_v0 d_Md_added_21 (fun _ _ _ => rfl) hF (fun b2 hn_b2 hk_b2 hF => ?_)
      refine zi_iload_n C d_Md_added_24 rfl 1 rfl ?_
      refine zi_iald C hn_b2 hk_b2 d_Md_added_25 hF (fun x3 hF => ?_)
      obtain ⟨r4, M, hqr4, hF⟩ := zzcall_e hF
      refine zi_callV_i (M2 := M) (r := r4) (n := 1) (As := [.int x3]) (st := []) C (c_Md_ask hqr4 hn_v0 hk_v0) zw_192 zw_18 (by decide +kernel) ⟨Nat.le_of_ble_eq_true rfl, Nat.le_of_ble_eq_true rfl⟩ rfl (Nat.le_of_ble_eq_true rfl) ⟨Nat.le_of_ble_eq_true rfl, Nat.le_of_ble_eq_true rfl⟩ zw_193 zw_194 zw_195 zc_9.1 hn_v0 hk_v0 rfl d_Md_added_26 ?_
      refine zi_if_ne (tgt := 37) C d_Md_added_29 (by decide) hF (fun hF => ?_) (fun hF => ?_)
      · refine zi_aload_n C d_Md_added_37 rfl 0 rfl ?_
        refine zi_getL C zc_9 (k := 65) (by decide) zw_169 rfl hn_v0 hk_v0 d_Md_added_38 (fun _ _ _ => rfl) hF (fun x5 hF => ?_)
        refine zi_lconst (v := 0) C d_Md_added_41 (by decide) ?_
        refine zi_lcmp C d_Md_added_42 hF (fun x6 hF => ?_)
        refine zi_if_eq (tgt := 50) C d_Md_added_43 (by decide) hF (fun hF => ?_) (fun hF => ?_)
        · refine zi_iconst (v := 0) C d_Md_added_50 (by decide) ?_
          exact zi_iret C hlocks hr d_Md_added_51 (by cases hF; rfl) rfl (by cases hF; rfl) rfl
        · refine zi_iconst (v := 1) C d_Md_added_46 (by decide) ?_
          refine zi_goto (tgt := 51) C d_Md_added_47 (by decide) ?_
          exact zi_iret C hlocks hr d_Md_added_51 (by cases hF; rfl) rfl (by cases hF; rfl) rfl
      · refine zi_bipush (v := -2) C d_Md_added_32 (by decide) ?_
        refine zi_goto (tgt := 51) C d_Md_added_34 (by decide) ?_
        exact zi_iret C hlocks hr d_Md_added_51 (by cases hF; rfl) rfl (by cases hF; rfl) rfl
    · refine zi_iconst (v := -1) C d_Md_added_17 (by decide) ?_
      exact zi_iret C hlocks hr d_Md_added_18 (by cases hF; rfl) rfl (by cases hF; rfl) rfl
def F_Md_steps (S : zzS)  (M : zzM) (v0 : Nat) : Option (Int64 × zzM) := zzlet (zzsI M v0 0 (0 : Int32)) fun M => zzlet (zzL M v0 35) fun x1 => some (x1, M)
set_option maxHeartbeats 4000000 in
set_option maxRecDepth 100000 in
theorem c_Md_steps {l : Launch} {D : zzD} {bs : Nat} {A : Nat → Prop} {S : zzS} {M : zzM} {hz : Nat} {out : Int64 × zzM} {v0 : Nat}   (hF : F_Md_steps S  M v0 = some out) (hn_v0 : v0 < S.2.1) (hk_v0 : zzk S v0 = 19) : Met l y_Md_steps (Cond.code y_Md_steps prog_12_method_64_code 1 (some .long) :: zzW) { frames := 0, cells := 0, slots := 0, locals := 0 } (zzPc D bs A S M hz [.ref (bs + v0)]) (zzQc D bs A S out.2 hz (some (.long out.1))) 0 0 A := by
  refine zz_met [.ref (bs + v0)] (by decide) (Nat.le_of_ble_eq_true rfl) (fun p e s m args below meth c C hr hlocks hin hsz => ?_)
  refine zz_eq (lv' := [(0, .ref (bs + v0))]) (st' := []) rfl rfl ?_
  unfold F_Md_steps at hF
  refine zi_aload_n C d_Md_steps_0 rfl 0 rfl ?_
  refine zi_iconst (v := 0) C d_Md_steps_1 (by decide) ?_
  refine zi_putI C zc_9 (k := 0) (by decide) zw_23 rfl (Or.inl rfl) hn_v0 hk_v0 d_Md_steps_2 rfl hF (fun M hF => ?_)
  refine zi_aload_n C d_Md_steps_5 rfl 0 rfl ?_
  refine zi_getL C zc_9 (k := 35) (by decide) zw_0 rfl hn_v0 hk_v0 d_Md_steps_6 (fun _ _ _ => rfl) hF (fun x1 hF => ?_)
  exact zi_lret C hlocks hr d_Md_steps_9 (by cases hF; rfl) rfl (by cases hF; rfl) rfl
def F_Md_line_19_b (S : zzS)  (k19 : zzM → Nat → Int32 → Int32 → Option (Int32 × zzM)) (M : zzM) (v0 : Nat) (v1 : Int32) (v2 : Int32) : Option (Int32 × zzM) := zzlet (zzI M v0 47) fun x1 => if x1 ≤ v2 then (some (v1, M)) else (zzref S 1 (zzR M v0 5) fun b2 => zzlet (zzI M v0 3) fun x3 => zzlet ((400 : Int32) * x3) fun x4 => zzlet (x4 + v2) fun x5 => zzix S b2 x5 (zzlet (zzI M b2 (x5).toNatClampNeg) fun x6 => if x6 = (10 : Int32) then (zzlet (v1 + (1 : Int32)) fun x9 => zzlet (v2 + (1 : Int32)) fun x10 => k19 M v0 x9 x10) else (zzlet (v1 + (0 : Int32)) fun x7 => zzlet (v2 + (1 : Int32)) fun x8 => k19 M v0 x7 x8)))
def F_Md_line_19 (S : zzS)   (n : Nat) : zzM → Nat → Int32 → Int32 → Option (Int32 × zzM) := Nat.rec (fun _ _ _ _ => none) (fun _ k => F_Md_line_19_b S   k) n
set_option maxHeartbeats 4000000 in
set_option maxRecDepth 100000 in
theorem g_Md_line_19_b {p : Program} {l : Launch} {e : Env} {s : State} {m : MethodId} {args : Array Value} {below : List Frame} {meth : Method} {c : Code} {D : zzD} {bs : Nat} {A : Nat → Prop} {S : zzS} {hz : Nat} {out : Int32 × zzM}  (C : zzC p s m args c prog_12_method_65_code "BoardScriptModel" 3 D) (hlocks : meth.locks = false) (hr : meth.sig.returnType = (some .int)) (hin : meth.name = "line")  {k19 : zzM → Nat → Int32 → Int32 → Option (Int32 × zzM)} (hk19 : ∀ (M : zzM) (v0 : Nat) (v1 : Int32) (v2 : Int32) (hn_v0 : v0 < S.2.1) (hk_v0 : zzk S v0 = 19), k19 M v0 v1 v2 = some out → zzB p l e { frames := 0, cells := 0, slots := 0, locals := 0 } s m args below meth c 3 D bs A (MQ below (zzQc D bs A S out.2 hz (some (.int out.1))) args s 0 0 A) 0 0 S M hz 19 [(0, .ref (bs + v0)), (1, .int v1), (2, .int v2)] []) (M : zzM) (v0 : Nat) (v1 : Int32) (v2 : Int32) (hn_v0 : v0 < S.2.1) (hk_v0 : zzk S v0 = 19) (hF : F_Md_line_19_b S  k19 M v0 v1 v2 = some out) : zzB p l e { frames := 0, cells := 0, slots := 0, locals := 0 } s m args below meth c 3 D bs A (MQ below (zzQc D bs A S out.2 hz (some (.int out.1))) args s 0 0 A) 0 0 S M hz 19 [(0, .ref (bs + v0)), (1, .int v1), (2, .int v2)] [] := by
  unfold F_Md_line_19_b at hF
  refine zi_iload_n C d_Md_line_19 rfl 2 rfl ?_
  refine zi_aload_n C d_Md_line_20 rfl 0 rfl ?_
  refine zi_getI C zc_9 (k := 47) (by decide) zw_8 rfl hn_v0 hk_v0 d_Md_line_21 (fun _ _ _ => rfl) hF (fun x1 hF => ?_)
  refine zi_icmp_ge (tgt := 61) C d_Md_line_24 (by decide) hF (fun hF => ?_) (fun hF => ?_)
  · refine zi_iload_n C d_Md_line_61 rfl 1 rfl ?_
    exact zi_iret C hlocks hr d_Md_line_62 (by cases hF; rfl) rfl (by cases hF; rfl) rfl
  · refine zi_iload_n C d_Md_line_27 rfl 1 rfl ?_
    refine zi_aload_n C d_Md_line_28 rfl 0 rfl ?_
    refine zi_getR C zc_9 (k := 5) (by decide) zw_147 rfl hn_v0 hk_v0 d_Md_line_29 (fun _ _ _ => rfl) hF (fun b2 hn_b2 hk_b2 hF => ?_)
    refine zi_sipush (v := 400) C d_Md_line_32 (by decide) ?_
    refine zi_aload_n C d_Md_line_35 rfl 0 rfl ?_
    refine zi_getI C zc_9 (k := 3) (by decide) zw_16 rfl hn_v0 hk_v0 d_Md_line_36 (fun _ _ _ => rfl) hF (fun x3 hF => ?_)
    refine zi_imul C d_Md_line_39 hF (fun x4 hF => ?_)
    refine zi_iload_n C d_Md_line_40 rfl 2 rfl ?_
    refine zi_iadd C d_Md_line_41 hF (fun x5 hF => ?_)
    refine zi_iald C hn_b2 hk_b2 d_Md_line_42 hF (fun x6 hF => ?_)
    refine zi_bipush (v := 10) C d_Md_line_43 (by decide) ?_
    refine zi_icmp_ne (tgt := 52) C d_Md_line_45 (by decide) hF (fun hF => ?_) (fun hF => ?_)
    · refine zi_iconst (v := 0) C d_Md_line_52 (by decide) ?_
      refine zi_iadd C d_Md_line_53 hF (fun x7 hF => ?_)
      refine zi_istore_n (lv' := [(1, .int x7), (0, .ref (bs + v0)), (2, .int v2)]) C d_Md_line_54 rfl (by decide) rfl ?_
      refine zi_iinc (j := 2) (v0 := 1) C d_Md_line_55 rfl (by decide) (by decide) hF (fun x8 => [(2, .int x8), (1, .int x7), (0, .ref (bs + v0))]) (fun _ => rfl) (fun x8 hF => ?_)
      refine zi_goto (tgt := 19) C d_Md_line_58 (by decide) ?_
      refine zz_sub [2, 1, 0] (lv' := [(0, .ref (bs + v0)), (1, .int x7), (2, .int x8)]) rfl ?_
      exact hk19 _ v0 x7 x8 hn_v0 hk_v0 hF
    · refine zi_iconst (v := 1) C d_Md_line_48 (by decide) ?_
      refine zi_goto (tgt := 53) C d_Md_line_49 (by decide) ?_
      refine zi_iadd C d_Md_line_53 hF (fun x9 hF => ?_)
      refine zi_istore_n (lv' := [(1, .int x9), (0, .ref (bs + v0)), (2, .int v2)]) C d_Md_line_54 rfl (by decide) rfl ?_
      refine zi_iinc (j := 2) (v0 := 1) C d_Md_line_55 rfl (by decide) (by decide) hF (fun x10 => [(2, .int x10), (1, .int x9), (0, .ref (bs + v0))]) (fun _ => rfl) (fun x10 hF => ?_)
      refine zi_goto (tgt := 19) C d_Md_line_58 (by decide) ?_
      refine zz_sub [2, 1, 0] (lv' := [(0, .ref (bs + v0)), (1, .int x9), (2, .int x10)]) rfl ?_
      exact hk19 _ v0 x9 x10 hn_v0 hk_v0 hF
set_option maxHeartbeats 4000000 in
set_option maxRecDepth 100000 in
theorem g_Md_line_19 {p : Program} {l : Launch} {e : Env} {s : State} {m : MethodId} {args : Array Value} {below : List Frame} {meth : Method} {c : Code} {D : zzD} {bs : Nat} {A : Nat → Prop} {S : zzS} {hz : Nat} {out : Int32 × zzM}  (C : zzC p s m args c prog_12_method_65_code "BoardScriptModel" 3 D) (hlocks : meth.locks = false) (hr : meth.sig.returnType = (some .int)) (hin : meth.name = "line")    : ∀ (n : Nat) (M : zzM) (v0 : Nat) (v1 : Int32) (v2 : Int32) (hn_v0 : v0 < S.2.1) (hk_v0 : zzk S v0 = 19) (hF : F_Md_line_19 S   n M v0 v1 v2 = some out), zzB p l e { frames := 0, cells := 0, slots := 0, locals := 0 } s m args below meth c 3 D bs A (MQ below (zzQc D bs A S out.2 hz (some (.int out.1))) args s 0 0 A) 0 0 S M hz 19 [(0, .ref (bs + v0)), (1, .int v1), (2, .int v2)] [] := by
  intro n
  induction n with
  | zero => intro M v0 v1 v2 hn_v0 hk_v0 hF; cases hF
  | succ n ih => intro M v0 v1 v2 hn_v0 hk_v0 hF; exact g_Md_line_19_b C hlocks hr hin   ih M v0 v1 v2 hn_v0 hk_v0 hF
def F_Md_line (S : zzS)  (M : zzM) (v0 : Nat) : Option (Int32 × zzM) := zzlet (zzsI M v0 0 (0 : Int32)) fun M => zzlet (zzI M v0 47) fun x1 => if x1 = (-1 : Int32) then (some ((0 : Int32), M)) else (F_Md_line_19 S   2000 M v0 (1 : Int32) (0 : Int32))
set_option maxHeartbeats 4000000 in
set_option maxRecDepth 100000 in
theorem c_Md_line {l : Launch} {D : zzD} {bs : Nat} {A : Nat → Prop} {S : zzS} {M : zzM} {hz : Nat} {out : Int32 × zzM} {v0 : Nat}   (hF : F_Md_line S  M v0 = some out) (hn_v0 : v0 < S.2.1) (hk_v0 : zzk S v0 = 19) : Met l y_Md_line (Cond.code y_Md_line prog_12_method_65_code 3 (some .int) :: zzW) { frames := 0, cells := 0, slots := 0, locals := 0 } (zzPc D bs A S M hz [.ref (bs + v0)]) (zzQc D bs A S out.2 hz (some (.int out.1))) 0 0 A := by
  refine zz_met [.ref (bs + v0)] (by decide) (Nat.le_of_ble_eq_true rfl) (fun p e s m args below meth c C hr hlocks hin hsz => ?_)
  refine zz_eq (lv' := [(0, .ref (bs + v0))]) (st' := []) rfl rfl ?_
  unfold F_Md_line at hF
  refine zi_aload_n C d_Md_line_0 rfl 0 rfl ?_
  refine zi_iconst (v := 0) C d_Md_line_1 (by decide) ?_
  refine zi_putI C zc_9 (k := 0) (by decide) zw_23 rfl (Or.inl rfl) hn_v0 hk_v0 d_Md_line_2 rfl hF (fun M hF => ?_)
  refine zi_aload_n C d_Md_line_5 rfl 0 rfl ?_
  refine zi_getI C zc_9 (k := 47) (by decide) zw_8 rfl hn_v0 hk_v0 d_Md_line_6 (fun _ _ _ => rfl) hF (fun x1 hF => ?_)
  refine zi_iconst (v := -1) C d_Md_line_9 (by decide) ?_
  refine zi_icmp_ne (tgt := 15) C d_Md_line_10 (by decide) hF (fun hF => ?_) (fun hF => ?_)
  · refine zi_iconst (v := 1) C d_Md_line_15 (by decide) ?_
    refine zi_istore_n (lv' := [(1, .int (1 : Int32)), (0, .ref (bs + v0))]) C d_Md_line_16 rfl (by decide) rfl ?_
    refine zi_iconst (v := 0) C d_Md_line_17 (by decide) ?_
    refine zi_istore_n (lv' := [(2, .int (0 : Int32)), (1, .int (1 : Int32)), (0, .ref (bs + v0))]) C d_Md_line_18 rfl (by decide) rfl ?_
    refine zz_sub [2, 1, 0] (lv' := [(0, .ref (bs + v0)), (1, .int (1 : Int32)), (2, .int (0 : Int32))]) rfl ?_
    exact g_Md_line_19 C hlocks hr hin   _ _ v0 (1 : Int32) (0 : Int32) hn_v0 hk_v0 hF
  · refine zi_iconst (v := 0) C d_Md_line_13 (by decide) ?_
    exact zi_iret C hlocks hr d_Md_line_14 (by cases hF; rfl) rfl (by cases hF; rfl) rfl
