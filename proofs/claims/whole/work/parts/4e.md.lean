def F_Md_putBack_12_b (S : zzS)  (k12 : zzM → Nat → Int32 → Int32 → Option (Unit × zzM)) (M : zzM) (v0 : Nat) (v1 : Int32) (v2 : Int32) : Option (Unit × zzM) := if (72 : Int32) ≤ v2 then (zzck (zzokZ (1 : Int32)) (zzlet (zzsI M v0 44 (1 : Int32)) fun M => some ((), M))) else (zzref S 2 (zzR M v0 29) fun b1 => zzref S 2 (zzR M v0 62) fun b2 => zzlet ((72 : Int32) * v1) fun x3 => zzlet (x3 + v2) fun x4 => zzix S b2 x4 (zzlet (zzL M b2 (x4).toNatClampNeg) fun x5 => zzix S b1 v2 (zzlet (zzsL M b1 (v2).toNatClampNeg x5) fun M => zzlet (v2 + (1 : Int32)) fun x6 => k12 M v0 v1 x6)))
def F_Md_putBack_12 (S : zzS)   (n : Nat) : zzM → Nat → Int32 → Int32 → Option (Unit × zzM) := Nat.rec (fun _ _ _ _ => none) (fun _ k => F_Md_putBack_12_b S   k) n
set_option maxHeartbeats 4000000 in
set_option maxRecDepth 100000 in
theorem g_Md_putBack_12_b {p : Program} {l : Launch} {e : Env} {s : State} {m : MethodId} {args : Array Value} {below : List Frame} {meth : Method} {c : Code} {D : zzD} {bs : Nat} {A : Nat → Prop} {S : zzS} {hz : Nat} {out : Unit × zzM}  (C : zzC p s m args c prog_12_method_46_code "BoardScriptModel" 3 D) (hlocks : meth.locks = false) (hr : meth.sig.returnType = none) (hin : meth.name = "putBack")  {k12 : zzM → Nat → Int32 → Int32 → Option (Unit × zzM)} (hk12 : ∀ (M : zzM) (v0 : Nat) (v1 : Int32) (v2 : Int32) (hn_v0 : v0 < S.2.1) (hk_v0 : zzk S v0 = 19), k12 M v0 v1 v2 = some out → zzB p l e { frames := 0, cells := 0, slots := 0, locals := 0 } s m args below meth c 3 D bs A (MQ below (zzQc D bs A S out.2 hz none) args s 0 0 A) 0 0 S M hz 12 [(0, .ref (bs + v0)), (1, .int v1), (2, .int v2)] []) (M : zzM) (v0 : Nat) (v1 : Int32) (v2 : Int32) (hn_v0 : v0 < S.2.1) (hk_v0 : zzk S v0 = 19) (hF : F_Md_putBack_12_b S  k12 M v0 v1 v2 = some out) : zzB p l e { frames := 0, cells := 0, slots := 0, locals := 0 } s m args below meth c 3 D bs A (MQ below (zzQc D bs A S out.2 hz none) args s 0 0 A) 0 0 S M hz 12 [(0, .ref (bs + v0)), (1, .int v1), (2, .int v2)] [] := by
  unfold F_Md_putBack_12_b at hF
  refine zi_iload_n C d_Md_putBack_12 rfl 2 rfl ?_
  refine zi_bipush (v := 72) C d_Md_putBack_13 (by decide) ?_
  refine zi_icmp_ge (tgt := 41) C d_Md_putBack_15 (by decide) hF (fun hF => ?_) (fun hF => ?_)
  · refine zi_aload_n C d_Md_putBack_41 rfl 0 rfl ?_
    refine zi_iconst (v := 1) C d_Md_putBack_42 (by decide) ?_
    refine zi_putZ C zc_9 (k := 44) (by decide) zw_5 rfl (Or.inl rfl) hn_v0 hk_v0 d_Md_putBack_43 rfl hF (fun M hF => ?_)
    exact zi_vret C hlocks hr d_Md_putBack_46 rfl rfl (by cases hF; rfl) rfl
  · refine zi_aload_n C d_Md_putBack_18 rfl 0 rfl ?_
    refine zi_getR C zc_9 (k := 29) (by decide) zw_152 rfl hn_v0 hk_v0 d_Md_putBack_19 (fun _ _ _ => rfl) hF (fun b1 hn_b1 hk_b1 hF => ?_)
    refine zi_iload_n C d_Md_putBack_22 rfl 2 rfl ?_
    refine zi_aload_n C d_Md_putBack_23 rfl 0 rfl ?_
    refine zi_getR C zc_9 (k := 62) (by decide) zw_174 rfl hn_v0 hk_v0 d_Md_putBack_24 (fun _ _ _ => rfl) hF (fun b2 hn_b2 hk_b2 hF => ?_)
    refine zi_bipush (v := 72) C d_Md_putBack_27 (by decide) ?_
    refine zi_iload_n C d_Md_putBack_29 rfl 1 rfl ?_
    refine zi_imul C d_Md_putBack_30 hF (fun x3 hF => ?_)
    refine zi_iload_n C d_Md_putBack_31 rfl 2 rfl ?_
    refine zi_iadd C d_Md_putBack_32 hF (fun x4 hF => ?_)
    refine zi_lald C hn_b2 hk_b2 d_Md_putBack_33 hF (fun x5 hF => ?_)
    refine zi_last C hn_b1 hk_b1 d_Md_putBack_34 hF (fun M hF => ?_)
    refine zi_iinc (j := 2) (v0 := 1) C d_Md_putBack_35 rfl (by decide) (by decide) hF (fun x6 => [(2, .int x6), (0, .ref (bs + v0)), (1, .int v1)]) (fun _ => rfl) (fun x6 hF => ?_)
    refine zi_goto (tgt := 12) C d_Md_putBack_38 (by decide) ?_
    refine zz_sub [1, 2, 0] (lv' := [(0, .ref (bs + v0)), (1, .int v1), (2, .int x6)]) rfl ?_
    exact hk12 _ v0 v1 x6 hn_v0 hk_v0 hF
set_option maxHeartbeats 4000000 in
set_option maxRecDepth 100000 in
theorem g_Md_putBack_12 {p : Program} {l : Launch} {e : Env} {s : State} {m : MethodId} {args : Array Value} {below : List Frame} {meth : Method} {c : Code} {D : zzD} {bs : Nat} {A : Nat → Prop} {S : zzS} {hz : Nat} {out : Unit × zzM}  (C : zzC p s m args c prog_12_method_46_code "BoardScriptModel" 3 D) (hlocks : meth.locks = false) (hr : meth.sig.returnType = none) (hin : meth.name = "putBack")    : ∀ (n : Nat) (M : zzM) (v0 : Nat) (v1 : Int32) (v2 : Int32) (hn_v0 : v0 < S.2.1) (hk_v0 : zzk S v0 = 19) (hF : F_Md_putBack_12 S   n M v0 v1 v2 = some out), zzB p l e { frames := 0, cells := 0, slots := 0, locals := 0 } s m args below meth c 3 D bs A (MQ below (zzQc D bs A S out.2 hz none) args s 0 0 A) 0 0 S M hz 12 [(0, .ref (bs + v0)), (1, .int v1), (2, .int v2)] [] := by
  intro n
  induction n with
  | zero => intro M v0 v1 v2 hn_v0 hk_v0 hF; cases hF
  | succ n ih => intro M v0 v1 v2 hn_v0 hk_v0 hF; exact g_Md_putBack_12_b C hlocks hr hin   ih M v0 v1 v2 hn_v0 hk_v0 hF
def F_Md_putBack (S : zzS)  (M : zzM) (v0 : Nat) (v1 : Int32) : Option (Unit × zzM) := zzref S 1 (zzR M v0 63) fun b1 => zzix S b1 v1 (zzlet (zzI M b1 (v1).toNatClampNeg) fun x2 => zzlet (zzsI M v0 28 x2) fun M => F_Md_putBack_12 S   2000 M v0 v1 (0 : Int32))
set_option maxHeartbeats 4000000 in
set_option maxRecDepth 100000 in
theorem c_Md_putBack {l : Launch} {D : zzD} {bs : Nat} {A : Nat → Prop} {S : zzS} {M : zzM} {hz : Nat} {out : Unit × zzM} {v0 : Nat} {v1 : Int32}   (hF : F_Md_putBack S  M v0 v1 = some out) (hn_v0 : v0 < S.2.1) (hk_v0 : zzk S v0 = 19) : Met l y_Md_putBack (Cond.code y_Md_putBack prog_12_method_46_code 3 none :: zzW) { frames := 0, cells := 0, slots := 0, locals := 0 } (zzPc D bs A S M hz [.ref (bs + v0), .int v1]) (zzQc D bs A S out.2 hz none) 0 0 A := by
  refine zz_met [.ref (bs + v0), .int v1] (by decide) (Nat.le_of_ble_eq_true rfl) (fun p e s m args below meth c C hr hlocks hin hsz => ?_)
  refine zz_eq (lv' := [(0, .ref (bs + v0)), (1, .int v1)]) (st' := []) rfl rfl ?_
  unfold F_Md_putBack at hF
  refine zi_aload_n C d_Md_putBack_0 rfl 0 rfl ?_
  refine zi_aload_n C d_Md_putBack_1 rfl 0 rfl ?_
  refine zi_getR C zc_9 (k := 63) (by decide) zw_173 rfl hn_v0 hk_v0 d_Md_putBack_2 (fun _ _ _ => rfl) hF (fun b1 hn_b1 hk_b1 hF => ?_)
  refine zi_iload_n C d_Md_putBack_5 rfl 1 rfl ?_
  refine zi_iald C hn_b1 hk_b1 d_Md_putBack_6 hF (fun x2 hF => ?_)
  refine zi_putI C zc_9 (k := 28) (by decide) zw_12 rfl (Or.inl rfl) hn_v0 hk_v0 d_Md_putBack_7 rfl hF (fun M hF => ?_)
  refine zi_iconst (v := 0) C d_Md_putBack_10 (by decide) ?_
  refine zi_istore_n (lv' := [(2, .int (0 : Int32)), (0, .ref (bs + v0)), (1, .int v1)]) C d_Md_putBack_11 rfl (by decide) rfl ?_
  refine zz_sub [1, 2, 0] (lv' := [(0, .ref (bs + v0)), (1, .int v1), (2, .int (0 : Int32))]) rfl ?_
  exact g_Md_putBack_12 C hlocks hr hin   _ _ v0 v1 (0 : Int32) hn_v0 hk_v0 hF
def F_Md_raise_55 (S : zzS)  (k3 : zzM → Nat → Int32 → Int32 → Int32 → Option (Unit × zzM)) (M : zzM) (v0 : Nat) (v2 : Int32) (v3 : Int32) (v4 : Int32) (v5 : Int32) : Option (Unit × zzM) := zzref S 1 (zzR M v0 56) fun b1 => zzix S b1 v5 (zzlet (zzI M b1 (v5).toNatClampNeg) fun x2 => if x2 = (9 : Int32) then (zzref S 1 (zzR M v0 56) fun b3 => zzix S b3 v5 (zzlet (zzsI M b3 (v5).toNatClampNeg (10 : Int32)) fun M => zzref S 1 (zzR M v0 59) fun b4 => zzix S b4 v5 (zzlet (zzsI M b4 (v5).toNatClampNeg v4) fun M => zzref S 1 (zzR M v0 60) fun b5 => zzix S b5 v5 (zzlet (zzsI M b5 (v5).toNatClampNeg v2) fun M => zzref S 1 (zzR M v0 61) fun b6 => zzix S b6 v5 (zzlet (zzsI M b6 (v5).toNatClampNeg v3) fun M => zzlet (zzI M v0 55) fun x7 => zzlet (x7 + (1 : Int32)) fun x8 => zzlet (zzsI M v0 55 x8) fun M => zzref S 1 (zzR M v0 58) fun b9 => zzix S b9 v5 (zzlet (zzI M b9 (v5).toNatClampNeg) fun x10 => zzlet (zzsI M v0 52 x10) fun M => some ((), M))))))) else (k3 M v0 v2 v3 v4))
set_option maxHeartbeats 4000000 in
set_option maxRecDepth 100000 in
theorem g_Md_raise_55 {p : Program} {l : Launch} {e : Env} {s : State} {m : MethodId} {args : Array Value} {below : List Frame} {meth : Method} {c : Code} {D : zzD} {bs : Nat} {A : Nat → Prop} {S : zzS} {hz : Nat} {out : Unit × zzM}  (C : zzC p s m args c prog_12_method_45_code "BoardScriptModel" 6 D) (hlocks : meth.locks = false) (hr : meth.sig.returnType = none) (hin : meth.name = "raise")  {k3 : zzM → Nat → Int32 → Int32 → Int32 → Option (Unit × zzM)} (hk3 : ∀ (M : zzM) (v0 : Nat) (v2 : Int32) (v3 : Int32) (v4 : Int32) (hn_v0 : v0 < S.2.1) (hk_v0 : zzk S v0 = 19), k3 M v0 v2 v3 v4 = some out → zzB p l e { frames := 1, cells := 0, slots := 0, locals := 22 } s m args below meth c 6 D bs A (MQ below (zzQc D bs A S out.2 hz none) args s 0 0 A) 0 0 S M hz 3 [(0, .ref (bs + v0)), (2, .int v2), (3, .int v3), (4, .int v4)] []) (M : zzM) (v0 : Nat) (v2 : Int32) (v3 : Int32) (v4 : Int32) (v5 : Int32) (hn_v0 : v0 < S.2.1) (hk_v0 : zzk S v0 = 19) (hF : F_Md_raise_55 S  k3 M v0 v2 v3 v4 v5 = some out) : zzB p l e { frames := 1, cells := 0, slots := 0, locals := 22 } s m args below meth c 6 D bs A (MQ below (zzQc D bs A S out.2 hz none) args s 0 0 A) 0 0 S M hz 55 [(0, .ref (bs + v0)), (2, .int v2), (3, .int v3), (4, .int v4), (5, .int v5)] [] := by
  unfold F_Md_raise_55 at hF
  refine zi_aload_n C d_Md_raise_55 rfl 0 rfl ?_
  refine zi_getR C zc_9 (k := 56) (by decide) zw_180 rfl hn_v0 hk_v0 d_Md_raise_56 (fun _ _ _ => rfl) hF (fun b1 hn_b1 hk_b1 hF => ?_)
  refine zi_iload C d_Md_raise_59 4 rfl ?_
  refine zi_iald C hn_b1 hk_b1 d_Md_raise_61 hF (fun x2 hF => ?_)
  refine zi_bipush (v := 9) C d_Md_raise_62 (by decide) ?_
  refine zi_icmp_eq (tgt := 70) C d_Md_raise_64 (by decide) hF (fun hF => ?_) (fun hF => ?_)
  · refine zi_aload_n C d_Md_raise_70 rfl 0 rfl ?_
    refine zi_getR C zc_9 (k := 56) (by decide) zw_180 rfl hn_v0 hk_v0 d_Md_raise_71 (fun _ _ _ => rfl) hF (fun b3 hn_b3 hk_b3 hF => ?_)
    refine zi_iload C d_Md_raise_74 4 rfl ?_
    refine zi_bipush (v := 10) C d_Md_raise_76 (by decide) ?_
    refine zi_iast C hn_b3 hk_b3 d_Md_raise_78 hF (fun M hF => ?_)
    refine zi_aload_n C d_Md_raise_79 rfl 0 rfl ?_
    refine zi_getR C zc_9 (k := 59) (by decide) zw_185 rfl hn_v0 hk_v0 d_Md_raise_80 (fun _ _ _ => rfl) hF (fun b4 hn_b4 hk_b4 hF => ?_)
    refine zi_iload C d_Md_raise_83 4 rfl ?_
    refine zi_iload C d_Md_raise_85 3 rfl ?_
    refine zi_iast C hn_b4 hk_b4 d_Md_raise_87 hF (fun M hF => ?_)
    refine zi_aload_n C d_Md_raise_88 rfl 0 rfl ?_
    refine zi_getR C zc_9 (k := 60) (by decide) zw_186 rfl hn_v0 hk_v0 d_Md_raise_89 (fun _ _ _ => rfl) hF (fun b5 hn_b5 hk_b5 hF => ?_)
    refine zi_iload C d_Md_raise_92 4 rfl ?_
    refine zi_iload_n C d_Md_raise_94 rfl 1 rfl ?_
    refine zi_iast C hn_b5 hk_b5 d_Md_raise_95 hF (fun M hF => ?_)
    refine zi_aload_n C d_Md_raise_96 rfl 0 rfl ?_
    refine zi_getR C zc_9 (k := 61) (by decide) zw_187 rfl hn_v0 hk_v0 d_Md_raise_97 (fun _ _ _ => rfl) hF (fun b6 hn_b6 hk_b6 hF => ?_)
    refine zi_iload C d_Md_raise_100 4 rfl ?_
    refine zi_iload_n C d_Md_raise_102 rfl 2 rfl ?_
    refine zi_iast C hn_b6 hk_b6 d_Md_raise_103 hF (fun M hF => ?_)
    refine zi_aload_n C d_Md_raise_104 rfl 0 rfl ?_
    refine zi_dup C d_Md_raise_105 rfl ?_
    refine zi_getI C zc_9 (k := 55) (by decide) zw_175 rfl hn_v0 hk_v0 d_Md_raise_106 (fun _ _ _ => rfl) hF (fun x7 hF => ?_)
    refine zi_iconst (v := 1) C d_Md_raise_109 (by decide) ?_
    refine zi_iadd C d_Md_raise_110 hF (fun x8 hF => ?_)
    refine zi_putI C zc_9 (k := 55) (by decide) zw_175 rfl (Or.inl rfl) hn_v0 hk_v0 d_Md_raise_111 rfl hF (fun M hF => ?_)
    refine zi_aload_n C d_Md_raise_114 rfl 0 rfl ?_
    refine zi_aload_n C d_Md_raise_115 rfl 0 rfl ?_
    refine zi_getR C zc_9 (k := 58) (by decide) zw_188 rfl hn_v0 hk_v0 d_Md_raise_116 (fun _ _ _ => rfl) hF (fun b9 hn_b9 hk_b9 hF => ?_)
    refine zi_iload C d_Md_raise_119 4 rfl ?_
    refine zi_iald C hn_b9 hk_b9 d_Md_raise_121 hF (fun x10 hF => ?_)
    refine zi_putI C zc_9 (k := 52) (by decide) zw_189 rfl (Or.inl rfl) hn_v0 hk_v0 d_Md_raise_122 rfl hF (fun M hF => ?_)
    exact zi_vret C hlocks hr d_Md_raise_125 rfl rfl (by cases hF; rfl) rfl
  · refine zi_goto (tgt := 3) C d_Md_raise_67 (by decide) ?_
    refine zz_sub [0, 1, 2, 3] (lv' := [(0, .ref (bs + v0)), (2, .int v2), (3, .int v3), (4, .int v4)]) rfl ?_
    exact hk3 _ v0 v2 v3 v4 hn_v0 hk_v0 hF
def F_Md_raise_3_b (S : zzS)  (k3 : zzM → Nat → Int32 → Int32 → Int32 → Option (Unit × zzM)) (M : zzM) (v0 : Nat) (v2 : Int32) (v3 : Int32) (v4 : Int32) : Option (Unit × zzM) := zzlet (zzI M v0 55) fun x1 => if x1 ≤ 0 then (zzlet (zzsI M v0 46 v4) fun M => zzlet (zzsI M v0 47 v2) fun M => zzlet (zzsI M v0 48 v3) fun M => zzlet (zzsI M v0 50 (1 : Int32)) fun M => zzck (zzokZ (1 : Int32)) (zzlet (zzsI M v0 49 (1 : Int32)) fun M => some ((), M))) else (zzlet (zzI M v0 55) fun x2 => zzlet (x2 - (1 : Int32)) fun x3 => zzlet (zzsI M v0 55 x3) fun M => zzlet (zzI M v0 55) fun x4 => zzref S 1 (zzR M v0 57) fun b5 => zzix S b5 x4 (zzlet (zzI M b5 (x4).toNatClampNeg) fun x6 => zzlet (zzsI M v0 53 x6) fun M => zzref S 1 (zzR M v0 56) fun b7 => zzix S b7 x4 (zzlet (zzI M b7 (x4).toNatClampNeg) fun x8 => if x8 = (7 : Int32) then (zzcall (F_Md_putBack S M v0 x4) fun r9 M => F_Md_raise_55 S  k3 M v0 v2 v3 v4 x4) else (F_Md_raise_55 S  k3 M v0 v2 v3 v4 x4))))
def F_Md_raise_3 (S : zzS)   (n : Nat) : zzM → Nat → Int32 → Int32 → Int32 → Option (Unit × zzM) := Nat.rec (fun _ _ _ _ _ => none) (fun _ k => F_Md_raise_3_b S   k) n
set_option maxHeartbeats 4000000 in
set_option maxRecDepth 100000 in
theorem g_Md_raise_3_b {p : Program} {l : Launch} {e : Env} {s : State} {m : MethodId} {args : Array Value} {below : List Frame} {meth : Method} {c : Code} {D : zzD} {bs : Nat} {A : Nat → Prop} {S : zzS} {hz : Nat} {out : Unit × zzM}  (C : zzC p s m args c prog_12_method_45_code "BoardScriptModel" 6 D) (hlocks : meth.locks = false) (hr : meth.sig.returnType = none) (hin : meth.name = "raise")  {k3 : zzM → Nat → Int32 → Int32 → Int32 → Option (Unit × zzM)} (hk3 : ∀ (M : zzM) (v0 : Nat) (v2 : Int32) (v3 : Int32) (v4 : Int32) (hn_v0 : v0 < S.2.1) (hk_v0 : zzk S v0 = 19), k3 M v0 v2 v3 v4 = some out → zzB p l e { frames := 1, cells := 0, slots := 0, locals := 22 } s m args below meth c 6 D bs A (MQ below (zzQc D bs A S out.2 hz none) args s 0 0 A) 0 0 S M hz 3 [(0, .ref (bs + v0)), (2, .int v2), (3, .int v3), (4, .int v4)] []) (M : zzM) (v0 : Nat) (v2 : Int32) (v3 : Int32) (v4 : Int32) (hn_v0 : v0 < S.2.1) (hk_v0 : zzk S v0 = 19) (hF : F_Md_raise_3_b S  k3 M v0 v2 v3 v4 = some out) : zzB p l e { frames := 1, cells := 0, slots := 0, locals := 22 } s m args below meth c 6 D bs A (MQ below (zzQc D bs A S out.2 hz none) args s 0 0 A) 0 0 S M hz 3 [(0, .ref (bs + v0)), (2, .int v2), (3, .int v3), (4, .int v4)] [] := by
  unfold F_Md_raise_3_b at hF
  refine zi_aload_n C d_Md_raise_3 rfl 0 rfl ?_
  refine zi_getI C zc_9 (k := 55) (by decide) zw_175 rfl hn_v0 hk_v0 d_Md_raise_4 (fun _ _ _ => rfl) hF (fun x1 hF => ?_)
  refine zi_if_le (tgt := 126) C d_Md_raise_7 (by decide) hF (fun hF => ?_) (fun hF => ?_)
  · refine zi_aload_n C d_Md_raise_126 rfl 0 rfl ?_
    refine zi_iload C d_Md_raise_127 3 rfl ?_
    refine zi_putI C zc_9 (k := 46) (by decide) zw_7 rfl (Or.inl rfl) hn_v0 hk_v0 d_Md_raise_129 rfl hF (fun M hF => ?_)
    refine zi_aload_n C d_Md_raise_132 rfl 0 rfl ?_
    refine zi_iload_n C d_Md_raise_133 rfl 1 rfl ?_
    refine zi_putI C zc_9 (k := 47) (by decide) zw_8 rfl (Or.inl rfl) hn_v0 hk_v0 d_Md_raise_134 rfl hF (fun M hF => ?_)
    refine zi_aload_n C d_Md_raise_137 rfl 0 rfl ?_
    refine zi_iload_n C d_Md_raise_138 rfl 2 rfl ?_
    refine zi_putI C zc_9 (k := 48) (by decide) zw_9 rfl (Or.inl rfl) hn_v0 hk_v0 d_Md_raise_139 rfl hF (fun M hF => ?_)
    refine zi_aload_n C d_Md_raise_142 rfl 0 rfl ?_
    refine zi_iconst (v := 1) C d_Md_raise_143 (by decide) ?_
    refine zi_putI C zc_9 (k := 50) (by decide) zw_176 rfl (Or.inl rfl) hn_v0 hk_v0 d_Md_raise_144 rfl hF (fun M hF => ?_)
    refine zi_aload_n C d_Md_raise_147 rfl 0 rfl ?_
    refine zi_iconst (v := 1) C d_Md_raise_148 (by decide) ?_
    refine zi_putZ C zc_9 (k := 49) (by decide) zw_177 rfl (Or.inl rfl) hn_v0 hk_v0 d_Md_raise_149 rfl hF (fun M hF => ?_)
    exact zi_vret C hlocks hr d_Md_raise_152 rfl rfl (by cases hF; rfl) rfl
  · refine zi_aload_n C d_Md_raise_10 rfl 0 rfl ?_
    refine zi_dup C d_Md_raise_11 rfl ?_
    refine zi_getI C zc_9 (k := 55) (by decide) zw_175 rfl hn_v0 hk_v0 d_Md_raise_12 (fun _ _ _ => rfl) hF (fun x2 hF => ?_)
    refine zi_iconst (v := 1) C d_Md_raise_15 (by decide) ?_
    refine zi_isub C d_Md_raise_16 hF (fun x3 hF => ?_)
    refine zi_putI C zc_9 (k := 55) (by decide) zw_175 rfl (Or.inl rfl) hn_v0 hk_v0 d_Md_raise_17 rfl hF (fun M hF => ?_)
    refine zi_aload_n C d_Md_raise_20 rfl 0 rfl ?_
    refine zi_getI C zc_9 (k := 55) (by decide) zw_175 rfl hn_v0 hk_v0 d_Md_raise_21 (fun _ _ _ => rfl) hF (fun x4 hF => ?_)
    refine zi_istore (lv' := [(5, .int x4), (0, .ref (bs + v0)), (2, .int v2), (3, .int v3), (4, .int v4)]) C d_Md_raise_24 (by decide) rfl ?_
    refine zi_aload_n C d_Md_raise_26 rfl 1 rfl ?_
    refine zi_aload_n C d_Md_raise_27 rfl 1 rfl ?_
    refine zi_getR C zc_9 (k := 57) (by decide) zw_178 rfl hn_v0 hk_v0 d_Md_raise_28 (fun _ _ _ => rfl) hF (fun b5 hn_b5 hk_b5 hF => ?_)
    refine zi_iload C d_Md_raise_31 0 rfl ?_
    refine zi_iald C hn_b5 hk_b5 d_Md_raise_33 hF (fun x6 hF => ?_)
    refine zi_putI C zc_9 (k := 53) (by decide) zw_179 rfl (Or.inl rfl) hn_v0 hk_v0 d_Md_raise_34 rfl hF (fun M hF => ?_)
    refine zi_aload_n C d_Md_raise_37 rfl 1 rfl ?_
    refine zi_getR C zc_9 (k := 56) (by decide) zw_180 rfl hn_v0 hk_v0 d_Md_raise_38 (fun _ _ _ => rfl) hF (fun b7 hn_b7 hk_b7 hF => ?_)
    refine zi_iload C d_Md_raise_41 0 rfl ?_
    refine zi_iald C hn_b7 hk_b7 d_Md_raise_43 hF (fun x8 hF => ?_)
    refine zi_bipush (v := 7) C d_Md_raise_44 (by decide) ?_
    refine zi_icmp_ne (tgt := 55) C d_Md_raise_46 (by decide) hF (fun hF => ?_) (fun hF => ?_)
    · refine zz_sub [1, 2, 3, 4, 0] (lv' := [(0, .ref (bs + v0)), (2, .int v2), (3, .int v3), (4, .int v4), (5, .int x4)]) rfl ?_
      exact g_Md_raise_55 C hlocks hr hin  hk3 _ v0 v2 v3 v4 x4 hn_v0 hk_v0 hF
    · refine zi_aload_n C d_Md_raise_49 rfl 1 rfl ?_
      refine zi_iload C d_Md_raise_50 0 rfl ?_
      obtain ⟨r9, M, hqr9, hF⟩ := zzcall_e hF
      refine zi_callV_v (M2 := M) (n := 1) (As := [.int x4]) (st := []) C (c_Md_putBack hqr9 hn_v0 hk_v0) zw_181 zw_18 (by decide +kernel) ⟨Nat.le_of_ble_eq_true rfl, Nat.le_of_ble_eq_true rfl⟩ rfl (Nat.le_of_ble_eq_true rfl) ⟨Nat.le_of_ble_eq_true rfl, Nat.le_of_ble_eq_true rfl⟩ zw_182 zw_183 zw_184 zc_9.1 hn_v0 hk_v0 rfl d_Md_raise_52 ?_
      refine zz_sub [1, 2, 3, 4, 0] (lv' := [(0, .ref (bs + v0)), (2, .int v2), (3, .int v3), (4, .int v4), (5, .int x4)]) rfl ?_
      exact g_Md_raise_55 C hlocks hr hin  hk3 _ v0 v2 v3 v4 x4 hn_v0 hk_v0 hF
set_option maxHeartbeats 4000000 in
set_option maxRecDepth 100000 in
theorem g_Md_raise_3 {p : Program} {l : Launch} {e : Env} {s : State} {m : MethodId} {args : Array Value} {below : List Frame} {meth : Method} {c : Code} {D : zzD} {bs : Nat} {A : Nat → Prop} {S : zzS} {hz : Nat} {out : Unit × zzM}  (C : zzC p s m args c prog_12_method_45_code "BoardScriptModel" 6 D) (hlocks : meth.locks = false) (hr : meth.sig.returnType = none) (hin : meth.name = "raise")    : ∀ (n : Nat) (M : zzM) (v0 : Nat) (v2 : Int32) (v3 : Int32) (v4 : Int32) (hn_v0 : v0 < S.2.1) (hk_v0 : zzk S v0 = 19) (hF : F_Md_raise_3 S   n M v0 v2 v3 v4 = some out), zzB p l e { frames := 1, cells := 0, slots := 0, locals := 22 } s m args below meth c 6 D bs A (MQ below (zzQc D bs A S out.2 hz none) args s 0 0 A) 0 0 S M hz 3 [(0, .ref (bs + v0)), (2, .int v2), (3, .int v3), (4, .int v4)] [] := by
  intro n
  induction n with
  | zero => intro M v0 v2 v3 v4 hn_v0 hk_v0 hF; cases hF
  | succ n ih => intro M v0 v2 v3 v4 hn_v0 hk_v0 hF; exact g_Md_raise_3_b C hlocks hr hin   ih M v0 v2 v3 v4 hn_v0 hk_v0 hF
def F_Md_raise (S : zzS)  (M : zzM) (v0 : Nat) (v1 : Int32) (v2 : Int32) (v3 : Int32) : Option (Unit × zzM) := F_Md_raise_3 S   2000 M v0 v2 v3 v1
set_option maxHeartbeats 4000000 in
set_option maxRecDepth 100000 in
theorem c_Md_raise {l : Launch} {D : zzD} {bs : Nat} {A : Nat → Prop} {S : zzS} {M : zzM} {hz : Nat} {out : Unit × zzM} {v0 : Nat} {v1 : Int32} {v2 : Int32} {v3 : Int32}   (hF : F_Md_raise S  M v0 v1 v2 v3 = some out) (hn_v0 : v0 < S.2.1) (hk_v0 : zzk S v0 = 19) : Met l y_Md_raise (Cond.code y_Md_raise prog_12_method_45_code 6 none :: zzW) { frames := 1, cells := 0, slots := 0, locals := 22 } (zzPc D bs A S M hz [.ref (bs + v0), .int v1, .int v2, .int v3]) (zzQc D bs A S out.2 hz none) 0 0 A := by
  refine zz_met [.ref (bs + v0), .int v1, .int v2, .int v3] (by decide) (Nat.le_of_ble_eq_true rfl) (fun p e s m args below meth c C hr hlocks hin hsz => ?_)
  refine zz_eq (lv' := [(0, .ref (bs + v0)), (1, .int v1), (2, .int v2), (3, .int v3)]) (st' := []) rfl rfl ?_
  unfold F_Md_raise at hF
  refine zi_iload_n C d_Md_raise_0 rfl 1 rfl ?_
  refine zi_istore (lv' := [(4, .int v1), (0, .ref (bs + v0)), (1, .int v1), (2, .int v2), (3, .int v3)]) C d_Md_raise_1 (by decide) rfl ?_
  refine zz_sub [1, 3, 4, 0] (lv' := [(0, .ref (bs + v0)), (2, .int v2), (3, .int v3), (4, .int v1)]) rfl ?_
  exact g_Md_raise_3 C hlocks hr hin   _ _ v0 v2 v3 v1 hn_v0 hk_v0 hF
def F_Md_handle_49_b (S : zzS)  (k49 : zzM → Nat → Int32 → Int32 → Int32 → Option (Unit × zzM)) (M : zzM) (v0 : Nat) (v1 : Int32) (v3 : Int32) (v4 : Int32) : Option (Unit × zzM) := if (72 : Int32) ≤ v4 then (zzlet (zzI M v0 55) fun x1 => zzlet (x1 + (1 : Int32)) fun x2 => zzlet (zzsI M v0 55 x2) fun M => some ((), M)) else (if v1 = (7 : Int32) then (zzref S 2 (zzR M v0 62) fun b5 => zzlet ((72 : Int32) * v3) fun x6 => zzlet (x6 + v4) fun x7 => zzref S 2 (zzR M v0 29) fun b8 => zzix S b8 v4 (zzlet (zzL M b8 (v4).toNatClampNeg) fun x9 => zzix S b5 x7 (zzlet (zzsL M b5 (x7).toNatClampNeg x9) fun M => zzlet (v4 + (1 : Int32)) fun x10 => k49 M v0 v1 v3 x10))) else (zzlet (zzI M v0 55) fun x3 => zzlet (x3 + (1 : Int32)) fun x4 => zzlet (zzsI M v0 55 x4) fun M => some ((), M)))
def F_Md_handle_49 (S : zzS)   (n : Nat) : zzM → Nat → Int32 → Int32 → Int32 → Option (Unit × zzM) := Nat.rec (fun _ _ _ _ _ => none) (fun _ k => F_Md_handle_49_b S   k) n
set_option maxHeartbeats 4000000 in
set_option maxRecDepth 100000 in
theorem g_Md_handle_49_b {p : Program} {l : Launch} {e : Env} {s : State} {m : MethodId} {args : Array Value} {below : List Frame} {meth : Method} {c : Code} {D : zzD} {bs : Nat} {A : Nat → Prop} {S : zzS} {hz : Nat} {out : Unit × zzM}  (C : zzC p s m args c prog_12_method_47_code "BoardScriptModel" 5 D) (hlocks : meth.locks = false) (hr : meth.sig.returnType = none) (hin : meth.name = "handle")  {k49 : zzM → Nat → Int32 → Int32 → Int32 → Option (Unit × zzM)} (hk49 : ∀ (M : zzM) (v0 : Nat) (v1 : Int32) (v3 : Int32) (v4 : Int32) (hn_v0 : v0 < S.2.1) (hk_v0 : zzk S v0 = 19), k49 M v0 v1 v3 v4 = some out → zzB p l e { frames := 0, cells := 0, slots := 0, locals := 0 } s m args below meth c 5 D bs A (MQ below (zzQc D bs A S out.2 hz none) args s 0 0 A) 0 0 S M hz 49 [(0, .ref (bs + v0)), (1, .int v1), (3, .int v3), (4, .int v4)] []) (M : zzM) (v0 : Nat) (v1 : Int32) (v3 : Int32) (v4 : Int32) (hn_v0 : v0 < S.2.1) (hk_v0 : zzk S v0 = 19) (hF : F_Md_handle_49_b S  k49 M v0 v1 v3 v4 = some out) : zzB p l e { frames := 0, cells := 0, slots := 0, locals := 0 } s m args below meth c 5 D bs A (MQ below (zzQc D bs A S out.2 hz none) args s 0 0 A) 0 0 S M hz 49 [(0, .ref (bs + v0)), (1, .int v1), (3, .int v3), (4, .int v4)] [] := by
  unfold F_Md_handle_49_b at hF
  refine zi_iload C d_Md_handle_49 3 rfl ?_
  refine zi_bipush (v := 72) C d_Md_handle_51 (by decide) ?_
  refine zi_icmp_ge (tgt := 87) C d_Md_handle_53 (by decide) hF (fun hF => ?_) (fun hF => ?_)
  · refine zi_aload_n C d_Md_handle_87 rfl 0 rfl ?_
    refine zi_dup C d_Md_handle_88 rfl ?_
    refine zi_getI C zc_9 (k := 55) (by decide) zw_175 rfl hn_v0 hk_v0 d_Md_handle_89 (fun _ _ _ => rfl) hF (fun x1 hF => ?_)
    refine zi_iconst (v := 1) C d_Md_handle_92 (by decide) ?_
    refine zi_iadd C d_Md_handle_93 hF (fun x2 hF => ?_)
    refine zi_putI C zc_9 (k := 55) (by decide) zw_175 rfl (Or.inl rfl) hn_v0 hk_v0 d_Md_handle_94 rfl hF (fun M hF => ?_)
    exact zi_vret C hlocks hr d_Md_handle_97 rfl rfl (by cases hF; rfl) rfl
  · refine zi_iload_n C d_Md_handle_56 rfl 1 rfl ?_
    refine zi_bipush (v := 7) C d_Md_handle_57 (by decide) ?_
    refine zi_icmp_ne (tgt := 87) C d_Md_handle_59 (by decide) hF (fun hF => ?_) (fun hF => ?_)
    · refine zi_aload_n C d_Md_handle_87 rfl 0 rfl ?_
      refine zi_dup C d_Md_handle_88 rfl ?_
      refine zi_getI C zc_9 (k := 55) (by decide) zw_175 rfl hn_v0 hk_v0 d_Md_handle_89 (fun _ _ _ => rfl) hF (fun x3 hF => ?_)
      refine zi_iconst (v := 1) C d_Md_handle_92 (by decide) ?_
      refine zi_iadd C d_Md_handle_93 hF (fun x4 hF => ?_)
      refine zi_putI C zc_9 (k := 55) (by decide) zw_175 rfl (Or.inl rfl) hn_v0 hk_v0 d_Md_handle_94 rfl hF (fun M hF => ?_)
      exact zi_vret C hlocks hr d_Md_handle_97 rfl rfl (by cases hF; rfl) rfl
    · refine zi_aload_n C d_Md_handle_62 rfl 0 rfl ?_
      refine zi_getR C zc_9 (k := 62) (by decide) zw_174 rfl hn_v0 hk_v0 d_Md_handle_63 (fun _ _ _ => rfl) hF (fun b5 hn_b5 hk_b5 hF => ?_)
      refine zi_bipush (v := 72) C d_Md_handle_66 (by decide) ?_
      refine zi_iload_n C d_Md_handle_68 rfl 2 rfl ?_
      refine zi_imul C d_Md_handle_69 hF (fun x6 hF => ?_)
      refine zi_iload C d_Md_handle_70 3 rfl ?_
      refine zi_iadd C d_Md_handle_72 hF (fun x7 hF => ?_)
      refine zi_aload_n C d_Md_handle_73 rfl 0 rfl ?_
      refine zi_getR C zc_9 (k := 29) (by decide) zw_152 rfl hn_v0 hk_v0 d_Md_handle_74 (fun _ _ _ => rfl) hF (fun b8 hn_b8 hk_b8 hF => ?_)
      refine zi_iload C d_Md_handle_77 3 rfl ?_
      refine zi_lald C hn_b8 hk_b8 d_Md_handle_79 hF (fun x9 hF => ?_)
      refine zi_last C hn_b5 hk_b5 d_Md_handle_80 hF (fun M hF => ?_)
      refine zi_iinc (j := 3) (v0 := 1) C d_Md_handle_81 rfl (by decide) (by decide) hF (fun x10 => [(4, .int x10), (0, .ref (bs + v0)), (1, .int v1), (3, .int v3)]) (fun _ => rfl) (fun x10 hF => ?_)
      refine zi_goto (tgt := 49) C d_Md_handle_84 (by decide) ?_
      refine zz_sub [1, 2, 3, 0] (lv' := [(0, .ref (bs + v0)), (1, .int v1), (3, .int v3), (4, .int x10)]) rfl ?_
      exact hk49 _ v0 v1 v3 x10 hn_v0 hk_v0 hF
set_option maxHeartbeats 4000000 in
set_option maxRecDepth 100000 in
theorem g_Md_handle_49 {p : Program} {l : Launch} {e : Env} {s : State} {m : MethodId} {args : Array Value} {below : List Frame} {meth : Method} {c : Code} {D : zzD} {bs : Nat} {A : Nat → Prop} {S : zzS} {hz : Nat} {out : Unit × zzM}  (C : zzC p s m args c prog_12_method_47_code "BoardScriptModel" 5 D) (hlocks : meth.locks = false) (hr : meth.sig.returnType = none) (hin : meth.name = "handle")    : ∀ (n : Nat) (M : zzM) (v0 : Nat) (v1 : Int32) (v3 : Int32) (v4 : Int32) (hn_v0 : v0 < S.2.1) (hk_v0 : zzk S v0 = 19) (hF : F_Md_handle_49 S   n M v0 v1 v3 v4 = some out), zzB p l e { frames := 0, cells := 0, slots := 0, locals := 0 } s m args below meth c 5 D bs A (MQ below (zzQc D bs A S out.2 hz none) args s 0 0 A) 0 0 S M hz 49 [(0, .ref (bs + v0)), (1, .int v1), (3, .int v3), (4, .int v4)] [] := by
  intro n
  induction n with
  | zero => intro M v0 v1 v3 v4 hn_v0 hk_v0 hF; cases hF
  | succ n ih => intro M v0 v1 v3 v4 hn_v0 hk_v0 hF; exact g_Md_handle_49_b C hlocks hr hin   ih M v0 v1 v3 v4 hn_v0 hk_v0 hF
def F_Md_handle (S : zzS)  (M : zzM) (v0 : Nat) (v1 : Int32) (v2 : Int32) : Option (Unit × zzM) := zzlet (zzI M v0 55) fun x1 => zzref S 1 (zzR M v0 56) fun b2 => zzix S b2 x1 (zzlet (zzsI M b2 (x1).toNatClampNeg v1) fun M => zzref S 1 (zzR M v0 57) fun b3 => zzlet (zzI M v0 53) fun x4 => zzix S b3 x1 (zzlet (zzsI M b3 (x1).toNatClampNeg x4) fun M => zzref S 1 (zzR M v0 58) fun b5 => zzix S b5 x1 (zzlet (zzsI M b5 (x1).toNatClampNeg v2) fun M => zzref S 1 (zzR M v0 59) fun b6 => zzix S b6 x1 (zzlet (zzsI M b6 (x1).toNatClampNeg (0 : Int32)) fun M => zzref S 1 (zzR M v0 63) fun b7 => zzlet (zzI M v0 28) fun x8 => zzix S b7 x1 (zzlet (zzsI M b7 (x1).toNatClampNeg x8) fun M => F_Md_handle_49 S   2000 M v0 v1 x1 (0 : Int32))))))
set_option maxHeartbeats 4000000 in
set_option maxRecDepth 100000 in
theorem c_Md_handle {l : Launch} {D : zzD} {bs : Nat} {A : Nat → Prop} {S : zzS} {M : zzM} {hz : Nat} {out : Unit × zzM} {v0 : Nat} {v1 : Int32} {v2 : Int32}   (hF : F_Md_handle S  M v0 v1 v2 = some out) (hn_v0 : v0 < S.2.1) (hk_v0 : zzk S v0 = 19) : Met l y_Md_handle (Cond.code y_Md_handle prog_12_method_47_code 5 none :: zzW) { frames := 0, cells := 0, slots := 0, locals := 0 } (zzPc D bs A S M hz [.ref (bs + v0), .int v1, .int v2]) (zzQc D bs A S out.2 hz none) 0 0 A := by
  refine zz_met [.ref (bs + v0), .int v1, .int v2] (by decide) (Nat.le_of_ble_eq_true rfl) (fun p e s m args below meth c C hr hlocks hin hsz => ?_)
  refine zz_eq (lv' := [(0, .ref (bs + v0)), (1, .int v1), (2, .int v2)]) (st' := []) rfl rfl ?_
  unfold F_Md_handle at hF
  refine zi_aload_n C d_Md_handle_0 rfl 0 rfl ?_
  refine zi_getI C zc_9 (k := 55) (by decide) zw_175 rfl hn_v0 hk_v0 d_Md_handle_1 (fun _ _ _ => rfl) hF (fun x1 hF => ?_)
  refine zi_istore_n (lv' := [(3, .int x1), (0, .ref (bs + v0)), (1, .int v1), (2, .int v2)]) C d_Md_handle_4 rfl (by decide) rfl ?_
  refine zi_aload_n C d_Md_handle_5 rfl 1 rfl ?_
  refine zi_getR C zc_9 (k := 56) (by decide) zw_180 rfl hn_v0 hk_v0 d_Md_handle_6 (fun _ _ _ => rfl) hF (fun b2 hn_b2 hk_b2 hF => ?_)
  refine zi_iload_n C d_Md_handle_9 rfl 0 rfl ?_
  refine zi_iload_n C d_Md_handle_10 rfl 2 rfl ?_
  refine zi_iast C hn_b2 hk_b2 d_Md_handle_11 hF (fun M hF => ?_)
  refine zi_aload_n C d_Md_handle_12 rfl 1 rfl ?_
  refine zi_getR C zc_9 (k := 57) (by decide) zw_178 rfl hn_v0 hk_v0 d_Md_handle_13 (fun _ _ _ => rfl) hF (fun b3 hn_b3 hk_b3 hF => ?_)
  refine zi_iload_n C d_Md_handle_16 rfl 0 rfl ?_
  refine zi_aload_n C d_Md_handle_17 rfl 1 rfl ?_
  refine zi_getI C zc_9 (k := 53) (by decide) zw_179 rfl hn_v0 hk_v0 d_Md_handle_18 (fun _ _ _ => rfl) hF (fun x4 hF => ?_)
  refine zi_iast C hn_b3 hk_b3 d_Md_handle_21 hF (fun M hF => ?_)
  refine zi_aload_n C d_Md_handle_22 rfl 1 rfl ?_
  refine zi_getR C zc_9 (k := 58) (by decide) zw_188 rfl hn_v0 hk_v0 d_Md_handle_23 (fun _ _ _ => rfl) hF (fun b5 hn_b5 hk_b5 hF => ?_)
  refine zi_iload_n C d_Md_handle_26 rfl 0 rfl ?_
  refine zi_iload_n C d_Md_handle_27 rfl 3 rfl ?_
  refine zi_iast C hn_b5 hk_b5 d_Md_handle_28 hF (fun M hF => ?_)
  refine zi_aload_n C d_Md_handle_29 rfl 1 rfl ?_
  refine zi_getR C zc_9 (k := 59) (by decide) zw_185 rfl hn_v0 hk_v0 d_Md_handle_30 (fun _ _ _ => rfl) hF (fun b6 hn_b6 hk_b6 hF => ?_)
  refine zi_iload_n C d_Md_handle_33 rfl 0 rfl ?_
  refine zi_iconst (v := 0) C d_Md_handle_34 (by decide) ?_
  refine zi_iast C hn_b6 hk_b6 d_Md_handle_35 hF (fun M hF => ?_)
  refine zi_aload_n C d_Md_handle_36 rfl 1 rfl ?_
  refine zi_getR C zc_9 (k := 63) (by decide) zw_173 rfl hn_v0 hk_v0 d_Md_handle_37 (fun _ _ _ => rfl) hF (fun b7 hn_b7 hk_b7 hF => ?_)
  refine zi_iload_n C d_Md_handle_40 rfl 0 rfl ?_
  refine zi_aload_n C d_Md_handle_41 rfl 1 rfl ?_
  refine zi_getI C zc_9 (k := 28) (by decide) zw_12 rfl hn_v0 hk_v0 d_Md_handle_42 (fun _ _ _ => rfl) hF (fun x8 hF => ?_)
  refine zi_iast C hn_b7 hk_b7 d_Md_handle_45 hF (fun M hF => ?_)
  refine zi_iconst (v := 0) C d_Md_handle_46 (by decide) ?_
  refine zi_istore (lv' := [(4, .int (0 : Int32)), (3, .int x1), (0, .ref (bs + v0)), (1, .int v1), (2, .int v2)]) C d_Md_handle_47 (by decide) rfl ?_
  refine zz_sub [2, 3, 1, 0] (lv' := [(0, .ref (bs + v0)), (1, .int v1), (3, .int x1), (4, .int (0 : Int32))]) rfl ?_
  exact g_Md_handle_49 C hlocks hr hin   _ _ v0 v1 x1 (0 : Int32) hn_v0 hk_v0 hF
def F_Md_step (S : zzS)  (M : zzM) (v0 : Nat) (v1 : Int32) : Option (Int32 × zzM) := zzlet (zzL M v0 35) fun x1 => zzlet (zzL M v0 34) fun x2 => zzlet (lg_cmp x1 x2) fun x3 => if x3 = 0 then (zzlet (zzsI M v0 50 (2 : Int32)) fun M => zzck (zzokZ (1 : Int32)) (zzlet (zzsI M v0 49 (1 : Int32)) fun M => some ((0 : Int32), M))) else (zzlet (zzL M v0 35) fun x4 => zzlet (x4 + (1 : Int64)) fun x5 => zzlet (zzsL M v0 35 x5) fun M => zzlet (zzsI M v0 51 v1) fun M => some ((1 : Int32), M))
set_option maxHeartbeats 4000000 in
set_option maxRecDepth 100000 in
theorem c_Md_step {l : Launch} {D : zzD} {bs : Nat} {A : Nat → Prop} {S : zzS} {M : zzM} {hz : Nat} {out : Int32 × zzM} {v0 : Nat} {v1 : Int32}   (hF : F_Md_step S  M v0 v1 = some out) (hn_v0 : v0 < S.2.1) (hk_v0 : zzk S v0 = 19) : Met l y_Md_step (Cond.code y_Md_step prog_12_method_48_code 2 (some .boolean) :: zzW) { frames := 0, cells := 0, slots := 0, locals := 0 } (zzPc D bs A S M hz [.ref (bs + v0), .int v1]) (zzQc D bs A S out.2 hz (some (.int out.1))) 0 0 A := by
  refine zz_met [.ref (bs + v0), .int v1] (by decide) (Nat.le_of_ble_eq_true rfl) (fun p e s m args below meth c C hr hlocks hin hsz => ?_)
  refine zz_eq (lv' := [(0, .ref (bs + v0)), (1, .int v1)]) (st' := []) rfl rfl ?_
  unfold F_Md_step at hF
  refine zi_aload_n C d_Md_step_0 rfl 0 rfl ?_
  refine zi_getL C zc_9 (k := 35) (by decide) zw_0 rfl hn_v0 hk_v0 d_Md_step_1 (fun _ _ _ => rfl) hF (fun x1 hF => ?_)
  refine zi_aload_n C d_Md_step_4 rfl 0 rfl ?_
  refine zi_getL C zc_9 (k := 34) (by decide) zw_190 rfl hn_v0 hk_v0 d_Md_step_5 (fun _ _ _ => rfl) hF (fun x2 hF => ?_)
  refine zi_lcmp C d_Md_step_8 hF (fun x3 hF => ?_)
  refine zi_if_ne (tgt := 24) C d_Md_step_9 (by decide) hF (fun hF => ?_) (fun hF => ?_)
  · refine zi_aload_n C d_Md_step_24 rfl 0 rfl ?_
    refine zi_dup C d_Md_step_25 rfl ?_
    refine zi_getL C zc_9 (k := 35) (by decide) zw_0 rfl hn_v0 hk_v0 d_Md_step_26 (fun _ _ _ => rfl) hF (fun x4 hF => ?_)
    refine zi_lconst (v := 1) C d_Md_step_29 (by decide) ?_
    refine zi_ladd C d_Md_step_30 hF (fun x5 hF => ?_)
    refine zi_putL C zc_9 (k := 35) (by decide) zw_0 rfl (Or.inl rfl) hn_v0 hk_v0 d_Md_step_31 rfl hF (fun M hF => ?_)
    refine zi_aload_n C d_Md_step_34 rfl 0 rfl ?_
    refine zi_iload_n C d_Md_step_35 rfl 1 rfl ?_
    refine zi_putI C zc_9 (k := 51) (by decide) zw_191 rfl (Or.inl rfl) hn_v0 hk_v0 d_Md_step_36 rfl hF (fun M hF => ?_)
    refine zi_iconst (v := 1) C d_Md_step_39 (by decide) ?_
    exact zi_zret C hlocks hr (by decide +kernel) d_Md_step_40 (by cases hF; rfl) rfl (by cases hF; rfl) rfl
  · refine zi_aload_n C d_Md_step_12 rfl 0 rfl ?_
    refine zi_iconst (v := 2) C d_Md_step_13 (by decide) ?_
    refine zi_putI C zc_9 (k := 50) (by decide) zw_176 rfl (Or.inl rfl) hn_v0 hk_v0 d_Md_step_14 rfl hF (fun M hF => ?_)
    refine zi_aload_n C d_Md_step_17 rfl 0 rfl ?_
    refine zi_iconst (v := 1) C d_Md_step_18 (by decide) ?_
    refine zi_putZ C zc_9 (k := 49) (by decide) zw_177 rfl (Or.inl rfl) hn_v0 hk_v0 d_Md_step_19 rfl hF (fun M hF => ?_)
    refine zi_iconst (v := 0) C d_Md_step_22 (by decide) ?_
    exact zi_zret C hlocks hr (by decide +kernel) d_Md_step_23 (by cases hF; rfl) rfl (by cases hF; rfl) rfl
def F_Md_store_104 (S : zzS)   (M : zzM) (v0 : Nat) (v1 : Int32) (v2 : Int32) (v3 : Int32) (v4 : Int64) (w0 : Int32) : Option (Unit × zzM) := if v3 = 0 then (zzlet (zzI M v0 66) fun x19 => zzlet (zzI M v0 51) fun x20 => zzcall (F_Md_raise S M v0 x19 x20 (0 : Int32)) fun r21 M => some ((), M)) else (if w0 = 0 then (zzlet (zzI M v0 51) fun x17 => zzcall (F_Md_raise S M v0 (2 : Int32) x17 (0 : Int32)) fun r18 M => some ((), M)) else (zzref S 1 (zzR M v0 10) fun b1 => zzix S b1 v2 (zzlet (zzI M b1 (v2).toNatClampNeg) fun x2 => zzcall (F_Md_ask S M v0 x2) fun r3 M => if r3 = 0 then (zzlet (zzI M v0 66) fun x14 => zzlet (zzI M v0 51) fun x15 => zzcall (F_Md_raise S M v0 x14 x15 (0 : Int32)) fun r16 M => some ((), M)) else (if v1 = (2 : Int32) then (zzref S 2 (zzR M v0 29) fun b7 => zzlet ((v4).toInt32) fun x8 => zzlet ((6 : Int32) * x8) fun x9 => zzref S 1 (zzR M v0 8) fun b10 => zzix S b10 v2 (zzlet (zzI M b10 (v2).toNatClampNeg) fun x11 => zzlet (x9 + x11) fun x12 => zzlet (zzL M v0 65) fun x13 => zzix S b7 x12 (zzlet (zzsL M b7 (x12).toNatClampNeg x13) fun M => some ((), M)))) else (zzref S 2 (zzR M v0 31) fun b4 => zzlet ((v4).toInt32) fun x5 => zzlet (zzL M v0 65) fun x6 => zzix S b4 x5 (zzlet (zzsL M b4 (x5).toNatClampNeg x6) fun M => some ((), M)))))))
set_option maxHeartbeats 4000000 in
set_option maxRecDepth 100000 in
theorem g_Md_store_104 {p : Program} {l : Launch} {e : Env} {s : State} {m : MethodId} {args : Array Value} {below : List Frame} {meth : Method} {c : Code} {D : zzD} {bs : Nat} {A : Nat → Prop} {S : zzS} {hz : Nat} {out : Unit × zzM}  (C : zzC p s m args c prog_12_method_49_code "BoardScriptModel" 7 D) (hlocks : meth.locks = false) (hr : meth.sig.returnType = none) (hin : meth.name = "store")    (M : zzM) (v0 : Nat) (v1 : Int32) (v2 : Int32) (v3 : Int32) (v4 : Int64) (w0 : Int32) (hn_v0 : v0 < S.2.1) (hk_v0 : zzk S v0 = 19) (hF : F_Md_store_104 S   M v0 v1 v2 v3 v4 w0 = some out) : zzB p l e { frames := 2, cells := 0, slots := 0, locals := 50 } s m args below meth c 7 D bs A (MQ below (zzQc D bs A S out.2 hz none) args s 0 0 A) 0 0 S M hz 104 [(0, .ref (bs + v0)), (1, .int v1), (2, .int v2), (3, .int v3), (4, .long v4)] [.int w0] := by
  unfold F_Md_store_104 at hF
  refine zi_istore (lv' := [(6, .int w0), (0, .ref (bs + v0)), (1, .int v1), (2, .int v2), (3, .int v3), (4, .long v4)]) C d_Md_store_104 (by decide) rfl ?_
  refine zi_iload_n C d_Md_store_106 rfl 4 rfl ?_
  refine zi_if_ne (tgt := 126) C d_Md_store_107 (by decide) hF (fun hF => ?_) (fun hF => ?_)
  · refine zi_iload C d_Md_store_126 0 rfl ?_
    refine zi_if_ne (tgt := 144) C d_Md_store_128 (by decide) hF (fun hF => ?_) (fun hF => ?_)
    · refine zi_aload_n C d_Md_store_144 rfl 1 rfl ?_
      refine zi_aload_n C d_Md_store_145 rfl 1 rfl ?_
      refine zi_getR C zc_9 (k := 10) (by decide) zw_90 rfl hn_v0 hk_v0 d_Md_store_146 (fun _ _ _ => rfl) hF (fun b1 hn_b1 hk_b1 hF => ?_)
      refine zi_iload_n C d_Md_store_149 rfl 3 rfl ?_
      refine zi_iald C hn_b1 hk_b1 d_Md_store_150 hF (fun x2 hF => ?_)
      obtain ⟨r3, M, hqr3, hF⟩ := zzcall_e hF
      refine zi_callV_i (M2 := M) (r := r3) (n := 1) (As := [.int x2]) (st := []) C (c_Md_ask hqr3 hn_v0 hk_v0) zw_192 zw_18 (by decide +kernel) ⟨Nat.le_of_ble_eq_true rfl, Nat.le_of_ble_eq_true rfl⟩ rfl (Nat.le_of_ble_eq_true rfl) ⟨Nat.le_of_ble_eq_true rfl, Nat.le_of_ble_eq_true rfl⟩ zw_193 zw_194 zw_195 zc_9.1 hn_v0 hk_v0 rfl d_Md_store_151 ?_
      refine zi_if_ne (tgt := 173) C d_Md_store_154 (by decide) hF (fun hF => ?_) (fun hF => ?_)
      · refine zi_iload_n C d_Md_store_173 rfl 2 rfl ?_
        refine zi_iconst (v := 2) C d_Md_store_174 (by decide) ?_
        refine zi_icmp_ne (tgt := 203) C d_Md_store_175 (by decide) hF (fun hF => ?_) (fun hF => ?_)
        · refine zi_aload_n C d_Md_store_203 rfl 1 rfl ?_
          refine zi_getR C zc_9 (k := 31) (by decide) zw_162 rfl hn_v0 hk_v0 d_Md_store_204 (fun _ _ _ => rfl) hF (fun b4 hn_b4 hk_b4 hF => ?_)
          refine zi_lload C d_Md_store_207 5 rfl ?_
          refine zi_l2i C d_Md_store_209 hF (fun x5 hF => ?_)
          refine zi_aload_n C d_Md_store_210 rfl 1 rfl ?_
          refine zi_getL C zc_9 (k := 65) (by decide) zw_169 rfl hn_v0 hk_v0 d_Md_store_211 (fun _ _ _ => rfl) hF (fun x6 hF => ?_)
          refine zi_last C hn_b4 hk_b4 d_Md_store_214 hF (fun M hF => ?_)
          exact zi_vret C hlocks hr d_Md_store_215 rfl rfl (by cases hF; rfl) rfl
        · refine zi_aload_n C d_Md_store_178 rfl 1 rfl ?_
          refine zi_getR C zc_9 (k := 29) (by decide) zw_152 rfl hn_v0 hk_v0 d_Md_store_179 (fun _ _ _ => rfl) hF (fun b7 hn_b7 hk_b7 hF => ?_)
          refine zi_bipush (v := 6) C d_Md_store_182 (by decide) ?_
          refine zi_lload C d_Md_store_184 5 rfl ?_
          refine zi_l2i C d_Md_store_186 hF (fun x8 hF => ?_)
          refine zi_imul C d_Md_store_187 hF (fun x9 hF => ?_)
          refine zi_aload_n C d_Md_store_188 rfl 1 rfl ?_
          refine zi_getR C zc_9 (k := 8) (by decide) zw_88 rfl hn_v0 hk_v0 d_Md_store_189 (fun _ _ _ => rfl) hF (fun b10 hn_b10 hk_b10 hF => ?_)
          refine zi_iload_n C d_Md_store_192 rfl 3 rfl ?_
          refine zi_iald C hn_b10 hk_b10 d_Md_store_193 hF (fun x11 hF => ?_)
          refine zi_iadd C d_Md_store_194 hF (fun x12 hF => ?_)
          refine zi_aload_n C d_Md_store_195 rfl 1 rfl ?_
          refine zi_getL C zc_9 (k := 65) (by decide) zw_169 rfl hn_v0 hk_v0 d_Md_store_196 (fun _ _ _ => rfl) hF (fun x13 hF => ?_)
          refine zi_last C hn_b7 hk_b7 d_Md_store_199 hF (fun M hF => ?_)
          refine zi_goto (tgt := 215) C d_Md_store_200 (by decide) ?_
          exact zi_vret C hlocks hr d_Md_store_215 rfl rfl (by cases hF; rfl) rfl
      · refine zi_aload_n C d_Md_store_157 rfl 1 rfl ?_
        refine zi_aload_n C d_Md_store_158 rfl 1 rfl ?_
        refine zi_getI C zc_9 (k := 66) (by decide) zw_167 rfl hn_v0 hk_v0 d_Md_store_159 (fun _ _ _ => rfl) hF (fun x14 hF => ?_)
        refine zi_aload_n C d_Md_store_162 rfl 1 rfl ?_
        refine zi_getI C zc_9 (k := 51) (by decide) zw_191 rfl hn_v0 hk_v0 d_Md_store_163 (fun _ _ _ => rfl) hF (fun x15 hF => ?_)
        refine zi_iconst (v := 0) C d_Md_store_166 (by decide) ?_
        obtain ⟨r16, M, hqr16, hF⟩ := zzcall_e hF
        refine zi_callV_v (M2 := M) (n := 3) (As := [.int x14, .int x15, .int (0 : Int32)]) (st := []) C (c_Md_raise hqr16 hn_v0 hk_v0) zw_196 zw_18 (by decide +kernel) ⟨Nat.le_of_ble_eq_true rfl, Nat.le_of_ble_eq_true rfl⟩ rfl (Nat.le_of_ble_eq_true rfl) ⟨Nat.le_of_ble_eq_true rfl, Nat.le_of_ble_eq_true rfl⟩ zw_197 zw_198 zw_199 zc_9.1 hn_v0 hk_v0 rfl d_Md_store_167 ?_
        refine zi_goto (tgt := 215) C d_Md_store_170 (by decide) ?_
        exact zi_vret C hlocks hr d_Md_store_215 rfl rfl (by cases hF; rfl) rfl
    · refine zi_aload_n C d_Md_store_131 rfl 1 rfl ?_
      refine zi_iconst (v := 2) C d_Md_store_132 (by decide) ?_
      refine zi_aload_n C d_Md_store_133 rfl 1 rfl ?_
      refine zi_getI C zc_9 (k := 51) (by decide) zw_191 rfl hn_v0 hk_v0 d_Md_store_134 (fun _ _ _ => rfl) hF (fun x17 hF => ?_)
      refine zi_iconst (v := 0) C d_Md_store_137 (by decide) ?_
      obtain ⟨r18, M, hqr18, hF⟩ := zzcall_e hF
      refine zi_callV_v (M2 := M) (n := 3) (As := [.int (2 : Int32), .int x17, .int (0 : Int32)]) (st := []) C (c_Md_raise hqr18 hn_v0 hk_v0) zw_196 zw_18 (by decide +kernel) ⟨Nat.le_of_ble_eq_true rfl, Nat.le_of_ble_eq_true rfl⟩ rfl (Nat.le_of_ble_eq_true rfl) ⟨Nat.le_of_ble_eq_true rfl, Nat.le_of_ble_eq_true rfl⟩ zw_197 zw_198 zw_199 zc_9.1 hn_v0 hk_v0 rfl d_Md_store_138 ?_
      refine zi_goto (tgt := 215) C d_Md_store_141 (by decide) ?_
      exact zi_vret C hlocks hr d_Md_store_215 rfl rfl (by cases hF; rfl) rfl
  · refine zi_aload_n C d_Md_store_110 rfl 1 rfl ?_
    refine zi_aload_n C d_Md_store_111 rfl 1 rfl ?_
    refine zi_getI C zc_9 (k := 66) (by decide) zw_167 rfl hn_v0 hk_v0 d_Md_store_112 (fun _ _ _ => rfl) hF (fun x19 hF => ?_)
    refine zi_aload_n C d_Md_store_115 rfl 1 rfl ?_
    refine zi_getI C zc_9 (k := 51) (by decide) zw_191 rfl hn_v0 hk_v0 d_Md_store_116 (fun _ _ _ => rfl) hF (fun x20 hF => ?_)
    refine zi_iconst (v := 0) C d_Md_store_119 (by decide) ?_
    obtain ⟨r21, M, hqr21, hF⟩ := zzcall_e hF
    refine zi_callV_v (M2 := M) (n := 3) (As := [.int x19, .int x20, .int (0 : Int32)]) (st := []) C (c_Md_raise hqr21 hn_v0 hk_v0) zw_196 zw_18 (by decide +kernel) ⟨Nat.le_of_ble_eq_true rfl, Nat.le_of_ble_eq_true rfl⟩ rfl (Nat.le_of_ble_eq_true rfl) ⟨Nat.le_of_ble_eq_true rfl, Nat.le_of_ble_eq_true rfl⟩ zw_197 zw_198 zw_199 zc_9.1 hn_v0 hk_v0 rfl d_Md_store_120 ?_
    refine zi_goto (tgt := 215) C d_Md_store_123 (by decide) ?_
    exact zi_vret C hlocks hr d_Md_store_215 rfl rfl (by cases hF; rfl) rfl
def F_Md_store_103 (S : zzS)   (M : zzM) (v0 : Nat) (v1 : Int32) (v2 : Int32) (v3 : Int32) (v4 : Int64) : Option (Unit × zzM) := F_Md_store_104 S   M v0 v1 v2 v3 v4 (0 : Int32)
set_option maxHeartbeats 4000000 in
set_option maxRecDepth 100000 in
theorem g_Md_store_103 {p : Program} {l : Launch} {e : Env} {s : State} {m : MethodId} {args : Array Value} {below : List Frame} {meth : Method} {c : Code} {D : zzD} {bs : Nat} {A : Nat → Prop} {S : zzS} {hz : Nat} {out : Unit × zzM}  (C : zzC p s m args c prog_12_method_49_code "BoardScriptModel" 7 D) (hlocks : meth.locks = false) (hr : meth.sig.returnType = none) (hin : meth.name = "store")    (M : zzM) (v0 : Nat) (v1 : Int32) (v2 : Int32) (v3 : Int32) (v4 : Int64) (hn_v0 : v0 < S.2.1) (hk_v0 : zzk S v0 = 19) (hF : F_Md_store_103 S   M v0 v1 v2 v3 v4 = some out) : zzB p l e { frames := 2, cells := 0, slots := 0, locals := 50 } s m args below meth c 7 D bs A (MQ below (zzQc D bs A S out.2 hz none) args s 0 0 A) 0 0 S M hz 103 [(0, .ref (bs + v0)), (1, .int v1), (2, .int v2), (3, .int v3), (4, .long v4)] [] := by
  unfold F_Md_store_103 at hF
  refine zi_iconst (v := 0) C d_Md_store_103 (by decide) ?_
  refine zz_sub [0, 1, 2, 3, 4] (lv' := [(0, .ref (bs + v0)), (1, .int v1), (2, .int v2), (3, .int v3), (4, .long v4)]) rfl ?_
  exact g_Md_store_104 C hlocks hr hin   _ v0 v1 v2 v3 v4 (0 : Int32) hn_v0 hk_v0 hF
def F_Md_store (S : zzS)  (M : zzM) (v0 : Nat) (v1 : Int32) (v2 : Int32) : Option (Unit × zzM) := if v1 = (1 : Int32) then (zzref S 1 (zzR M v0 10) fun b10 => zzix S b10 v2 (zzlet (zzI M b10 (v2).toNatClampNeg) fun x11 => zzcall (F_Md_ask S M v0 x11) fun r12 M => if r12 = 0 then (zzlet (zzI M v0 66) fun x13 => zzlet (zzI M v0 51) fun x14 => zzcall (F_Md_raise S M v0 x13 x14 (0 : Int32)) fun r15 M => some ((), M)) else (zzref S 2 (zzR M v0 33) fun b16 => zzref S 1 (zzR M v0 8) fun b17 => zzix S b17 v2 (zzlet (zzI M b17 (v2).toNatClampNeg) fun x18 => zzlet (zzL M v0 65) fun x19 => zzix S b16 x18 (zzlet (zzsL M b16 (x18).toNatClampNeg x19) fun M => some ((), M)))))) else (zzref S 1 (zzR M v0 9) fun b1 => zzix S b1 v2 (zzlet (zzI M b1 (v2).toNatClampNeg) fun x2 => zzcall (F_Md_ask S M v0 x2) fun r3 M => zzlet (zzL M v0 65) fun x4 => if v1 = (2 : Int32) then (zzcall (F_Md_isObject S M v0 x4) fun r9 M => F_Md_store_104 S   M v0 v1 v2 r3 x4 r9) else (zzlet (lg_cmp x4 (0 : Int64)) fun x5 => if x5 < 0 then (F_Md_store_103 S   M v0 v1 v2 r3 x4) else (zzlet (zzI M v0 30) fun x6 => zzlet ((x6).toInt64) fun x7 => zzlet (lg_cmp x4 x7) fun x8 => if 0 ≤ x8 then (F_Md_store_103 S   M v0 v1 v2 r3 x4) else (F_Md_store_104 S   M v0 v1 v2 r3 x4 (1 : Int32))))))
set_option maxHeartbeats 4000000 in
set_option maxRecDepth 100000 in
theorem c_Md_store {l : Launch} {D : zzD} {bs : Nat} {A : Nat → Prop} {S : zzS} {M : zzM} {hz : Nat} {out : Unit × zzM} {v0 : Nat} {v1 : Int32} {v2 : Int32}   (hF : F_Md_store S  M v0 v1 v2 = some out) (hn_v0 : v0 < S.2.1) (hk_v0 : zzk S v0 = 19) : Met l y_Md_store (Cond.code y_Md_store prog_12_method_49_code 7 none :: zzW) { frames := 2, cells := 0, slots := 0, locals := 50 } (zzPc D bs A S M hz [.ref (bs + v0), .int v1, .int v2]) (zzQc D bs A S out.2 hz none) 0 0 A := by
  refine zz_met [.ref (bs + v0), .int v1, .int v2] (by decide) (Nat.le_of_ble_eq_true rfl) (fun p e s m args below meth c C hr hlocks hin hsz => ?_)
  refine zz_eq (lv' := [(0, .ref (bs + v0)), (1, .int v1), (2, .int v2)]) (st' := []) rfl rfl ?_
  unfold F_Md_store at hF
  refine zi_iload_n C d_Md_store_0 rfl 1 rfl ?_
  refine zi_iconst (v := 1) C d_Md_store_1 (by decide) ?_
  refine zi_icmp_ne (tgt := 50) C d_Md_store_2 (by decide) hF (fun hF => ?_) (fun hF => ?_)
  · refine zi_aload_n C d_Md_store_50 rfl 0 rfl ?_
    refine zi_aload_n C d_Md_store_51 rfl 0 rfl ?_
    refine zi_getR C zc_9 (k := 9) (by decide) zw_89 rfl hn_v0 hk_v0 d_Md_store_52 (fun _ _ _ => rfl) hF (fun b1 hn_b1 hk_b1 hF => ?_)
    refine zi_iload_n C d_Md_store_55 rfl 2 rfl ?_
    refine zi_iald C hn_b1 hk_b1 d_Md_store_56 hF (fun x2 hF => ?_)
    obtain ⟨r3, M, hqr3, hF⟩ := zzcall_e hF
    refine zi_callV_i (M2 := M) (r := r3) (n := 1) (As := [.int x2]) (st := []) C (c_Md_ask hqr3 hn_v0 hk_v0) zw_192 zw_18 (by decide +kernel) ⟨Nat.le_of_ble_eq_true rfl, Nat.le_of_ble_eq_true rfl⟩ rfl (Nat.le_of_ble_eq_true rfl) ⟨Nat.le_of_ble_eq_true rfl, Nat.le_of_ble_eq_true rfl⟩ zw_193 zw_194 zw_195 zc_9.1 hn_v0 hk_v0 rfl d_Md_store_57 ?_
    refine zi_istore_n (lv' := [(3, .int r3), (0, .ref (bs + v0)), (1, .int v1), (2, .int v2)]) C d_Md_store_60 rfl (by decide) rfl ?_
    refine zi_aload_n C d_Md_store_61 rfl 1 rfl ?_
    refine zi_getL C zc_9 (k := 65) (by decide) zw_169 rfl hn_v0 hk_v0 d_Md_store_62 (fun _ _ _ => rfl) hF (fun x4 hF => ?_)
    refine zi_lstore (lv' := [(4, .long x4), (3, .int r3), (0, .ref (bs + v0)), (1, .int v1), (2, .int v2)]) C d_Md_store_65 (by decide) rfl ?_
    refine zi_iload_n C d_Md_store_67 rfl 3 rfl ?_
    refine zi_iconst (v := 2) C d_Md_store_68 (by decide) ?_
    refine zi_icmp_ne (tgt := 81) C d_Md_store_69 (by decide) hF (fun hF => ?_) (fun hF => ?_)
    · refine zi_lload C d_Md_store_81 0 rfl ?_
      refine zi_lconst (v := 0) C d_Md_store_83 (by decide) ?_
      refine zi_lcmp C d_Md_store_84 hF (fun x5 hF => ?_)
      refine zi_if_lt (tgt := 103) C d_Md_store_85 (by decide) hF (fun hF => ?_) (fun hF => ?_)
      · refine zz_sub [2, 3, 4, 1, 0] (lv' := [(0, .ref (bs + v0)), (1, .int v1), (2, .int v2), (3, .int r3), (4, .long x4)]) rfl ?_
        exact g_Md_store_103 C hlocks hr hin   _ v0 v1 v2 r3 x4 hn_v0 hk_v0 hF
      · refine zi_lload C d_Md_store_88 0 rfl ?_
        refine zi_aload_n C d_Md_store_90 rfl 2 rfl ?_
        refine zi_getI C zc_9 (k := 30) (by decide) zw_13 rfl hn_v0 hk_v0 d_Md_store_91 (fun _ _ _ => rfl) hF (fun x6 hF => ?_)
        refine zi_i2l C d_Md_store_94 hF (fun x7 hF => ?_)
        refine zi_lcmp C d_Md_store_95 hF (fun x8 hF => ?_)
        refine zi_if_ge (tgt := 103) C d_Md_store_96 (by decide) hF (fun hF => ?_) (fun hF => ?_)
        · refine zz_sub [2, 3, 4, 1, 0] (lv' := [(0, .ref (bs + v0)), (1, .int v1), (2, .int v2), (3, .int r3), (4, .long x4)]) rfl ?_
          exact g_Md_store_103 C hlocks hr hin   _ v0 v1 v2 r3 x4 hn_v0 hk_v0 hF
        · refine zi_iconst (v := 1) C d_Md_store_99 (by decide) ?_
          refine zi_goto (tgt := 104) C d_Md_store_100 (by decide) ?_
          refine zz_sub [2, 3, 4, 1, 0] (lv' := [(0, .ref (bs + v0)), (1, .int v1), (2, .int v2), (3, .int r3), (4, .long x4)]) rfl ?_
          exact g_Md_store_104 C hlocks hr hin   _ v0 v1 v2 r3 x4 (1 : Int32) hn_v0 hk_v0 hF
    · refine zi_aload_n C d_Md_store_72 rfl 2 rfl ?_
      refine zi_lload C d_Md_store_73 0 rfl ?_
      obtain ⟨r9, M, hqr9, hF⟩ := zzcall_e hF
      refine zi_callV_i (M2 := M) (r := r9) (n := 1) (As := [.long x4]) (st := []) C (c_Md_isObject hqr9 hn_v0 hk_v0) zw_148 zw_18 (by decide +kernel) ⟨Nat.le_of_ble_eq_true rfl, Nat.le_of_ble_eq_true rfl⟩ rfl (Nat.le_of_ble_eq_true rfl) ⟨Nat.le_of_ble_eq_true rfl, Nat.le_of_ble_eq_true rfl⟩ zw_149 zw_150 zw_151 zc_9.1 hn_v0 hk_v0 rfl d_Md_store_75 ?_
      refine zi_goto (tgt := 104) C d_Md_store_78 (by decide) ?_
      refine zz_sub [2, 3, 4, 1, 0] (lv' := [(0, .ref (bs + v0)), (1, .int v1), (2, .int v2), (3, .int r3), (4, .long x4)]) rfl ?_
      exact g_Md_store_104 C hlocks hr hin   _ v0 v1 v2 r3 x4 r9 hn_v0 hk_v0 hF
  · refine zi_aload_n C d_Md_store_5 rfl 0 rfl ?_
    refine zi_aload_n C d_Md_store_6 rfl 0 rfl ?_
    refine zi_getR C zc_9 (k := 10) (by decide) zw_90 rfl hn_v0 hk_v0 d_Md_store_7 (fun _ _ _ => rfl) hF (fun b10 hn_b10 hk_b10 hF => ?_)
    refine zi_iload_n C d_Md_store_10 rfl 2 rfl ?_
    refine zi_iald C hn_b10 hk_b10 d_Md_store_11 hF (fun x11 hF => ?_)
    obtain ⟨r12, M, hqr12, hF⟩ := zzcall_e hF
    refine zi_callV_i (M2 := M) (r := r12) (n := 1) (As := [.int x11]) (st := []) C (c_Md_ask hqr12 hn_v0 hk_v0) zw_192 zw_18 (by decide +kernel) ⟨Nat.le_of_ble_eq_true rfl, Nat.le_of_ble_eq_true rfl⟩ rfl (Nat.le_of_ble_eq_true rfl) ⟨Nat.le_of_ble_eq_true rfl, Nat.le_of_ble_eq_true rfl⟩ zw_193 zw_194 zw_195 zc_9.1 hn_v0 hk_v0 rfl d_Md_store_12 ?_
    refine zi_if_eq (tgt := 36) C d_Md_store_15 (by decide) hF (fun hF => ?_) (fun hF => ?_)
    · refine zi_aload_n C d_Md_store_36 rfl 0 rfl ?_
      refine zi_aload_n C d_Md_store_37 rfl 0 rfl ?_
      refine zi_getI C zc_9 (k := 66) (by decide) zw_167 rfl hn_v0 hk_v0 d_Md_store_38 (fun _ _ _ => rfl) hF (fun x13 hF => ?_)
      refine zi_aload_n C d_Md_store_41 rfl 0 rfl ?_
      refine zi_getI C zc_9 (k := 51) (by decide) zw_191 rfl hn_v0 hk_v0 d_Md_store_42 (fun _ _ _ => rfl) hF (fun x14 hF => ?_)
      refine zi_iconst (v := 0) C d_Md_store_45 (by decide) ?_
      obtain ⟨r15, M, hqr15, hF⟩ := zzcall_e hF
      refine zi_callV_v (M2 := M) (n := 3) (As := [.int x13, .int x14, .int (0 : Int32)]) (st := []) C (c_Md_raise hqr15 hn_v0 hk_v0) zw_196 zw_18 (by decide +kernel) ⟨Nat.le_of_ble_eq_true rfl, Nat.le_of_ble_eq_true rfl⟩ rfl (Nat.le_of_ble_eq_true rfl) ⟨Nat.le_of_ble_eq_true rfl, Nat.le_of_ble_eq_true rfl⟩ zw_197 zw_198 zw_199 zc_9.1 hn_v0 hk_v0 rfl d_Md_store_46 ?_
      exact zi_vret C hlocks hr d_Md_store_49 rfl rfl (by cases hF; rfl) rfl
    · refine zi_aload_n C d_Md_store_18 rfl 0 rfl ?_
      refine zi_getR C zc_9 (k := 33) (by decide) zw_10 rfl hn_v0 hk_v0 d_Md_store_19 (fun _ _ _ => rfl) hF (fun b16 hn_b16 hk_b16 hF => ?_)
      refine zi_aload_n C d_Md_store_22 rfl 0 rfl ?_
      refine zi_getR C zc_9 (k := 8) (by decide) zw_88 rfl hn_v0 hk_v0 d_Md_store_23 (fun _ _ _ => rfl) hF (fun b17 hn_b17 hk_b17 hF => ?_)
      refine zi_iload_n C d_Md_store_26 rfl 2 rfl ?_
      refine zi_iald C hn_b17 hk_b17 d_Md_store_27 hF (fun x18 hF => ?_)
      refine zi_aload_n C d_Md_store_28 rfl 0 rfl ?_
      refine zi_getL C zc_9 (k := 65) (by decide) zw_169 rfl hn_v0 hk_v0 d_Md_store_29 (fun _ _ _ => rfl) hF (fun x19 hF => ?_)
      refine zi_last C hn_b16 hk_b16 d_Md_store_32 hF (fun M hF => ?_)
      refine zi_goto (tgt := 49) C d_Md_store_33 (by decide) ?_
      exact zi_vret C hlocks hr d_Md_store_49 rfl rfl (by cases hF; rfl) rfl
def F_Md_askObjects_100_b (S : zzS)  (k100 : zzM → Nat → Int32 → Int32 → Option (Unit × zzM)) (M : zzM) (v0 : Nat) (v4 : Int32) (v5 : Int32) : Option (Unit × zzM) := zzlet (zzI M v0 28) fun x1 => if x1 ≤ v5 then (some ((), M)) else (zzlet (v4 >>> (v5 &&& 31)) fun x2 => zzlet (x2 &&& (1 : Int32)) fun x3 => if x3 = 0 then (zzlet (v5 + (1 : Int32)) fun x9 => k100 M v0 v4 x9) else (zzref S 1 (zzR M v0 41) fun b4 => zzlet (zzI M v0 40) fun x5 => zzix S b4 x5 (zzlet (zzsI M b4 (x5).toNatClampNeg v5) fun M => zzlet (zzI M v0 40) fun x6 => zzlet (x6 + (1 : Int32)) fun x7 => zzlet (zzsI M v0 40 x7) fun M => zzlet (v5 + (1 : Int32)) fun x8 => k100 M v0 v4 x8)))
def F_Md_askObjects_100 (S : zzS)   (n : Nat) : zzM → Nat → Int32 → Int32 → Option (Unit × zzM) := Nat.rec (fun _ _ _ _ => none) (fun _ k => F_Md_askObjects_100_b S   k) n
set_option maxHeartbeats 4000000 in
set_option maxRecDepth 100000 in
theorem g_Md_askObjects_100_b {p : Program} {l : Launch} {e : Env} {s : State} {m : MethodId} {args : Array Value} {below : List Frame} {meth : Method} {c : Code} {D : zzD} {bs : Nat} {A : Nat → Prop} {S : zzS} {hz : Nat} {out : Unit × zzM}  (C : zzC p s m args c prog_12_method_50_code "BoardScriptModel" 6 D) (hlocks : meth.locks = false) (hr : meth.sig.returnType = none) (hin : meth.name = "askObjects")  {k100 : zzM → Nat → Int32 → Int32 → Option (Unit × zzM)} (hk100 : ∀ (M : zzM) (v0 : Nat) (v4 : Int32) (v5 : Int32) (hn_v0 : v0 < S.2.1) (hk_v0 : zzk S v0 = 19), k100 M v0 v4 v5 = some out → zzB p l e { frames := 2, cells := 0, slots := 0, locals := 50 } s m args below meth c 6 D bs A (MQ below (zzQc D bs A S out.2 hz none) args s 0 0 A) 0 0 S M hz 100 [(0, .ref (bs + v0)), (4, .int v4), (5, .int v5)] []) (M : zzM) (v0 : Nat) (v4 : Int32) (v5 : Int32) (hn_v0 : v0 < S.2.1) (hk_v0 : zzk S v0 = 19) (hF : F_Md_askObjects_100_b S  k100 M v0 v4 v5 = some out) : zzB p l e { frames := 2, cells := 0, slots := 0, locals := 50 } s m args below meth c 6 D bs A (MQ below (zzQc D bs A S out.2 hz none) args s 0 0 A) 0 0 S M hz 100 [(0, .ref (bs + v0)), (4, .int v4), (5, .int v5)] [] := by
  unfold F_Md_askObjects_100_b at hF
  refine zi_iload C d_Md_askObjects_100 2 rfl ?_
  refine zi_aload_n C d_Md_askObjects_102 rfl 0 rfl ?_
  refine zi_getI C zc_9 (k := 28) (by decide) zw_12 rfl hn_v0 hk_v0 d_Md_askObjects_103 (fun _ _ _ => rfl) hF (fun x1 hF => ?_)
  refine zi_icmp_ge (tgt := 149) C d_Md_askObjects_106 (by decide) hF (fun hF => ?_) (fun hF => ?_)
  · exact zi_vret C hlocks hr d_Md_askObjects_149 rfl rfl (by cases hF; rfl) rfl
  · refine zi_iload C d_Md_askObjects_109 1 rfl ?_
    refine zi_iload C d_Md_askObjects_111 2 rfl ?_
    refine zi_ishr C d_Md_askObjects_113 hF (fun x2 hF => ?_)
    refine zi_iconst (v := 1) C d_Md_askObjects_114 (by decide) ?_
    refine zi_iand C d_Md_askObjects_115 hF (fun x3 hF => ?_)
    refine zi_if_ne (tgt := 122) C d_Md_askObjects_116 (by decide) hF (fun hF => ?_) (fun hF => ?_)
    · refine zi_aload_n C d_Md_askObjects_122 rfl 0 rfl ?_
      refine zi_getR C zc_9 (k := 41) (by decide) zw_200 rfl hn_v0 hk_v0 d_Md_askObjects_123 (fun _ _ _ => rfl) hF (fun b4 hn_b4 hk_b4 hF => ?_)
      refine zi_aload_n C d_Md_askObjects_126 rfl 0 rfl ?_
      refine zi_getI C zc_9 (k := 40) (by decide) zw_3 rfl hn_v0 hk_v0 d_Md_askObjects_127 (fun _ _ _ => rfl) hF (fun x5 hF => ?_)
      refine zi_iload C d_Md_askObjects_130 2 rfl ?_
      refine zi_iast C hn_b4 hk_b4 d_Md_askObjects_132 hF (fun M hF => ?_)
      refine zi_aload_n C d_Md_askObjects_133 rfl 0 rfl ?_
      refine zi_dup C d_Md_askObjects_134 rfl ?_
      refine zi_getI C zc_9 (k := 40) (by decide) zw_3 rfl hn_v0 hk_v0 d_Md_askObjects_135 (fun _ _ _ => rfl) hF (fun x6 hF => ?_)
      refine zi_iconst (v := 1) C d_Md_askObjects_138 (by decide) ?_
      refine zi_iadd C d_Md_askObjects_139 hF (fun x7 hF => ?_)
      refine zi_putI C zc_9 (k := 40) (by decide) zw_3 rfl (Or.inl rfl) hn_v0 hk_v0 d_Md_askObjects_140 rfl hF (fun M hF => ?_)
      refine zi_iinc (j := 2) (v0 := 1) C d_Md_askObjects_143 rfl (by decide) (by decide) hF (fun x8 => [(5, .int x8), (0, .ref (bs + v0)), (4, .int v4)]) (fun _ => rfl) (fun x8 hF => ?_)
      refine zi_goto (tgt := 100) C d_Md_askObjects_146 (by decide) ?_
      refine zz_sub [1, 2, 0] (lv' := [(0, .ref (bs + v0)), (4, .int v4), (5, .int x8)]) rfl ?_
      exact hk100 _ v0 v4 x8 hn_v0 hk_v0 hF
    · refine zi_goto (tgt := 143) C d_Md_askObjects_119 (by decide) ?_
      refine zi_iinc (j := 2) (v0 := 1) C d_Md_askObjects_143 rfl (by decide) (by decide) hF (fun x9 => [(5, .int x9), (0, .ref (bs + v0)), (4, .int v4)]) (fun _ => rfl) (fun x9 hF => ?_)
      refine zi_goto (tgt := 100) C d_Md_askObjects_146 (by decide) ?_
      refine zz_sub [1, 2, 0] (lv' := [(0, .ref (bs + v0)), (4, .int v4), (5, .int x9)]) rfl ?_
      exact hk100 _ v0 v4 x9 hn_v0 hk_v0 hF
set_option maxHeartbeats 4000000 in
set_option maxRecDepth 100000 in
theorem g_Md_askObjects_100 {p : Program} {l : Launch} {e : Env} {s : State} {m : MethodId} {args : Array Value} {below : List Frame} {meth : Method} {c : Code} {D : zzD} {bs : Nat} {A : Nat → Prop} {S : zzS} {hz : Nat} {out : Unit × zzM}  (C : zzC p s m args c prog_12_method_50_code "BoardScriptModel" 6 D) (hlocks : meth.locks = false) (hr : meth.sig.returnType = none) (hin : meth.name = "askObjects")    : ∀ (n : Nat) (M : zzM) (v0 : Nat) (v4 : Int32) (v5 : Int32) (hn_v0 : v0 < S.2.1) (hk_v0 : zzk S v0 = 19) (hF : F_Md_askObjects_100 S   n M v0 v4 v5 = some out), zzB p l e { frames := 2, cells := 0, slots := 0, locals := 50 } s m args below meth c 6 D bs A (MQ below (zzQc D bs A S out.2 hz none) args s 0 0 A) 0 0 S M hz 100 [(0, .ref (bs + v0)), (4, .int v4), (5, .int v5)] [] := by
  intro n
  induction n with
  | zero => intro M v0 v4 v5 hn_v0 hk_v0 hF; cases hF
  | succ n ih => intro M v0 v4 v5 hn_v0 hk_v0 hF; exact g_Md_askObjects_100_b C hlocks hr hin   ih M v0 v4 v5 hn_v0 hk_v0 hF
def F_Md_askObjects_14_b (S : zzS)  (k14 : zzM → Nat → Int32 → Int64 → Int32 → Int32 → Option (Unit × zzM)) (M : zzM) (v0 : Nat) (v1 : Int32) (v2 : Int64) (v4 : Int32) (v5 : Int32) : Option (Unit × zzM) := zzlet (zzI M v0 28) fun x1 => if x1 ≤ v5 then (zzref S 2 (zzR M v0 33) fun b2 => zzix S b2 (25 : Int32) (zzlet (zzsL M b2 ((25 : Int32)).toNatClampNeg v2) fun M => zzlet (zzsI M v0 40 (0 : Int32)) fun M => F_Md_askObjects_100 S   2000 M v0 v4 (0 : Int32))) else (zzref S 2 (zzR M v0 33) fun b3 => zzlet ((v5).toInt64) fun x4 => zzix S b3 (25 : Int32) (zzlet (zzsL M b3 ((25 : Int32)).toNatClampNeg x4) fun M => zzref S 1 (zzR M v0 10) fun b5 => zzix S b5 v1 (zzlet (zzI M b5 (v1).toNatClampNeg) fun x6 => zzcall (F_Md_ask S M v0 x6) fun r7 M => if r7 = 0 then (zzlet (zzI M v0 66) fun x14 => zzlet (zzI M v0 51) fun x15 => zzcall (F_Md_raise S M v0 x14 x15 (0 : Int32)) fun r16 M => some ((), M)) else (zzlet (zzL M v0 65) fun x8 => zzlet (lg_cmp x8 (0 : Int64)) fun x9 => if x9 = 0 then (zzlet (v5 + (1 : Int32)) fun x10 => k14 M v0 v1 v2 v4 x10) else (zzlet ((1 : Int32) <<< (v5 &&& 31)) fun x11 => zzlet (v4 ||| x11) fun x12 => zzlet (v5 + (1 : Int32)) fun x13 => k14 M v0 v1 v2 x12 x13)))))
def F_Md_askObjects_14 (S : zzS)   (n : Nat) : zzM → Nat → Int32 → Int64 → Int32 → Int32 → Option (Unit × zzM) := Nat.rec (fun _ _ _ _ _ _ => none) (fun _ k => F_Md_askObjects_14_b S   k) n
set_option maxHeartbeats 4000000 in
set_option maxRecDepth 100000 in
theorem g_Md_askObjects_14_b {p : Program} {l : Launch} {e : Env} {s : State} {m : MethodId} {args : Array Value} {below : List Frame} {meth : Method} {c : Code} {D : zzD} {bs : Nat} {A : Nat → Prop} {S : zzS} {hz : Nat} {out : Unit × zzM}  (C : zzC p s m args c prog_12_method_50_code "BoardScriptModel" 6 D) (hlocks : meth.locks = false) (hr : meth.sig.returnType = none) (hin : meth.name = "askObjects")  {k14 : zzM → Nat → Int32 → Int64 → Int32 → Int32 → Option (Unit × zzM)} (hk14 : ∀ (M : zzM) (v0 : Nat) (v1 : Int32) (v2 : Int64) (v4 : Int32) (v5 : Int32) (hn_v0 : v0 < S.2.1) (hk_v0 : zzk S v0 = 19), k14 M v0 v1 v2 v4 v5 = some out → zzB p l e { frames := 2, cells := 0, slots := 0, locals := 50 } s m args below meth c 6 D bs A (MQ below (zzQc D bs A S out.2 hz none) args s 0 0 A) 0 0 S M hz 14 [(0, .ref (bs + v0)), (1, .int v1), (2, .long v2), (4, .int v4), (5, .int v5)] []) (M : zzM) (v0 : Nat) (v1 : Int32) (v2 : Int64) (v4 : Int32) (v5 : Int32) (hn_v0 : v0 < S.2.1) (hk_v0 : zzk S v0 = 19) (hF : F_Md_askObjects_14_b S  k14 M v0 v1 v2 v4 v5 = some out) : zzB p l e { frames := 2, cells := 0, slots := 0, locals := 50 } s m args below meth c 6 D bs A (MQ below (zzQc D bs A S out.2 hz none) args s 0 0 A) 0 0 S M hz 14 [(0, .ref (bs + v0)), (1, .int v1), (2, .long v2), (4, .int v4), (5, .int v5)] [] := by
  unfold F_Md_askObjects_14_b at hF
  refine zi_iload C d_Md_askObjects_14 4 rfl ?_
  refine zi_aload_n C d_Md_askObjects_16 rfl 0 rfl ?_
  refine zi_getI C zc_9 (k := 28) (by decide) zw_12 rfl hn_v0 hk_v0 d_Md_askObjects_17 (fun _ _ _ => rfl) hF (fun x1 hF => ?_)
  refine zi_icmp_ge (tgt := 84) C d_Md_askObjects_20 (by decide) hF (fun hF => ?_) (fun hF => ?_)
  · refine zi_aload_n C d_Md_askObjects_84 rfl 0 rfl ?_
    refine zi_getR C zc_9 (k := 33) (by decide) zw_10 rfl hn_v0 hk_v0 d_Md_askObjects_85 (fun _ _ _ => rfl) hF (fun b2 hn_b2 hk_b2 hF => ?_)
    refine zi_bipush (v := 25) C d_Md_askObjects_88 (by decide) ?_
    refine zi_lload_n C d_Md_askObjects_90 rfl 2 rfl ?_
    refine zi_last C hn_b2 hk_b2 d_Md_askObjects_91 hF (fun M hF => ?_)
    refine zi_aload_n C d_Md_askObjects_92 rfl 0 rfl ?_
    refine zi_iconst (v := 0) C d_Md_askObjects_93 (by decide) ?_
    refine zi_putI C zc_9 (k := 40) (by decide) zw_3 rfl (Or.inl rfl) hn_v0 hk_v0 d_Md_askObjects_94 rfl hF (fun M hF => ?_)
    refine zi_iconst (v := 0) C d_Md_askObjects_97 (by decide) ?_
    refine zi_istore (lv' := [(5, .int (0 : Int32)), (0, .ref (bs + v0)), (1, .int v1), (2, .long v2), (4, .int v4)]) C d_Md_askObjects_98 (by decide) rfl ?_
    refine zz_sub [1, 4, 0] (lv' := [(0, .ref (bs + v0)), (4, .int v4), (5, .int (0 : Int32))]) rfl ?_
    exact g_Md_askObjects_100 C hlocks hr hin   _ _ v0 v4 (0 : Int32) hn_v0 hk_v0 hF
  · refine zi_aload_n C d_Md_askObjects_23 rfl 0 rfl ?_
    refine zi_getR C zc_9 (k := 33) (by decide) zw_10 rfl hn_v0 hk_v0 d_Md_askObjects_24 (fun _ _ _ => rfl) hF (fun b3 hn_b3 hk_b3 hF => ?_)
    refine zi_bipush (v := 25) C d_Md_askObjects_27 (by decide) ?_
    refine zi_iload C d_Md_askObjects_29 4 rfl ?_
    refine zi_i2l C d_Md_askObjects_31 hF (fun x4 hF => ?_)
    refine zi_last C hn_b3 hk_b3 d_Md_askObjects_32 hF (fun M hF => ?_)
    refine zi_aload_n C d_Md_askObjects_33 rfl 0 rfl ?_
    refine zi_aload_n C d_Md_askObjects_34 rfl 0 rfl ?_
    refine zi_getR C zc_9 (k := 10) (by decide) zw_90 rfl hn_v0 hk_v0 d_Md_askObjects_35 (fun _ _ _ => rfl) hF (fun b5 hn_b5 hk_b5 hF => ?_)
    refine zi_iload_n C d_Md_askObjects_38 rfl 1 rfl ?_
    refine zi_iald C hn_b5 hk_b5 d_Md_askObjects_39 hF (fun x6 hF => ?_)
    obtain ⟨r7, M, hqr7, hF⟩ := zzcall_e hF
    refine zi_callV_i (M2 := M) (r := r7) (n := 1) (As := [.int x6]) (st := []) C (c_Md_ask hqr7 hn_v0 hk_v0) zw_192 zw_18 (by decide +kernel) ⟨Nat.le_of_ble_eq_true rfl, Nat.le_of_ble_eq_true rfl⟩ rfl (Nat.le_of_ble_eq_true rfl) ⟨Nat.le_of_ble_eq_true rfl, Nat.le_of_ble_eq_true rfl⟩ zw_193 zw_194 zw_195 zc_9.1 hn_v0 hk_v0 rfl d_Md_askObjects_40 ?_
    refine zi_if_ne (tgt := 60) C d_Md_askObjects_43 (by decide) hF (fun hF => ?_) (fun hF => ?_)
    · refine zi_aload_n C d_Md_askObjects_60 rfl 0 rfl ?_
      refine zi_getL C zc_9 (k := 65) (by decide) zw_169 rfl hn_v0 hk_v0 d_Md_askObjects_61 (fun _ _ _ => rfl) hF (fun x8 hF => ?_)
      refine zi_lconst (v := 0) C d_Md_askObjects_64 (by decide) ?_
      refine zi_lcmp C d_Md_askObjects_65 hF (fun x9 hF => ?_)
      refine zi_if_eq (tgt := 78) C d_Md_askObjects_66 (by decide) hF (fun hF => ?_) (fun hF => ?_)
      · refine zi_iinc (j := 4) (v0 := 1) C d_Md_askObjects_78 rfl (by decide) (by decide) hF (fun x10 => [(5, .int x10), (0, .ref (bs + v0)), (1, .int v1), (2, .long v2), (4, .int v4)]) (fun _ => rfl) (fun x10 hF => ?_)
        refine zi_goto (tgt := 14) C d_Md_askObjects_81 (by decide) ?_
        refine zz_sub [1, 2, 3, 4, 0] (lv' := [(0, .ref (bs + v0)), (1, .int v1), (2, .long v2), (4, .int v4), (5, .int x10)]) rfl ?_
        exact hk14 _ v0 v1 v2 v4 x10 hn_v0 hk_v0 hF
      · refine zi_iload C d_Md_askObjects_69 3 rfl ?_
        refine zi_iconst (v := 1) C d_Md_askObjects_71 (by decide) ?_
        refine zi_iload C d_Md_askObjects_72 4 rfl ?_
        refine zi_ishl C d_Md_askObjects_74 hF (fun x11 hF => ?_)
        refine zi_ior C d_Md_askObjects_75 hF (fun x12 hF => ?_)
        refine zi_istore (lv' := [(4, .int x12), (0, .ref (bs + v0)), (1, .int v1), (2, .long v2), (5, .int v5)]) C d_Md_askObjects_76 (by decide) rfl ?_
        refine zi_iinc (j := 4) (v0 := 1) C d_Md_askObjects_78 rfl (by decide) (by decide) hF (fun x13 => [(5, .int x13), (4, .int x12), (0, .ref (bs + v0)), (1, .int v1), (2, .long v2)]) (fun _ => rfl) (fun x13 hF => ?_)
        refine zi_goto (tgt := 14) C d_Md_askObjects_81 (by decide) ?_
        refine zz_sub [2, 3, 4, 1, 0] (lv' := [(0, .ref (bs + v0)), (1, .int v1), (2, .long v2), (4, .int x12), (5, .int x13)]) rfl ?_
        exact hk14 _ v0 v1 v2 x12 x13 hn_v0 hk_v0 hF
    · refine zi_aload_n C d_Md_askObjects_46 rfl 0 rfl ?_
      refine zi_aload_n C d_Md_askObjects_47 rfl 0 rfl ?_
      refine zi_getI C zc_9 (k := 66) (by decide) zw_167 rfl hn_v0 hk_v0 d_Md_askObjects_48 (fun _ _ _ => rfl) hF (fun x14 hF => ?_)
      refine zi_aload_n C d_Md_askObjects_51 rfl 0 rfl ?_
      refine zi_getI C zc_9 (k := 51) (by decide) zw_191 rfl hn_v0 hk_v0 d_Md_askObjects_52 (fun _ _ _ => rfl) hF (fun x15 hF => ?_)
      refine zi_iconst (v := 0) C d_Md_askObjects_55 (by decide) ?_
      obtain ⟨r16, M, hqr16, hF⟩ := zzcall_e hF
      refine zi_callV_v (M2 := M) (n := 3) (As := [.int x14, .int x15, .int (0 : Int32)]) (st := []) C (c_Md_raise hqr16 hn_v0 hk_v0) zw_196 zw_18 (by decide +kernel) ⟨Nat.le_of_ble_eq_true rfl, Nat.le_of_ble_eq_true rfl⟩ rfl (Nat.le_of_ble_eq_true rfl) ⟨Nat.le_of_ble_eq_true rfl, Nat.le_of_ble_eq_true rfl⟩ zw_197 zw_198 zw_199 zc_9.1 hn_v0 hk_v0 rfl d_Md_askObjects_56 ?_
      exact zi_vret C hlocks hr d_Md_askObjects_59 rfl rfl (by cases hF; rfl) rfl
set_option maxHeartbeats 4000000 in
set_option maxRecDepth 100000 in
theorem g_Md_askObjects_14 {p : Program} {l : Launch} {e : Env} {s : State} {m : MethodId} {args : Array Value} {below : List Frame} {meth : Method} {c : Code} {D : zzD} {bs : Nat} {A : Nat → Prop} {S : zzS} {hz : Nat} {out : Unit × zzM}  (C : zzC p s m args c prog_12_method_50_code "BoardScriptModel" 6 D) (hlocks : meth.locks = false) (hr : meth.sig.returnType = none) (hin : meth.name = "askObjects")    : ∀ (n : Nat) (M : zzM) (v0 : Nat) (v1 : Int32) (v2 : Int64) (v4 : Int32) (v5 : Int32) (hn_v0 : v0 < S.2.1) (hk_v0 : zzk S v0 = 19) (hF : F_Md_askObjects_14 S   n M v0 v1 v2 v4 v5 = some out), zzB p l e { frames := 2, cells := 0, slots := 0, locals := 50 } s m args below meth c 6 D bs A (MQ below (zzQc D bs A S out.2 hz none) args s 0 0 A) 0 0 S M hz 14 [(0, .ref (bs + v0)), (1, .int v1), (2, .long v2), (4, .int v4), (5, .int v5)] [] := by
  intro n
  induction n with
  | zero => intro M v0 v1 v2 v4 v5 hn_v0 hk_v0 hF; cases hF
  | succ n ih => intro M v0 v1 v2 v4 v5 hn_v0 hk_v0 hF; exact g_Md_askObjects_14_b C hlocks hr hin   ih M v0 v1 v2 v4 v5 hn_v0 hk_v0 hF
def F_Md_askObjects (S : zzS)  (M : zzM) (v0 : Nat) (v1 : Int32) : Option (Unit × zzM) := zzref S 2 (zzR M v0 33) fun b1 => zzix S b1 (25 : Int32) (zzlet (zzL M b1 ((25 : Int32)).toNatClampNeg) fun x2 => F_Md_askObjects_14 S   2000 M v0 v1 x2 (0 : Int32) (0 : Int32))
set_option maxHeartbeats 4000000 in
set_option maxRecDepth 100000 in
theorem c_Md_askObjects {l : Launch} {D : zzD} {bs : Nat} {A : Nat → Prop} {S : zzS} {M : zzM} {hz : Nat} {out : Unit × zzM} {v0 : Nat} {v1 : Int32}   (hF : F_Md_askObjects S  M v0 v1 = some out) (hn_v0 : v0 < S.2.1) (hk_v0 : zzk S v0 = 19) : Met l y_Md_askObjects (Cond.code y_Md_askObjects prog_12_method_50_code 6 none :: zzW) { frames := 2, cells := 0, slots := 0, locals := 50 } (zzPc D bs A S M hz [.ref (bs + v0), .int v1]) (zzQc D bs A S out.2 hz none) 0 0 A := by
  refine zz_met [.ref (bs + v0), .int v1] (by decide) (Nat.le_of_ble_eq_true rfl) (fun p e s m args below meth c C hr hlocks hin hsz => ?_)
  refine zz_eq (lv' := [(0, .ref (bs + v0)), (1, .int v1)]) (st' := []) rfl rfl ?_
  unfold F_Md_askObjects at hF
  refine zi_aload_n C d_Md_askObjects_0 rfl 0 rfl ?_
  refine zi_getR C zc_9 (k := 33) (by decide) zw_10 rfl hn_v0 hk_v0 d_Md_askObjects_1 (fun _ _ _ => rfl) hF (fun b1 hn_b1 hk_b1 hF => ?_)
  refine zi_bipush (v := 25) C d_Md_askObjects_4 (by decide) ?_
  refine zi_lald C hn_b1 hk_b1 d_Md_askObjects_6 hF (fun x2 hF => ?_)
  refine zi_lstore_n (lv' := [(2, .long x2), (0, .ref (bs + v0)), (1, .int v1)]) C d_Md_askObjects_7 rfl (by decide) rfl ?_
  refine zi_iconst (v := 0) C d_Md_askObjects_8 (by decide) ?_
  refine zi_istore (lv' := [(4, .int (0 : Int32)), (2, .long x2), (0, .ref (bs + v0)), (1, .int v1)]) C d_Md_askObjects_9 (by decide) rfl ?_
  refine zi_iconst (v := 0) C d_Md_askObjects_11 (by decide) ?_
  refine zi_istore (lv' := [(5, .int (0 : Int32)), (4, .int (0 : Int32)), (2, .long x2), (0, .ref (bs + v0)), (1, .int v1)]) C d_Md_askObjects_12 (by decide) rfl ?_
  refine zz_sub [3, 4, 2, 1, 0] (lv' := [(0, .ref (bs + v0)), (1, .int v1), (2, .long x2), (4, .int (0 : Int32)), (5, .int (0 : Int32))]) rfl ?_
  exact g_Md_askObjects_14 C hlocks hr hin   _ _ v0 v1 x2 (0 : Int32) (0 : Int32) hn_v0 hk_v0 hF
def F_Md_act (S : zzS)  (M : zzM) (v0 : Nat) (v1 : Int32) (v2 : Int32) : Option (Unit × zzM) := if v1 = (14 : Int32) then (zzlet (zzI M v0 38) fun x31 => if (8 : Int32) ≤ x31 then (some ((), M)) else (zzref S 1 (zzR M v0 39) fun b32 => zzlet (zzI M v0 38) fun x33 => zzref S 1 (zzR M v0 10) fun b34 => zzix S b34 v2 (zzlet (zzI M b34 (v2).toNatClampNeg) fun x35 => zzix S b32 x33 (zzlet (zzsI M b32 (x33).toNatClampNeg x35) fun M => zzlet (zzI M v0 38) fun x36 => zzlet (x36 + (1 : Int32)) fun x37 => zzlet (zzsI M v0 38 x37) fun M => some ((), M))))) else (if v1 = (15 : Int32) then (zzcall (F_Md_askObjects S M v0 v2) fun r30 M => some ((), M)) else (zzref S 1 (zzR M v0 10) fun b1 => zzix S b1 v2 (zzlet (zzI M b1 (v2).toNatClampNeg) fun x2 => zzcall (F_Md_ask S M v0 x2) fun r3 M => if r3 = 0 then (zzlet (zzI M v0 66) fun x27 => zzlet (zzI M v0 51) fun x28 => zzcall (F_Md_raise S M v0 x27 x28 (0 : Int32)) fun r29 M => some ((), M)) else (if v1 = (4 : Int32) then (zzlet (zzI M v0 36) fun x20 => if (40 : Int32) ≤ x20 then (some ((), M)) else (zzref S 1 (zzR M v0 37) fun b21 => zzlet (zzI M v0 36) fun x22 => zzlet (zzL M v0 65) fun x23 => zzlet ((x23).toInt32) fun x24 => zzix S b21 x22 (zzlet (zzsI M b21 (x22).toNatClampNeg x24) fun M => zzlet (zzI M v0 36) fun x25 => zzlet (x25 + (1 : Int32)) fun x26 => zzlet (zzsI M v0 36 x26) fun M => some ((), M)))) else (if v1 = (12 : Int32) then (zzlet (zzI M v0 51) fun x16 => zzlet (zzL M v0 65) fun x17 => zzlet ((x17).toInt32) fun x18 => zzcall (F_Md_raise S M v0 (4 : Int32) x16 x18) fun r19 M => some ((), M)) else (if v1 = (13 : Int32) then (zzlet (zzL M v0 65) fun x12 => zzcall (F_Md_addObject S M v0 x12) fun r13 M => if r13 = (-1 : Int32) then (zzlet (zzI M v0 51) fun x14 => zzcall (F_Md_raise S M v0 (3 : Int32) x14 (0 : Int32)) fun r15 M => some ((), M)) else (some ((), M))) else (if v1 = (16 : Int32) then (zzlet (zzL M v0 65) fun x8 => zzcall (F_Md_makeList S M v0 x8) fun r9 M => if r9 = 0 then (zzlet (zzI M v0 51) fun x10 => zzcall (F_Md_raise S M v0 (3 : Int32) x10 (0 : Int32)) fun r11 M => some ((), M)) else (some ((), M))) else (zzlet (zzL M v0 65) fun x4 => zzlet (lg_cmp x4 (0 : Int64)) fun x5 => if x5 = 0 then (zzref S 1 (zzR M v0 11) fun b6 => zzix S b6 v2 (zzlet (zzI M b6 (v2).toNatClampNeg) fun x7 => zzlet (zzsI M v0 52 x7) fun M => some ((), M))) else (some ((), M))))))))))
set_option maxHeartbeats 4000000 in
set_option maxRecDepth 100000 in
theorem c_Md_act {l : Launch} {D : zzD} {bs : Nat} {A : Nat → Prop} {S : zzS} {M : zzM} {hz : Nat} {out : Unit × zzM} {v0 : Nat} {v1 : Int32} {v2 : Int32}   (hF : F_Md_act S  M v0 v1 v2 = some out) (hn_v0 : v0 < S.2.1) (hk_v0 : zzk S v0 = 19) : Met l y_Md_act (Cond.code y_Md_act prog_12_method_51_code 3 none :: zzW) { frames := 3, cells := 0, slots := 0, locals := 75 } (zzPc D bs A S M hz [.ref (bs + v0), .int v1, .int v2]) (zzQc D bs A S out.2 hz none) 0 0 A := by
  refine zz_met [.ref (bs + v0), .int v1, .int v2] (by decide) (Nat.le_of_ble_eq_true rfl) (fun p e s m args below meth c C hr hlocks hin hsz => ?_)
  refine zz_eq (lv' := [(0, .ref (bs + v0)), (1, .int v1), (2, .int v2)]) (st' := []) rfl rfl ?_
  unfold F_Md_act at hF
  refine zi_iload_n C d_Md_act_0 rfl 1 rfl ?_
  refine zi_bipush (v := 14) C d_Md_act_1 (by decide) ?_
  refine zi_icmp_ne (tgt := 41) C d_Md_act_3 (by decide) hF (fun hF => ?_) (fun hF => ?_)
  · refine zi_iload_n C d_Md_act_41 rfl 1 rfl ?_
    refine zi_bipush (v := 15) C d_Md_act_42 (by decide) ?_
    refine zi_icmp_ne (tgt := 53) C d_Md_act_44 (by decide) hF (fun hF => ?_) (fun hF => ?_)
    · refine zi_aload_n C d_Md_act_53 rfl 0 rfl ?_
      refine zi_aload_n C d_Md_act_54 rfl 0 rfl ?_
      refine zi_getR C zc_9 (k := 10) (by decide) zw_90 rfl hn_v0 hk_v0 d_Md_act_55 (fun _ _ _ => rfl) hF (fun b1 hn_b1 hk_b1 hF => ?_)
      refine zi_iload_n C d_Md_act_58 rfl 2 rfl ?_
      refine zi_iald C hn_b1 hk_b1 d_Md_act_59 hF (fun x2 hF => ?_)
      obtain ⟨r3, M, hqr3, hF⟩ := zzcall_e hF
      refine zi_callV_i (M2 := M) (r := r3) (n := 1) (As := [.int x2]) (st := []) C (c_Md_ask hqr3 hn_v0 hk_v0) zw_192 zw_18 (by decide +kernel) ⟨Nat.le_of_ble_eq_true rfl, Nat.le_of_ble_eq_true rfl⟩ rfl (Nat.le_of_ble_eq_true rfl) ⟨Nat.le_of_ble_eq_true rfl, Nat.le_of_ble_eq_true rfl⟩ zw_193 zw_194 zw_195 zc_9.1 hn_v0 hk_v0 rfl d_Md_act_60 ?_
      refine zi_if_ne (tgt := 82) C d_Md_act_63 (by decide) hF (fun hF => ?_) (fun hF => ?_)
      · refine zi_iload_n C d_Md_act_82 rfl 1 rfl ?_
        refine zi_iconst (v := 4) C d_Md_act_83 (by decide) ?_
        refine zi_icmp_ne (tgt := 123) C d_Md_act_84 (by decide) hF (fun hF => ?_) (fun hF => ?_)
        · refine zi_iload_n C d_Md_act_123 rfl 1 rfl ?_
          refine zi_bipush (v := 12) C d_Md_act_124 (by decide) ?_
          refine zi_icmp_ne (tgt := 146) C d_Md_act_126 (by decide) hF (fun hF => ?_) (fun hF => ?_)
          · refine zi_iload_n C d_Md_act_146 rfl 1 rfl ?_
            refine zi_bipush (v := 13) C d_Md_act_147 (by decide) ?_
            refine zi_icmp_ne (tgt := 177) C d_Md_act_149 (by decide) hF (fun hF => ?_) (fun hF => ?_)
            · refine zi_iload_n C d_Md_act_177 rfl 1 rfl ?_
              refine zi_bipush (v := 16) C d_Md_act_178 (by decide) ?_
              refine zi_icmp_ne (tgt := 207) C d_Md_act_180 (by decide) hF (fun hF => ?_) (fun hF => ?_)
              · refine zi_aload_n C d_Md_act_207 rfl 0 rfl ?_
                refine zi_getL C zc_9 (k := 65) (by decide) zw_169 rfl hn_v0 hk_v0 d_Md_act_208 (fun _ _ _ => rfl) hF (fun x4 hF => ?_)
                refine zi_lconst (v := 0) C d_Md_act_211 (by decide) ?_
                refine zi_lcmp C d_Md_act_212 hF (fun x5 hF => ?_)
                refine zi_if_ne (tgt := 226) C d_Md_act_213 (by decide) hF (fun hF => ?_) (fun hF => ?_)
                · exact zi_vret C hlocks hr d_Md_act_226 rfl rfl (by cases hF; rfl) rfl
                · refine zi_aload_n C d_Md_act_216 rfl 0 rfl ?_
                  refine zi_aload_n C d_Md_act_217 rfl 0 rfl ?_
                  refine zi_getR C zc_9 (k := 11) (by decide) zw_91 rfl hn_v0 hk_v0 d_Md_act_218 (fun _ _ _ => rfl) hF (fun b6 hn_b6 hk_b6 hF => ?_)
                  refine zi_iload_n C d_Md_act_221 rfl 2 rfl ?_
                  refine zi_iald C hn_b6 hk_b6 d_Md_act_222 hF (fun x7 hF => ?_)
                  refine zi_putI C zc_9 (k := 52) (by decide) zw_189 rfl (Or.inl rfl) hn_v0 hk_v0 d_Md_act_223 rfl hF (fun M hF => ?_)
                  exact zi_vret C hlocks hr d_Md_act_226 rfl rfl (by cases hF; rfl) rfl
              · refine zi_aload_n C d_Md_act_183 rfl 0 rfl ?_
                refine zi_aload_n C d_Md_act_184 rfl 0 rfl ?_
                refine zi_getL C zc_9 (k := 65) (by decide) zw_169 rfl hn_v0 hk_v0 d_Md_act_185 (fun _ _ _ => rfl) hF (fun x8 hF => ?_)
                obtain ⟨r9, M, hqr9, hF⟩ := zzcall_e hF
                refine zi_callV_i (M2 := M) (r := r9) (n := 1) (As := [.long x8]) (st := []) C (c_Md_makeList hqr9 hn_v0 hk_v0) zw_163 zw_18 (by decide +kernel) ⟨Nat.le_of_ble_eq_true rfl, Nat.le_of_ble_eq_true rfl⟩ rfl (Nat.le_of_ble_eq_true rfl) ⟨Nat.le_of_ble_eq_true rfl, Nat.le_of_ble_eq_true rfl⟩ zw_164 zw_165 zw_166 zc_9.1 hn_v0 hk_v0 rfl d_Md_act_188 ?_
                refine zi_if_ne (tgt := 226) C d_Md_act_191 (by decide) hF (fun hF => ?_) (fun hF => ?_)
                · exact zi_vret C hlocks hr d_Md_act_226 rfl rfl (by cases hF; rfl) rfl
                · refine zi_aload_n C d_Md_act_194 rfl 0 rfl ?_
                  refine zi_iconst (v := 3) C d_Md_act_195 (by decide) ?_
                  refine zi_aload_n C d_Md_act_196 rfl 0 rfl ?_
                  refine zi_getI C zc_9 (k := 51) (by decide) zw_191 rfl hn_v0 hk_v0 d_Md_act_197 (fun _ _ _ => rfl) hF (fun x10 hF => ?_)
                  refine zi_iconst (v := 0) C d_Md_act_200 (by decide) ?_
                  obtain ⟨r11, M, hqr11, hF⟩ := zzcall_e hF
                  refine zi_callV_v (M2 := M) (n := 3) (As := [.int (3 : Int32), .int x10, .int (0 : Int32)]) (st := []) C (c_Md_raise hqr11 hn_v0 hk_v0) zw_196 zw_18 (by decide +kernel) ⟨Nat.le_of_ble_eq_true rfl, Nat.le_of_ble_eq_true rfl⟩ rfl (Nat.le_of_ble_eq_true rfl) ⟨Nat.le_of_ble_eq_true rfl, Nat.le_of_ble_eq_true rfl⟩ zw_197 zw_198 zw_199 zc_9.1 hn_v0 hk_v0 rfl d_Md_act_201 ?_
                  refine zi_goto (tgt := 226) C d_Md_act_204 (by decide) ?_
                  exact zi_vret C hlocks hr d_Md_act_226 rfl rfl (by cases hF; rfl) rfl
            · refine zi_aload_n C d_Md_act_152 rfl 0 rfl ?_
              refine zi_aload_n C d_Md_act_153 rfl 0 rfl ?_
              refine zi_getL C zc_9 (k := 65) (by decide) zw_169 rfl hn_v0 hk_v0 d_Md_act_154 (fun _ _ _ => rfl) hF (fun x12 hF => ?_)
              obtain ⟨r13, M, hqr13, hF⟩ := zzcall_e hF
              refine zi_callV_i (M2 := M) (r := r13) (n := 1) (As := [.long x12]) (st := []) C (c_Md_addObject hqr13 hn_v0 hk_v0) zw_153 zw_18 (by decide +kernel) ⟨Nat.le_of_ble_eq_true rfl, Nat.le_of_ble_eq_true rfl⟩ rfl (Nat.le_of_ble_eq_true rfl) ⟨Nat.le_of_ble_eq_true rfl, Nat.le_of_ble_eq_true rfl⟩ zw_154 zw_155 zw_156 zc_9.1 hn_v0 hk_v0 rfl d_Md_act_157 ?_
              refine zi_iconst (v := -1) C d_Md_act_160 (by decide) ?_
              refine zi_icmp_ne (tgt := 226) C d_Md_act_161 (by decide) hF (fun hF => ?_) (fun hF => ?_)
              · exact zi_vret C hlocks hr d_Md_act_226 rfl rfl (by cases hF; rfl) rfl
              · refine zi_aload_n C d_Md_act_164 rfl 0 rfl ?_
                refine zi_iconst (v := 3) C d_Md_act_165 (by decide) ?_
                refine zi_aload_n C d_Md_act_166 rfl 0 rfl ?_
                refine zi_getI C zc_9 (k := 51) (by decide) zw_191 rfl hn_v0 hk_v0 d_Md_act_167 (fun _ _ _ => rfl) hF (fun x14 hF => ?_)
                refine zi_iconst (v := 0) C d_Md_act_170 (by decide) ?_
                obtain ⟨r15, M, hqr15, hF⟩ := zzcall_e hF
                refine zi_callV_v (M2 := M) (n := 3) (As := [.int (3 : Int32), .int x14, .int (0 : Int32)]) (st := []) C (c_Md_raise hqr15 hn_v0 hk_v0) zw_196 zw_18 (by decide +kernel) ⟨Nat.le_of_ble_eq_true rfl, Nat.le_of_ble_eq_true rfl⟩ rfl (Nat.le_of_ble_eq_true rfl) ⟨Nat.le_of_ble_eq_true rfl, Nat.le_of_ble_eq_true rfl⟩ zw_197 zw_198 zw_199 zc_9.1 hn_v0 hk_v0 rfl d_Md_act_171 ?_
                refine zi_goto (tgt := 226) C d_Md_act_174 (by decide) ?_
                exact zi_vret C hlocks hr d_Md_act_226 rfl rfl (by cases hF; rfl) rfl
          · refine zi_aload_n C d_Md_act_129 rfl 0 rfl ?_
            refine zi_iconst (v := 4) C d_Md_act_130 (by decide) ?_
            refine zi_aload_n C d_Md_act_131 rfl 0 rfl ?_
            refine zi_getI C zc_9 (k := 51) (by decide) zw_191 rfl hn_v0 hk_v0 d_Md_act_132 (fun _ _ _ => rfl) hF (fun x16 hF => ?_)
            refine zi_aload_n C d_Md_act_135 rfl 0 rfl ?_
            refine zi_getL C zc_9 (k := 65) (by decide) zw_169 rfl hn_v0 hk_v0 d_Md_act_136 (fun _ _ _ => rfl) hF (fun x17 hF => ?_)
            refine zi_l2i C d_Md_act_139 hF (fun x18 hF => ?_)
            obtain ⟨r19, M, hqr19, hF⟩ := zzcall_e hF
            refine zi_callV_v (M2 := M) (n := 3) (As := [.int (4 : Int32), .int x16, .int x18]) (st := []) C (c_Md_raise hqr19 hn_v0 hk_v0) zw_196 zw_18 (by decide +kernel) ⟨Nat.le_of_ble_eq_true rfl, Nat.le_of_ble_eq_true rfl⟩ rfl (Nat.le_of_ble_eq_true rfl) ⟨Nat.le_of_ble_eq_true rfl, Nat.le_of_ble_eq_true rfl⟩ zw_197 zw_198 zw_199 zc_9.1 hn_v0 hk_v0 rfl d_Md_act_140 ?_
            refine zi_goto (tgt := 226) C d_Md_act_143 (by decide) ?_
            exact zi_vret C hlocks hr d_Md_act_226 rfl rfl (by cases hF; rfl) rfl
        · refine zi_aload_n C d_Md_act_87 rfl 0 rfl ?_
          refine zi_getI C zc_9 (k := 36) (by decide) zw_1 rfl hn_v0 hk_v0 d_Md_act_88 (fun _ _ _ => rfl) hF (fun x20 hF => ?_)
          refine zi_bipush (v := 40) C d_Md_act_91 (by decide) ?_
          refine zi_icmp_ge (tgt := 226) C d_Md_act_93 (by decide) hF (fun hF => ?_) (fun hF => ?_)
          · exact zi_vret C hlocks hr d_Md_act_226 rfl rfl (by cases hF; rfl) rfl
          · refine zi_aload_n C d_Md_act_96 rfl 0 rfl ?_
            refine zi_getR C zc_9 (k := 37) (by decide) zw_201 rfl hn_v0 hk_v0 d_Md_act_97 (fun _ _ _ => rfl) hF (fun b21 hn_b21 hk_b21 hF => ?_)
            refine zi_aload_n C d_Md_act_100 rfl 0 rfl ?_
            refine zi_getI C zc_9 (k := 36) (by decide) zw_1 rfl hn_v0 hk_v0 d_Md_act_101 (fun _ _ _ => rfl) hF (fun x22 hF => ?_)
            refine zi_aload_n C d_Md_act_104 rfl 0 rfl ?_
            refine zi_getL C zc_9 (k := 65) (by decide) zw_169 rfl hn_v0 hk_v0 d_Md_act_105 (fun _ _ _ => rfl) hF (fun x23 hF => ?_)
            refine zi_l2i C d_Md_act_108 hF (fun x24 hF => ?_)
            refine zi_iast C hn_b21 hk_b21 d_Md_act_109 hF (fun M hF => ?_)
            refine zi_aload_n C d_Md_act_110 rfl 0 rfl ?_
            refine zi_dup C d_Md_act_111 rfl ?_
            refine zi_getI C zc_9 (k := 36) (by decide) zw_1 rfl hn_v0 hk_v0 d_Md_act_112 (fun _ _ _ => rfl) hF (fun x25 hF => ?_)
            refine zi_iconst (v := 1) C d_Md_act_115 (by decide) ?_
            refine zi_iadd C d_Md_act_116 hF (fun x26 hF => ?_)
            refine zi_putI C zc_9 (k := 36) (by decide) zw_1 rfl (Or.inl rfl) hn_v0 hk_v0 d_Md_act_117 rfl hF (fun M hF => ?_)
            refine zi_goto (tgt := 226) C d_Md_act_120 (by decide) ?_
            exact zi_vret C hlocks hr d_Md_act_226 rfl rfl (by cases hF; rfl) rfl
      · refine zi_aload_n C d_Md_act_66 rfl 0 rfl ?_
        refine zi_aload_n C d_Md_act_67 rfl 0 rfl ?_
        refine zi_getI C zc_9 (k := 66) (by decide) zw_167 rfl hn_v0 hk_v0 d_Md_act_68 (fun _ _ _ => rfl) hF (fun x27 hF => ?_)
        refine zi_aload_n C d_Md_act_71 rfl 0 rfl ?_
        refine zi_getI C zc_9 (k := 51) (by decide) zw_191 rfl hn_v0 hk_v0 d_Md_act_72 (fun _ _ _ => rfl) hF (fun x28 hF => ?_)
        refine zi_iconst (v := 0) C d_Md_act_75 (by decide) ?_
        obtain ⟨r29, M, hqr29, hF⟩ := zzcall_e hF
        refine zi_callV_v (M2 := M) (n := 3) (As := [.int x27, .int x28, .int (0 : Int32)]) (st := []) C (c_Md_raise hqr29 hn_v0 hk_v0) zw_196 zw_18 (by decide +kernel) ⟨Nat.le_of_ble_eq_true rfl, Nat.le_of_ble_eq_true rfl⟩ rfl (Nat.le_of_ble_eq_true rfl) ⟨Nat.le_of_ble_eq_true rfl, Nat.le_of_ble_eq_true rfl⟩ zw_197 zw_198 zw_199 zc_9.1 hn_v0 hk_v0 rfl d_Md_act_76 ?_
        refine zi_goto (tgt := 226) C d_Md_act_79 (by decide) ?_
        exact zi_vret C hlocks hr d_Md_act_226 rfl rfl (by cases hF; rfl) rfl
    · refine zi_aload_n C d_Md_act_47 rfl 0 rfl ?_
      refine zi_iload_n C d_Md_act_48 rfl 2 rfl ?_
      obtain ⟨r30, M, hqr30, hF⟩ := zzcall_e hF
      refine zi_callV_v (M2 := M) (n := 1) (As := [.int v2]) (st := []) C (c_Md_askObjects hqr30 hn_v0 hk_v0) zw_202 zw_18 (by decide +kernel) ⟨Nat.le_of_ble_eq_true rfl, Nat.le_of_ble_eq_true rfl⟩ rfl (Nat.le_of_ble_eq_true rfl) ⟨Nat.le_of_ble_eq_true rfl, Nat.le_of_ble_eq_true rfl⟩ zw_203 zw_204 zw_205 zc_9.1 hn_v0 hk_v0 rfl d_Md_act_49 ?_
      exact zi_vret C hlocks hr d_Md_act_52 rfl rfl (by cases hF; rfl) rfl
  · refine zi_aload_n C d_Md_act_6 rfl 0 rfl ?_
    refine zi_getI C zc_9 (k := 38) (by decide) zw_2 rfl hn_v0 hk_v0 d_Md_act_7 (fun _ _ _ => rfl) hF (fun x31 hF => ?_)
    refine zi_bipush (v := 8) C d_Md_act_10 (by decide) ?_
    refine zi_icmp_ge (tgt := 40) C d_Md_act_12 (by decide) hF (fun hF => ?_) (fun hF => ?_)
    · exact zi_vret C hlocks hr d_Md_act_40 rfl rfl (by cases hF; rfl) rfl
    · refine zi_aload_n C d_Md_act_15 rfl 0 rfl ?_
      refine zi_getR C zc_9 (k := 39) (by decide) zw_206 rfl hn_v0 hk_v0 d_Md_act_16 (fun _ _ _ => rfl) hF (fun b32 hn_b32 hk_b32 hF => ?_)
      refine zi_aload_n C d_Md_act_19 rfl 0 rfl ?_
      refine zi_getI C zc_9 (k := 38) (by decide) zw_2 rfl hn_v0 hk_v0 d_Md_act_20 (fun _ _ _ => rfl) hF (fun x33 hF => ?_)
      refine zi_aload_n C d_Md_act_23 rfl 0 rfl ?_
      refine zi_getR C zc_9 (k := 10) (by decide) zw_90 rfl hn_v0 hk_v0 d_Md_act_24 (fun _ _ _ => rfl) hF (fun b34 hn_b34 hk_b34 hF => ?_)
      refine zi_iload_n C d_Md_act_27 rfl 2 rfl ?_
      refine zi_iald C hn_b34 hk_b34 d_Md_act_28 hF (fun x35 hF => ?_)
      refine zi_iast C hn_b32 hk_b32 d_Md_act_29 hF (fun M hF => ?_)
      refine zi_aload_n C d_Md_act_30 rfl 0 rfl ?_
      refine zi_dup C d_Md_act_31 rfl ?_
      refine zi_getI C zc_9 (k := 38) (by decide) zw_2 rfl hn_v0 hk_v0 d_Md_act_32 (fun _ _ _ => rfl) hF (fun x36 hF => ?_)
      refine zi_iconst (v := 1) C d_Md_act_35 (by decide) ?_
      refine zi_iadd C d_Md_act_36 hF (fun x37 hF => ?_)
      refine zi_putI C zc_9 (k := 38) (by decide) zw_2 rfl (Or.inl rfl) hn_v0 hk_v0 d_Md_act_37 rfl hF (fun M hF => ?_)
      exact zi_vret C hlocks hr d_Md_act_40 rfl rfl (by cases hF; rfl) rfl
