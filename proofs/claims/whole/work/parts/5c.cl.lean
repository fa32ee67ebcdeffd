def F_Rd_number_4_b (S : zzS)  (k4 : zzM → Nat → Int32 → Int32 → Option (Int32 × zzM)) (M : zzM) (v0 : Nat) (v1 : Int32) (v2 : Int32) : Option (Int32 × zzM) := if (4 : Int32) ≤ v2 then (some (v1, M)) else (zzlet (zzI M v0 2) fun x1 => zzlet (zzI M v0 1) fun x2 => if x2 ≤ x1 then (some (v1, M)) else (zzref S 3 (zzR M v0 0) fun b3 => zzlet (zzI M v0 2) fun x4 => zzix S b3 x4 (zzlet (zzI M b3 (x4).toNatClampNeg) fun x5 => zzlet (x5 - (48 : Int32)) fun x6 => if x6 < 0 then (some (v1, M)) else (if x6 ≤ (9 : Int32) then (zzlet (v1 * (10 : Int32)) fun x7 => zzlet (x7 + x6) fun x8 => zzlet (zzI M v0 2) fun x9 => zzlet (x9 + (1 : Int32)) fun x10 => zzlet (zzsI M v0 2 x10) fun M => zzlet (v2 + (1 : Int32)) fun x11 => k4 M v0 x8 x11) else (some (v1, M))))))
def F_Rd_number_4 (S : zzS)   (n : Nat) : zzM → Nat → Int32 → Int32 → Option (Int32 × zzM) := Nat.rec (fun _ _ _ _ => none) (fun _ k => F_Rd_number_4_b S   k) n
set_option maxHeartbeats 4000000 in
set_option maxRecDepth 100000 in
theorem g_Rd_number_4_b {p : Program} {l : Launch} {e : Env} {s : State} {m : MethodId} {args : Array Value} {below : List Frame} {meth : Method} {c : Code} {D : zzD} {bs : Nat} {A : Nat → Prop} {S : zzS} {hz : Nat} {out : Int32 × zzM}  (C : zzC p s m args c prog_5_method_17_code "BoardScript$Reader" 4 D) (hlocks : meth.locks = false) (hr : meth.sig.returnType = (some .int)) (hin : meth.name = "number")  {k4 : zzM → Nat → Int32 → Int32 → Option (Int32 × zzM)} (hk4 : ∀ (M : zzM) (v0 : Nat) (v1 : Int32) (v2 : Int32) (hn_v0 : v0 < S.2.1) (hk_v0 : zzk S v0 = 17), k4 M v0 v1 v2 = some out → zzB p l e { frames := 0, cells := 0, slots := 0, locals := 0 } s m args below meth c 4 D bs A (MQ below (zzQc D bs A S out.2 hz (some (.int out.1))) args s 0 0 A) 0 0 S M hz 4 [(0, .ref (bs + v0)), (1, .int v1), (2, .int v2)] []) (M : zzM) (v0 : Nat) (v1 : Int32) (v2 : Int32) (hn_v0 : v0 < S.2.1) (hk_v0 : zzk S v0 = 17) (hF : F_Rd_number_4_b S  k4 M v0 v1 v2 = some out) : zzB p l e { frames := 0, cells := 0, slots := 0, locals := 0 } s m args below meth c 4 D bs A (MQ below (zzQc D bs A S out.2 hz (some (.int out.1))) args s 0 0 A) 0 0 S M hz 4 [(0, .ref (bs + v0)), (1, .int v1), (2, .int v2)] [] := by
  unfold F_Rd_number_4_b at hF
  refine zi_iload_n C d_Rd_number_4 rfl 2 rfl ?_
  refine zi_iconst (v := 4) C d_Rd_number_5 (by decide) ?_
  refine zi_icmp_ge (tgt := 69) C d_Rd_number_6 (by decide) hF (fun hF => ?_) (fun hF => ?_)
  · refine zi_iload_n C d_Rd_number_69 rfl 1 rfl ?_
    exact zi_iret C hlocks hr d_Rd_number_70 (by cases hF; rfl) rfl (by cases hF; rfl) rfl
  · refine zi_aload_n C d_Rd_number_9 rfl 0 rfl ?_
    refine zi_getI C zc_7 (k := 2) (by decide) zw_362 rfl hn_v0 hk_v0 d_Rd_number_10 (fun _ _ _ => rfl) hF (fun x1 hF => ?_)
    refine zi_aload_n C d_Rd_number_13 rfl 0 rfl ?_
    refine zi_getI C zc_7 (k := 1) (by decide) zw_363 rfl hn_v0 hk_v0 d_Rd_number_14 (fun _ _ _ => rfl) hF (fun x2 hF => ?_)
    refine zi_icmp_ge (tgt := 69) C d_Rd_number_17 (by decide) hF (fun hF => ?_) (fun hF => ?_)
    · refine zi_iload_n C d_Rd_number_69 rfl 1 rfl ?_
      exact zi_iret C hlocks hr d_Rd_number_70 (by cases hF; rfl) rfl (by cases hF; rfl) rfl
    · refine zi_aload_n C d_Rd_number_20 rfl 0 rfl ?_
      refine zi_getR C zc_7 (k := 0) (by decide) zw_364 rfl hn_v0 hk_v0 d_Rd_number_21 (fun _ _ _ => rfl) hF (fun b3 hn_b3 hk_b3 hF => ?_)
      refine zi_aload_n C d_Rd_number_24 rfl 0 rfl ?_
      refine zi_getI C zc_7 (k := 2) (by decide) zw_362 rfl hn_v0 hk_v0 d_Rd_number_25 (fun _ _ _ => rfl) hF (fun x4 hF => ?_)
      refine zi_cald C hn_b3 hk_b3 d_Rd_number_28 hF (fun x5 hF => ?_)
      refine zi_bipush (v := 48) C d_Rd_number_29 (by decide) ?_
      refine zi_isub C d_Rd_number_31 hF (fun x6 hF => ?_)
      refine zi_istore_n (lv' := [(3, .int x6), (0, .ref (bs + v0)), (1, .int v1), (2, .int v2)]) C d_Rd_number_32 rfl (by decide) rfl ?_
      refine zi_iload_n C d_Rd_number_33 rfl 0 rfl ?_
      refine zi_if_lt (tgt := 69) C d_Rd_number_34 (by decide) hF (fun hF => ?_) (fun hF => ?_)
      · refine zi_iload_n C d_Rd_number_69 rfl 2 rfl ?_
        exact zi_iret C hlocks hr d_Rd_number_70 (by cases hF; rfl) rfl (by cases hF; rfl) rfl
      · refine zi_iload_n C d_Rd_number_37 rfl 0 rfl ?_
        refine zi_bipush (v := 9) C d_Rd_number_38 (by decide) ?_
        refine zi_icmp_le (tgt := 46) C d_Rd_number_40 (by decide) hF (fun hF => ?_) (fun hF => ?_)
        · refine zi_iload_n C d_Rd_number_46 rfl 2 rfl ?_
          refine zi_bipush (v := 10) C d_Rd_number_47 (by decide) ?_
          refine zi_imul C d_Rd_number_49 hF (fun x7 hF => ?_)
          refine zi_iload_n C d_Rd_number_50 rfl 0 rfl ?_
          refine zi_iadd C d_Rd_number_51 hF (fun x8 hF => ?_)
          refine zi_istore_n (lv' := [(1, .int x8), (3, .int x6), (0, .ref (bs + v0)), (2, .int v2)]) C d_Rd_number_52 rfl (by decide) rfl ?_
          refine zi_aload_n C d_Rd_number_53 rfl 2 rfl ?_
          refine zi_dup C d_Rd_number_54 rfl ?_
          refine zi_getI C zc_7 (k := 2) (by decide) zw_362 rfl hn_v0 hk_v0 d_Rd_number_55 (fun _ _ _ => rfl) hF (fun x9 hF => ?_)
          refine zi_iconst (v := 1) C d_Rd_number_58 (by decide) ?_
          refine zi_iadd C d_Rd_number_59 hF (fun x10 hF => ?_)
          refine zi_putI C zc_7 (k := 2) (by decide) zw_362 rfl (Or.inl rfl) hn_v0 hk_v0 d_Rd_number_60 rfl hF (fun M hF => ?_)
          refine zi_iinc (j := 3) (v0 := 1) C d_Rd_number_63 rfl (by decide) (by decide) hF (fun x11 => [(2, .int x11), (1, .int x8), (3, .int x6), (0, .ref (bs + v0))]) (fun _ => rfl) (fun x11 hF => ?_)
          refine zi_goto (tgt := 4) C d_Rd_number_66 (by decide) ?_
          refine zz_sub [3, 1, 0] (lv' := [(0, .ref (bs + v0)), (1, .int x8), (2, .int x11)]) rfl ?_
          exact hk4 _ v0 x8 x11 hn_v0 hk_v0 hF
        · refine zi_goto (tgt := 69) C d_Rd_number_43 (by decide) ?_
          refine zi_iload_n C d_Rd_number_69 rfl 2 rfl ?_
          exact zi_iret C hlocks hr d_Rd_number_70 (by cases hF; rfl) rfl (by cases hF; rfl) rfl
set_option maxHeartbeats 4000000 in
set_option maxRecDepth 100000 in
theorem g_Rd_number_4 {p : Program} {l : Launch} {e : Env} {s : State} {m : MethodId} {args : Array Value} {below : List Frame} {meth : Method} {c : Code} {D : zzD} {bs : Nat} {A : Nat → Prop} {S : zzS} {hz : Nat} {out : Int32 × zzM}  (C : zzC p s m args c prog_5_method_17_code "BoardScript$Reader" 4 D) (hlocks : meth.locks = false) (hr : meth.sig.returnType = (some .int)) (hin : meth.name = "number")    : ∀ (n : Nat) (M : zzM) (v0 : Nat) (v1 : Int32) (v2 : Int32) (hn_v0 : v0 < S.2.1) (hk_v0 : zzk S v0 = 17) (hF : F_Rd_number_4 S   n M v0 v1 v2 = some out), zzB p l e { frames := 0, cells := 0, slots := 0, locals := 0 } s m args below meth c 4 D bs A (MQ below (zzQc D bs A S out.2 hz (some (.int out.1))) args s 0 0 A) 0 0 S M hz 4 [(0, .ref (bs + v0)), (1, .int v1), (2, .int v2)] [] := by
  intro n
  induction n with
  | zero => intro M v0 v1 v2 hn_v0 hk_v0 hF; cases hF
  | succ n ih => intro M v0 v1 v2 hn_v0 hk_v0 hF; exact g_Rd_number_4_b C hlocks hr hin   ih M v0 v1 v2 hn_v0 hk_v0 hF
def F_Rd_number (S : zzS)  (M : zzM) (v0 : Nat) : Option (Int32 × zzM) := F_Rd_number_4 S   2000 M v0 (0 : Int32) (0 : Int32)
set_option maxHeartbeats 4000000 in
set_option maxRecDepth 100000 in
theorem c_Rd_number {l : Launch} {D : zzD} {bs : Nat} {A : Nat → Prop} {S : zzS} {M : zzM} {hz : Nat} {out : Int32 × zzM} {v0 : Nat}   (hF : F_Rd_number S  M v0 = some out) (hn_v0 : v0 < S.2.1) (hk_v0 : zzk S v0 = 17) : Met l y_Rd_number (Cond.code y_Rd_number prog_5_method_17_code 4 (some .int) :: zzW) { frames := 0, cells := 0, slots := 0, locals := 0 } (zzPc D bs A S M hz [.ref (bs + v0)]) (zzQc D bs A S out.2 hz (some (.int out.1))) 0 0 A := by
  refine zz_met [.ref (bs + v0)] (by decide) (Nat.le_of_ble_eq_true rfl) (fun p e s m args below meth c C hr hlocks hin hsz => ?_)
  refine zz_eq (lv' := [(0, .ref (bs + v0))]) (st' := []) rfl rfl ?_
  unfold F_Rd_number at hF
  refine zi_iconst (v := 0) C d_Rd_number_0 (by decide) ?_
  refine zi_istore_n (lv' := [(1, .int (0 : Int32)), (0, .ref (bs + v0))]) C d_Rd_number_1 rfl (by decide) rfl ?_
  refine zi_iconst (v := 0) C d_Rd_number_2 (by decide) ?_
  refine zi_istore_n (lv' := [(2, .int (0 : Int32)), (1, .int (0 : Int32)), (0, .ref (bs + v0))]) C d_Rd_number_3 rfl (by decide) rfl ?_
  refine zz_sub [2, 1, 0] (lv' := [(0, .ref (bs + v0)), (1, .int (0 : Int32)), (2, .int (0 : Int32))]) rfl ?_
  exact g_Rd_number_4 C hlocks hr hin   _ _ v0 (0 : Int32) (0 : Int32) hn_v0 hk_v0 hF
def F_Rd_emit (S : zzS)  (M : zzM) (v0 : Nat) (v1 : Int32) (v2 : Int32) : Option (Int32 × zzM) := zzlet (zzI M v0 7) fun x1 => zzref S 1 (zzR M v0 6) fun b2 => zzlet (Int32.ofNat (zzn S b2)) fun x3 => if x1 < x3 then (zzref S 1 (zzR M v0 6) fun b4 => zzlet (zzI M v0 7) fun x5 => zzlet (v2 <<< ((7 : Int32) &&& 31)) fun x6 => zzlet (x6 ||| v1) fun x7 => zzix S b4 x5 (zzlet (zzsI M b4 (x5).toNatClampNeg x7) fun M => zzlet (zzI M v0 7) fun x8 => zzlet (x8 + (1 : Int32)) fun x9 => zzlet (zzsI M v0 7 x9) fun M => some ((1 : Int32), M))) else (some ((0 : Int32), M))
set_option maxHeartbeats 4000000 in
set_option maxRecDepth 100000 in
theorem c_Rd_emit {l : Launch} {D : zzD} {bs : Nat} {A : Nat → Prop} {S : zzS} {M : zzM} {hz : Nat} {out : Int32 × zzM} {v0 : Nat} {v1 : Int32} {v2 : Int32}   (hF : F_Rd_emit S  M v0 v1 v2 = some out) (hn_v0 : v0 < S.2.1) (hk_v0 : zzk S v0 = 17) : Met l y_Rd_emit (Cond.code y_Rd_emit prog_5_method_18_code 3 (some .boolean) :: zzW) { frames := 0, cells := 0, slots := 0, locals := 0 } (zzPc D bs A S M hz [.ref (bs + v0), .int v1, .int v2]) (zzQc D bs A S out.2 hz (some (.int out.1))) 0 0 A := by
  refine zz_met [.ref (bs + v0), .int v1, .int v2] (by decide) (Nat.le_of_ble_eq_true rfl) (fun p e s m args below meth c C hr hlocks hin hsz => ?_)
  refine zz_eq (lv' := [(0, .ref (bs + v0)), (1, .int v1), (2, .int v2)]) (st' := []) rfl rfl ?_
  unfold F_Rd_emit at hF
  refine zi_aload_n C d_Rd_emit_0 rfl 0 rfl ?_
  refine zi_getI C zc_7 (k := 7) (by decide) zw_377 rfl hn_v0 hk_v0 d_Rd_emit_1 (fun _ _ _ => rfl) hF (fun x1 hF => ?_)
  refine zi_aload_n C d_Rd_emit_4 rfl 0 rfl ?_
  refine zi_getR C zc_7 (k := 6) (by decide) zw_378 rfl hn_v0 hk_v0 d_Rd_emit_5 (fun _ _ _ => rfl) hF (fun b2 hn_b2 hk_b2 hF => ?_)
  refine zi_alen C hn_b2 hk_b2 (by decide) (by decide) d_Rd_emit_8 hF (fun x3 hF => ?_)
  refine zi_icmp_lt (tgt := 14) C d_Rd_emit_9 (by decide) hF (fun hF => ?_) (fun hF => ?_)
  · refine zi_aload_n C d_Rd_emit_14 rfl 0 rfl ?_
    refine zi_getR C zc_7 (k := 6) (by decide) zw_378 rfl hn_v0 hk_v0 d_Rd_emit_15 (fun _ _ _ => rfl) hF (fun b4 hn_b4 hk_b4 hF => ?_)
    refine zi_aload_n C d_Rd_emit_18 rfl 0 rfl ?_
    refine zi_getI C zc_7 (k := 7) (by decide) zw_377 rfl hn_v0 hk_v0 d_Rd_emit_19 (fun _ _ _ => rfl) hF (fun x5 hF => ?_)
    refine zi_iload_n C d_Rd_emit_22 rfl 2 rfl ?_
    refine zi_bipush (v := 7) C d_Rd_emit_23 (by decide) ?_
    refine zi_ishl C d_Rd_emit_25 hF (fun x6 hF => ?_)
    refine zi_iload_n C d_Rd_emit_26 rfl 1 rfl ?_
    refine zi_ior C d_Rd_emit_27 hF (fun x7 hF => ?_)
    refine zi_iast C hn_b4 hk_b4 d_Rd_emit_28 hF (fun M hF => ?_)
    refine zi_aload_n C d_Rd_emit_29 rfl 0 rfl ?_
    refine zi_dup C d_Rd_emit_30 rfl ?_
    refine zi_getI C zc_7 (k := 7) (by decide) zw_377 rfl hn_v0 hk_v0 d_Rd_emit_31 (fun _ _ _ => rfl) hF (fun x8 hF => ?_)
    refine zi_iconst (v := 1) C d_Rd_emit_34 (by decide) ?_
    refine zi_iadd C d_Rd_emit_35 hF (fun x9 hF => ?_)
    refine zi_putI C zc_7 (k := 7) (by decide) zw_377 rfl (Or.inl rfl) hn_v0 hk_v0 d_Rd_emit_36 rfl hF (fun M hF => ?_)
    refine zi_iconst (v := 1) C d_Rd_emit_39 (by decide) ?_
    exact zi_zret C hlocks hr (by decide +kernel) d_Rd_emit_40 (by cases hF; rfl) rfl (by cases hF; rfl) rfl
  · refine zi_iconst (v := 0) C d_Rd_emit_12 (by decide) ?_
    exact zi_zret C hlocks hr (by decide +kernel) d_Rd_emit_13 (by cases hF; rfl) rfl (by cases hF; rfl) rfl
def F_Rd_isVariable (S : zzS)  (M : zzM) (v0 : Int32) : Option (Int32 × zzM) := if v0 < (97 : Int32) then (some ((0 : Int32), M)) else (if (122 : Int32) < v0 then (some ((0 : Int32), M)) else (some ((1 : Int32), M)))
set_option maxHeartbeats 4000000 in
set_option maxRecDepth 100000 in
theorem c_Rd_isVariable {l : Launch} {D : zzD} {bs : Nat} {A : Nat → Prop} {S : zzS} {M : zzM} {hz : Nat} {out : Int32 × zzM} {v0 : Int32}   (hF : F_Rd_isVariable S  M v0 = some out)  : Met l y_Rd_isVariable (Cond.code y_Rd_isVariable prog_5_method_20_code 1 (some .boolean) :: zzW) { frames := 0, cells := 0, slots := 0, locals := 0 } (zzPc D bs A S M hz [.int v0]) (zzQc D bs A S out.2 hz (some (.int out.1))) 0 0 A := by
  refine zz_met [.int v0] (by decide) (Nat.le_of_ble_eq_true rfl) (fun p e s m args below meth c C hr hlocks hin hsz => ?_)
  refine zz_eq (lv' := [(0, .int v0)]) (st' := []) rfl rfl ?_
  unfold F_Rd_isVariable at hF
  refine zi_iload_n C d_Rd_isVariable_0 rfl 0 rfl ?_
  refine zi_bipush (v := 97) C d_Rd_isVariable_1 (by decide) ?_
  refine zi_icmp_lt (tgt := 16) C d_Rd_isVariable_3 (by decide) hF (fun hF => ?_) (fun hF => ?_)
  · refine zi_iconst (v := 0) C d_Rd_isVariable_16 (by decide) ?_
    exact zi_zret C hlocks hr (by decide +kernel) d_Rd_isVariable_17 (by cases hF; rfl) rfl (by cases hF; rfl) rfl
  · refine zi_iload_n C d_Rd_isVariable_6 rfl 0 rfl ?_
    refine zi_bipush (v := 122) C d_Rd_isVariable_7 (by decide) ?_
    refine zi_icmp_gt (tgt := 16) C d_Rd_isVariable_9 (by decide) hF (fun hF => ?_) (fun hF => ?_)
    · refine zi_iconst (v := 0) C d_Rd_isVariable_16 (by decide) ?_
      exact zi_zret C hlocks hr (by decide +kernel) d_Rd_isVariable_17 (by cases hF; rfl) rfl (by cases hF; rfl) rfl
    · refine zi_iconst (v := 1) C d_Rd_isVariable_12 (by decide) ?_
      refine zi_goto (tgt := 17) C d_Rd_isVariable_13 (by decide) ?_
      exact zi_zret C hlocks hr (by decide +kernel) d_Rd_isVariable_17 (by cases hF; rfl) rfl (by cases hF; rfl) rfl
def F_Rd_joins (S : zzS)  (M : zzM) (v0 : Int32) (v1 : Int32) : Option (Int32 × zzM) := if v1 = (37 : Int32) then (if v0 = (2 : Int32) then (some ((1 : Int32), M)) else (some ((0 : Int32), M))) else (if v1 = (38 : Int32) then (some ((0 : Int32), M)) else (if v1 = (39 : Int32) then (some ((0 : Int32), M)) else (if v1 = (40 : Int32) then (some ((0 : Int32), M)) else (if v1 = (41 : Int32) then (some ((0 : Int32), M)) else (if v1 = (42 : Int32) then (if v0 = (2 : Int32) then (some ((1 : Int32), M)) else (some ((0 : Int32), M))) else (if v1 = (43 : Int32) then (if v0 = (1 : Int32) then (some ((1 : Int32), M)) else (some ((0 : Int32), M))) else (if v1 = (44 : Int32) then (some ((0 : Int32), M)) else (if v1 = (45 : Int32) then (if v0 = (1 : Int32) then (some ((1 : Int32), M)) else (some ((0 : Int32), M))) else (if v1 = (46 : Int32) then (some ((0 : Int32), M)) else (if v1 = (47 : Int32) then (if v0 = (2 : Int32) then (some ((1 : Int32), M)) else (some ((0 : Int32), M))) else (if v1 = (48 : Int32) then (some ((0 : Int32), M)) else (if v1 = (49 : Int32) then (some ((0 : Int32), M)) else (if v1 = (50 : Int32) then (some ((0 : Int32), M)) else (if v1 = (51 : Int32) then (some ((0 : Int32), M)) else (if v1 = (52 : Int32) then (some ((0 : Int32), M)) else (if v1 = (53 : Int32) then (some ((0 : Int32), M)) else (if v1 = (54 : Int32) then (some ((0 : Int32), M)) else (if v1 = (55 : Int32) then (some ((0 : Int32), M)) else (if v1 = (56 : Int32) then (some ((0 : Int32), M)) else (if v1 = (57 : Int32) then (some ((0 : Int32), M)) else (if v1 = (58 : Int32) then (some ((0 : Int32), M)) else (if v1 = (59 : Int32) then (some ((0 : Int32), M)) else (if v1 = (60 : Int32) then (if v0 = 0 then (some ((1 : Int32), M)) else (some ((0 : Int32), M))) else (if v1 = (61 : Int32) then (if v0 = 0 then (some ((1 : Int32), M)) else (some ((0 : Int32), M))) else (some ((0 : Int32), M))))))))))))))))))))))))))
set_option maxHeartbeats 4000000 in
set_option maxRecDepth 100000 in
theorem c_Rd_joins {l : Launch} {D : zzD} {bs : Nat} {A : Nat → Prop} {S : zzS} {M : zzM} {hz : Nat} {out : Int32 × zzM} {v0 : Int32} {v1 : Int32}   (hF : F_Rd_joins S  M v0 v1 = some out)  : Met l y_Rd_joins (Cond.code y_Rd_joins prog_5_method_15_code 2 (some .boolean) :: zzW) { frames := 0, cells := 0, slots := 0, locals := 0 } (zzPc D bs A S M hz [.int v0, .int v1]) (zzQc D bs A S out.2 hz (some (.int out.1))) 0 0 A := by
  refine zz_met [.int v0, .int v1] (by decide) (Nat.le_of_ble_eq_true rfl) (fun p e s m args below meth c C hr hlocks hin hsz => ?_)
  refine zz_eq (lv' := [(0, .int v0), (1, .int v1)]) (st' := []) rfl rfl ?_
  unfold F_Rd_joins at hF
  refine zi_iload_n C d_Rd_joins_0 rfl 1 rfl ?_
  by_cases hs1 : v1 = (37 : Int32)
  · rw [if_pos hs1] at hF
    refine zi_tableIn C d_Rd_joins_1 136 137 (by rw [hs1]; decide) (by rw [hs1]; decide) (by rw [hs1]; decide +kernel) (by decide) ?_
    refine zi_iload_n C d_Rd_joins_137 rfl 0 rfl ?_
    refine zi_iconst (v := 2) C d_Rd_joins_138 (by decide) ?_
    refine zi_icmp_ne (tgt := 146) C d_Rd_joins_139 (by decide) hF (fun hF => ?_) (fun hF => ?_)
    · refine zi_iconst (v := 0) C d_Rd_joins_146 (by decide) ?_
      exact zi_zret C hlocks hr (by decide +kernel) d_Rd_joins_147 (by cases hF; rfl) rfl (by cases hF; rfl) rfl
    · refine zi_iconst (v := 1) C d_Rd_joins_142 (by decide) ?_
      refine zi_goto (tgt := 147) C d_Rd_joins_143 (by decide) ?_
      exact zi_zret C hlocks hr (by decide +kernel) d_Rd_joins_147 (by cases hF; rfl) rfl (by cases hF; rfl) rfl
  · rw [if_neg hs1] at hF
    by_cases hs2 : v1 = (38 : Int32)
    · rw [if_pos hs2] at hF
      refine zi_tableIn C d_Rd_joins_1 147 148 (by rw [hs2]; decide) (by rw [hs2]; decide) (by rw [hs2]; decide +kernel) (by decide) ?_
      refine zi_iconst (v := 0) C d_Rd_joins_148 (by decide) ?_
      exact zi_zret C hlocks hr (by decide +kernel) d_Rd_joins_149 (by cases hF; rfl) rfl (by cases hF; rfl) rfl
    · rw [if_neg hs2] at hF
      by_cases hs3 : v1 = (39 : Int32)
      · rw [if_pos hs3] at hF
        refine zi_tableIn C d_Rd_joins_1 147 148 (by rw [hs3]; decide) (by rw [hs3]; decide) (by rw [hs3]; decide +kernel) (by decide) ?_
        refine zi_iconst (v := 0) C d_Rd_joins_148 (by decide) ?_
        exact zi_zret C hlocks hr (by decide +kernel) d_Rd_joins_149 (by cases hF; rfl) rfl (by cases hF; rfl) rfl
      · rw [if_neg hs3] at hF
        by_cases hs4 : v1 = (40 : Int32)
        · rw [if_pos hs4] at hF
          refine zi_tableIn C d_Rd_joins_1 147 148 (by rw [hs4]; decide) (by rw [hs4]; decide) (by rw [hs4]; decide +kernel) (by decide) ?_
          refine zi_iconst (v := 0) C d_Rd_joins_148 (by decide) ?_
          exact zi_zret C hlocks hr (by decide +kernel) d_Rd_joins_149 (by cases hF; rfl) rfl (by cases hF; rfl) rfl
        · rw [if_neg hs4] at hF
          by_cases hs5 : v1 = (41 : Int32)
          · rw [if_pos hs5] at hF
            refine zi_tableIn C d_Rd_joins_1 147 148 (by rw [hs5]; decide) (by rw [hs5]; decide) (by rw [hs5]; decide +kernel) (by decide) ?_
            refine zi_iconst (v := 0) C d_Rd_joins_148 (by decide) ?_
            exact zi_zret C hlocks hr (by decide +kernel) d_Rd_joins_149 (by cases hF; rfl) rfl (by cases hF; rfl) rfl
          · rw [if_neg hs5] at hF
            by_cases hs6 : v1 = (42 : Int32)
            · rw [if_pos hs6] at hF
              refine zi_tableIn C d_Rd_joins_1 136 137 (by rw [hs6]; decide) (by rw [hs6]; decide) (by rw [hs6]; decide +kernel) (by decide) ?_
              refine zi_iload_n C d_Rd_joins_137 rfl 0 rfl ?_
              refine zi_iconst (v := 2) C d_Rd_joins_138 (by decide) ?_
              refine zi_icmp_ne (tgt := 146) C d_Rd_joins_139 (by decide) hF (fun hF => ?_) (fun hF => ?_)
              · refine zi_iconst (v := 0) C d_Rd_joins_146 (by decide) ?_
                exact zi_zret C hlocks hr (by decide +kernel) d_Rd_joins_147 (by cases hF; rfl) rfl (by cases hF; rfl) rfl
              · refine zi_iconst (v := 1) C d_Rd_joins_142 (by decide) ?_
                refine zi_goto (tgt := 147) C d_Rd_joins_143 (by decide) ?_
                exact zi_zret C hlocks hr (by decide +kernel) d_Rd_joins_147 (by cases hF; rfl) rfl (by cases hF; rfl) rfl
            · rw [if_neg hs6] at hF
              by_cases hs7 : v1 = (43 : Int32)
              · rw [if_pos hs7] at hF
                refine zi_tableIn C d_Rd_joins_1 125 126 (by rw [hs7]; decide) (by rw [hs7]; decide) (by rw [hs7]; decide +kernel) (by decide) ?_
                refine zi_iload_n C d_Rd_joins_126 rfl 0 rfl ?_
                refine zi_iconst (v := 1) C d_Rd_joins_127 (by decide) ?_
                refine zi_icmp_ne (tgt := 135) C d_Rd_joins_128 (by decide) hF (fun hF => ?_) (fun hF => ?_)
                · refine zi_iconst (v := 0) C d_Rd_joins_135 (by decide) ?_
                  exact zi_zret C hlocks hr (by decide +kernel) d_Rd_joins_136 (by cases hF; rfl) rfl (by cases hF; rfl) rfl
                · refine zi_iconst (v := 1) C d_Rd_joins_131 (by decide) ?_
                  refine zi_goto (tgt := 136) C d_Rd_joins_132 (by decide) ?_
                  exact zi_zret C hlocks hr (by decide +kernel) d_Rd_joins_136 (by cases hF; rfl) rfl (by cases hF; rfl) rfl
              · rw [if_neg hs7] at hF
                by_cases hs8 : v1 = (44 : Int32)
                · rw [if_pos hs8] at hF
                  refine zi_tableIn C d_Rd_joins_1 147 148 (by rw [hs8]; decide) (by rw [hs8]; decide) (by rw [hs8]; decide +kernel) (by decide) ?_
                  refine zi_iconst (v := 0) C d_Rd_joins_148 (by decide) ?_
                  exact zi_zret C hlocks hr (by decide +kernel) d_Rd_joins_149 (by cases hF; rfl) rfl (by cases hF; rfl) rfl
                · rw [if_neg hs8] at hF
                  by_cases hs9 : v1 = (45 : Int32)
                  · rw [if_pos hs9] at hF
                    refine zi_tableIn C d_Rd_joins_1 125 126 (by rw [hs9]; decide) (by rw [hs9]; decide) (by rw [hs9]; decide +kernel) (by decide) ?_
                    refine zi_iload_n C d_Rd_joins_126 rfl 0 rfl ?_
                    refine zi_iconst (v := 1) C d_Rd_joins_127 (by decide) ?_
                    refine zi_icmp_ne (tgt := 135) C d_Rd_joins_128 (by decide) hF (fun hF => ?_) (fun hF => ?_)
                    · refine zi_iconst (v := 0) C d_Rd_joins_135 (by decide) ?_
                      exact zi_zret C hlocks hr (by decide +kernel) d_Rd_joins_136 (by cases hF; rfl) rfl (by cases hF; rfl) rfl
                    · refine zi_iconst (v := 1) C d_Rd_joins_131 (by decide) ?_
                      refine zi_goto (tgt := 136) C d_Rd_joins_132 (by decide) ?_
                      exact zi_zret C hlocks hr (by decide +kernel) d_Rd_joins_136 (by cases hF; rfl) rfl (by cases hF; rfl) rfl
                  · rw [if_neg hs9] at hF
                    by_cases hs10 : v1 = (46 : Int32)
                    · rw [if_pos hs10] at hF
                      refine zi_tableIn C d_Rd_joins_1 147 148 (by rw [hs10]; decide) (by rw [hs10]; decide) (by rw [hs10]; decide +kernel) (by decide) ?_
                      refine zi_iconst (v := 0) C d_Rd_joins_148 (by decide) ?_
                      exact zi_zret C hlocks hr (by decide +kernel) d_Rd_joins_149 (by cases hF; rfl) rfl (by cases hF; rfl) rfl
                    · rw [if_neg hs10] at hF
                      by_cases hs11 : v1 = (47 : Int32)
                      · rw [if_pos hs11] at hF
                        refine zi_tableIn C d_Rd_joins_1 136 137 (by rw [hs11]; decide) (by rw [hs11]; decide) (by rw [hs11]; decide +kernel) (by decide) ?_
                        refine zi_iload_n C d_Rd_joins_137 rfl 0 rfl ?_
                        refine zi_iconst (v := 2) C d_Rd_joins_138 (by decide) ?_
                        refine zi_icmp_ne (tgt := 146) C d_Rd_joins_139 (by decide) hF (fun hF => ?_) (fun hF => ?_)
                        · refine zi_iconst (v := 0) C d_Rd_joins_146 (by decide) ?_
                          exact zi_zret C hlocks hr (by decide +kernel) d_Rd_joins_147 (by cases hF; rfl) rfl (by cases hF; rfl) rfl
                        · refine zi_iconst (v := 1) C d_Rd_joins_142 (by decide) ?_
                          refine zi_goto (tgt := 147) C d_Rd_joins_143 (by decide) ?_
                          exact zi_zret C hlocks hr (by decide +kernel) d_Rd_joins_147 (by cases hF; rfl) rfl (by cases hF; rfl) rfl
                      · rw [if_neg hs11] at hF
                        by_cases hs12 : v1 = (48 : Int32)
                        · rw [if_pos hs12] at hF
                          refine zi_tableIn C d_Rd_joins_1 147 148 (by rw [hs12]; decide) (by rw [hs12]; decide) (by rw [hs12]; decide +kernel) (by decide) ?_
                          refine zi_iconst (v := 0) C d_Rd_joins_148 (by decide) ?_
                          exact zi_zret C hlocks hr (by decide +kernel) d_Rd_joins_149 (by cases hF; rfl) rfl (by cases hF; rfl) rfl
                        · rw [if_neg hs12] at hF
                          by_cases hs13 : v1 = (49 : Int32)
                          · rw [if_pos hs13] at hF
                            refine zi_tableIn C d_Rd_joins_1 147 148 (by rw [hs13]; decide) (by rw [hs13]; decide) (by rw [hs13]; decide +kernel) (by decide) ?_
                            refine zi_iconst (v := 0) C d_Rd_joins_148 (by decide) ?_
                            exact zi_zret C hlocks hr (by decide +kernel) d_Rd_joins_149 (by cases hF; rfl) rfl (by cases hF; rfl) rfl
                          · rw [if_neg hs13] at hF
                            by_cases hs14 : v1 = (50 : Int32)
                            · rw [if_pos hs14] at hF
                              refine zi_tableIn C d_Rd_joins_1 147 148 (by rw [hs14]; decide) (by rw [hs14]; decide) (by rw [hs14]; decide +kernel) (by decide) ?_
                              refine zi_iconst (v := 0) C d_Rd_joins_148 (by decide) ?_
                              exact zi_zret C hlocks hr (by decide +kernel) d_Rd_joins_149 (by cases hF; rfl) rfl (by cases hF; rfl) rfl
                            · rw [if_neg hs14] at hF
                              by_cases hs15 : v1 = (51 : Int32)
                              · rw [if_pos hs15] at hF
                                refine zi_tableIn C d_Rd_joins_1 147 148 (by rw [hs15]; decide) (by rw [hs15]; decide) (by rw [hs15]; decide +kernel) (by decide) ?_
                                refine zi_iconst (v := 0) C d_Rd_joins_148 (by decide) ?_
                                exact zi_zret C hlocks hr (by decide +kernel) d_Rd_joins_149 (by cases hF; rfl) rfl (by cases hF; rfl) rfl
                              · rw [if_neg hs15] at hF
                                by_cases hs16 : v1 = (52 : Int32)
                                · rw [if_pos hs16] at hF
                                  refine zi_tableIn C d_Rd_joins_1 147 148 (by rw [hs16]; decide) (by rw [hs16]; decide) (by rw [hs16]; decide +kernel) (by decide) ?_
                                  refine zi_iconst (v := 0) C d_Rd_joins_148 (by decide) ?_
                                  exact zi_zret C hlocks hr (by decide +kernel) d_Rd_joins_149 (by cases hF; rfl) rfl (by cases hF; rfl) rfl
                                · rw [if_neg hs16] at hF
                                  by_cases hs17 : v1 = (53 : Int32)
                                  · rw [if_pos hs17] at hF
                                    refine zi_tableIn C d_Rd_joins_1 147 148 (by rw [hs17]; decide) (by rw [hs17]; decide) (by rw [hs17]; decide +kernel) (by decide) ?_
                                    refine zi_iconst (v := 0) C d_Rd_joins_148 (by decide) ?_
                                    exact zi_zret C hlocks hr (by decide +kernel) d_Rd_joins_149 (by cases hF; rfl) rfl (by cases hF; rfl) rfl
                                  · rw [if_neg hs17] at hF
                                    by_cases hs18 : v1 = (54 : Int32)
                                    · rw [if_pos hs18] at hF
                                      refine zi_tableIn C d_Rd_joins_1 147 148 (by rw [hs18]; decide) (by rw [hs18]; decide) (by rw [hs18]; decide +kernel) (by decide) ?_
                                      refine zi_iconst (v := 0) C d_Rd_joins_148 (by decide) ?_
                                      exact zi_zret C hlocks hr (by decide +kernel) d_Rd_joins_149 (by cases hF; rfl) rfl (by cases hF; rfl) rfl
                                    · rw [if_neg hs18] at hF
                                      by_cases hs19 : v1 = (55 : Int32)
                                      · rw [if_pos hs19] at hF
                                        refine zi_tableIn C d_Rd_joins_1 147 148 (by rw [hs19]; decide) (by rw [hs19]; decide) (by rw [hs19]; decide +kernel) (by decide) ?_
                                        refine zi_iconst (v := 0) C d_Rd_joins_148 (by decide) ?_
                                        exact zi_zret C hlocks hr (by decide +kernel) d_Rd_joins_149 (by cases hF; rfl) rfl (by cases hF; rfl) rfl
                                      · rw [if_neg hs19] at hF
                                        by_cases hs20 : v1 = (56 : Int32)
                                        · rw [if_pos hs20] at hF
                                          refine zi_tableIn C d_Rd_joins_1 147 148 (by rw [hs20]; decide) (by rw [hs20]; decide) (by rw [hs20]; decide +kernel) (by decide) ?_
                                          refine zi_iconst (v := 0) C d_Rd_joins_148 (by decide) ?_
                                          exact zi_zret C hlocks hr (by decide +kernel) d_Rd_joins_149 (by cases hF; rfl) rfl (by cases hF; rfl) rfl
                                        · rw [if_neg hs20] at hF
                                          by_cases hs21 : v1 = (57 : Int32)
                                          · rw [if_pos hs21] at hF
                                            refine zi_tableIn C d_Rd_joins_1 147 148 (by rw [hs21]; decide) (by rw [hs21]; decide) (by rw [hs21]; decide +kernel) (by decide) ?_
                                            refine zi_iconst (v := 0) C d_Rd_joins_148 (by decide) ?_
                                            exact zi_zret C hlocks hr (by decide +kernel) d_Rd_joins_149 (by cases hF; rfl) rfl (by cases hF; rfl) rfl
                                          · rw [if_neg hs21] at hF
                                            by_cases hs22 : v1 = (58 : Int32)
                                            · rw [if_pos hs22] at hF
                                              refine zi_tableIn C d_Rd_joins_1 147 148 (by rw [hs22]; decide) (by rw [hs22]; decide) (by rw [hs22]; decide +kernel) (by decide) ?_
                                              refine zi_iconst (v := 0) C d_Rd_joins_148 (by decide) ?_
                                              exact zi_zret C hlocks hr (by decide +kernel) d_Rd_joins_149 (by cases hF; rfl) rfl (by cases hF; rfl) rfl
                                            · rw [if_neg hs22] at hF
                                              by_cases hs23 : v1 = (59 : Int32)
                                              · rw [if_pos hs23] at hF
                                                refine zi_tableIn C d_Rd_joins_1 147 148 (by rw [hs23]; decide) (by rw [hs23]; decide) (by rw [hs23]; decide +kernel) (by decide) ?_
                                                refine zi_iconst (v := 0) C d_Rd_joins_148 (by decide) ?_
                                                exact zi_zret C hlocks hr (by decide +kernel) d_Rd_joins_149 (by cases hF; rfl) rfl (by cases hF; rfl) rfl
                                              · rw [if_neg hs23] at hF
                                                by_cases hs24 : v1 = (60 : Int32)
                                                · rw [if_pos hs24] at hF
                                                  refine zi_tableIn C d_Rd_joins_1 115 116 (by rw [hs24]; decide) (by rw [hs24]; decide) (by rw [hs24]; decide +kernel) (by decide) ?_
                                                  refine zi_iload_n C d_Rd_joins_116 rfl 0 rfl ?_
                                                  refine zi_if_ne (tgt := 124) C d_Rd_joins_117 (by decide) hF (fun hF => ?_) (fun hF => ?_)
                                                  · refine zi_iconst (v := 0) C d_Rd_joins_124 (by decide) ?_
                                                    exact zi_zret C hlocks hr (by decide +kernel) d_Rd_joins_125 (by cases hF; rfl) rfl (by cases hF; rfl) rfl
                                                  · refine zi_iconst (v := 1) C d_Rd_joins_120 (by decide) ?_
                                                    refine zi_goto (tgt := 125) C d_Rd_joins_121 (by decide) ?_
                                                    exact zi_zret C hlocks hr (by decide +kernel) d_Rd_joins_125 (by cases hF; rfl) rfl (by cases hF; rfl) rfl
                                                · rw [if_neg hs24] at hF
                                                  by_cases hs25 : v1 = (61 : Int32)
                                                  · rw [if_pos hs25] at hF
                                                    refine zi_tableIn C d_Rd_joins_1 115 116 (by rw [hs25]; decide) (by rw [hs25]; decide) (by rw [hs25]; decide +kernel) (by decide) ?_
                                                    refine zi_iload_n C d_Rd_joins_116 rfl 0 rfl ?_
                                                    refine zi_if_ne (tgt := 124) C d_Rd_joins_117 (by decide) hF (fun hF => ?_) (fun hF => ?_)
                                                    · refine zi_iconst (v := 0) C d_Rd_joins_124 (by decide) ?_
                                                      exact zi_zret C hlocks hr (by decide +kernel) d_Rd_joins_125 (by cases hF; rfl) rfl (by cases hF; rfl) rfl
                                                    · refine zi_iconst (v := 1) C d_Rd_joins_120 (by decide) ?_
                                                      refine zi_goto (tgt := 125) C d_Rd_joins_121 (by decide) ?_
                                                      exact zi_zret C hlocks hr (by decide +kernel) d_Rd_joins_125 (by cases hF; rfl) rfl (by cases hF; rfl) rfl
                                                  · rw [if_neg hs25] at hF
                                                    refine zi_tableOut C d_Rd_joins_1 148 (by have q0 : (v1).toInt ≠ 37 := zz_ne hs1 (by decide); have q1 : (v1).toInt ≠ 38 := zz_ne hs2 (by decide); have q2 : (v1).toInt ≠ 39 := zz_ne hs3 (by decide); have q3 : (v1).toInt ≠ 40 := zz_ne hs4 (by decide); have q4 : (v1).toInt ≠ 41 := zz_ne hs5 (by decide); have q5 : (v1).toInt ≠ 42 := zz_ne hs6 (by decide); have q6 : (v1).toInt ≠ 43 := zz_ne hs7 (by decide); have q7 : (v1).toInt ≠ 44 := zz_ne hs8 (by decide); have q8 : (v1).toInt ≠ 45 := zz_ne hs9 (by decide); have q9 : (v1).toInt ≠ 46 := zz_ne hs10 (by decide); have q10 : (v1).toInt ≠ 47 := zz_ne hs11 (by decide); have q11 : (v1).toInt ≠ 48 := zz_ne hs12 (by decide); have q12 : (v1).toInt ≠ 49 := zz_ne hs13 (by decide); have q13 : (v1).toInt ≠ 50 := zz_ne hs14 (by decide); have q14 : (v1).toInt ≠ 51 := zz_ne hs15 (by decide); have q15 : (v1).toInt ≠ 52 := zz_ne hs16 (by decide); have q16 : (v1).toInt ≠ 53 := zz_ne hs17 (by decide); have q17 : (v1).toInt ≠ 54 := zz_ne hs18 (by decide); have q18 : (v1).toInt ≠ 55 := zz_ne hs19 (by decide); have q19 : (v1).toInt ≠ 56 := zz_ne hs20 (by decide); have q20 : (v1).toInt ≠ 57 := zz_ne hs21 (by decide); have q21 : (v1).toInt ≠ 58 := zz_ne hs22 (by decide); have q22 : (v1).toInt ≠ 59 := zz_ne hs23 (by decide); have q23 : (v1).toInt ≠ 60 := zz_ne hs24 (by decide); have q24 : (v1).toInt ≠ 61 := zz_ne hs25 (by decide); omega) (by decide) ?_
                                                    refine zi_iconst (v := 0) C d_Rd_joins_148 (by decide) ?_
                                                    exact zi_zret C hlocks hr (by decide +kernel) d_Rd_joins_149 (by cases hF; rfl) rfl (by cases hF; rfl) rfl
def F_Wk_step (S : zzS)  (M : zzM) (v0 : Nat) : Option (Int32 × zzM) := zzref S 16 (zzR M v0 2) fun b1 => zzlet (zzI M b1 8) fun x2 => zzlet (zzI M v0 4) fun x3 => if x2 < x3 then (zzref S 16 (zzR M v0 2) fun b4 => zzlet (zzI M b4 8) fun x5 => zzlet (x5 + (1 : Int32)) fun x6 => zzlet (zzsI M b4 8 x6) fun M => some ((1 : Int32), M)) else (some ((0 : Int32), M))
set_option maxHeartbeats 4000000 in
set_option maxRecDepth 100000 in
theorem c_Wk_step {l : Launch} {D : zzD} {bs : Nat} {A : Nat → Prop} {S : zzS} {M : zzM} {hz : Nat} {out : Int32 × zzM} {v0 : Nat}   (hF : F_Wk_step S  M v0 = some out) (hn_v0 : v0 < S.2.1) (hk_v0 : zzk S v0 = 18) : Met l y_Wk_step (Cond.code y_Wk_step prog_10_method_5_code 1 (some .boolean) :: zzW) { frames := 0, cells := 0, slots := 0, locals := 0 } (zzPc D bs A S M hz [.ref (bs + v0)]) (zzQc D bs A S out.2 hz (some (.int out.1))) 0 0 A := by
  refine zz_met [.ref (bs + v0)] (by decide) (Nat.le_of_ble_eq_true rfl) (fun p e s m args below meth c C hr hlocks hin hsz => ?_)
  refine zz_eq (lv' := [(0, .ref (bs + v0))]) (st' := []) rfl rfl ?_
  unfold F_Wk_step at hF
  refine zi_aload_n C d_Wk_step_0 rfl 0 rfl ?_
  refine zi_getR C zc_8 (k := 2) (by decide) zw_379 rfl hn_v0 hk_v0 d_Wk_step_1 (fun _ _ _ => rfl) hF (fun b1 hn_b1 hk_b1 hF => ?_)
  refine zi_getI C zc_6 (k := 8) (by decide) zw_380 rfl hn_b1 hk_b1 d_Wk_step_4 (fun _ _ _ => rfl) hF (fun x2 hF => ?_)
  refine zi_aload_n C d_Wk_step_7 rfl 0 rfl ?_
  refine zi_getI C zc_8 (k := 4) (by decide) zw_381 rfl hn_v0 hk_v0 d_Wk_step_8 (fun _ _ _ => rfl) hF (fun x3 hF => ?_)
  refine zi_icmp_lt (tgt := 16) C d_Wk_step_11 (by decide) hF (fun hF => ?_) (fun hF => ?_)
  · refine zi_aload_n C d_Wk_step_16 rfl 0 rfl ?_
    refine zi_getR C zc_8 (k := 2) (by decide) zw_379 rfl hn_v0 hk_v0 d_Wk_step_17 (fun _ _ _ => rfl) hF (fun b4 hn_b4 hk_b4 hF => ?_)
    refine zi_dup C d_Wk_step_20 rfl ?_
    refine zi_getI C zc_6 (k := 8) (by decide) zw_380 rfl hn_b4 hk_b4 d_Wk_step_21 (fun _ _ _ => rfl) hF (fun x5 hF => ?_)
    refine zi_iconst (v := 1) C d_Wk_step_24 (by decide) ?_
    refine zi_iadd C d_Wk_step_25 hF (fun x6 hF => ?_)
    refine zi_putI C zc_6 (k := 8) (by decide) zw_380 rfl (Or.inl rfl) hn_b4 hk_b4 d_Wk_step_26 rfl hF (fun M hF => ?_)
    refine zi_iconst (v := 1) C d_Wk_step_29 (by decide) ?_
    exact zi_zret C hlocks hr (by decide +kernel) d_Wk_step_30 (by cases hF; rfl) rfl (by cases hF; rfl) rfl
  · refine zi_iconst (v := 0) C d_Wk_step_14 (by decide) ?_
    exact zi_zret C hlocks hr (by decide +kernel) d_Wk_step_15 (by cases hF; rfl) rfl (by cases hF; rfl) rfl
def F_Wk_fail (S : zzS)  (M : zzM) (v0 : Nat) (v1 : Int32) (v2 : Option Nat) (v3 : Int32) : Option (Int32 × zzM) := zzref S 16 (zzR M v0 2) fun b1 => zzcall (F_Rp_note S M b1 v1 v2 v3) fun r2 M => some ((1 : Int32), M)
set_option maxHeartbeats 4000000 in
set_option maxRecDepth 100000 in
theorem c_Wk_fail {l : Launch} {D : zzD} {bs : Nat} {A : Nat → Prop} {S : zzS} {M : zzM} {hz : Nat} {out : Int32 × zzM} {v0 : Nat} {v1 : Int32} {v2 : Option Nat} {v3 : Int32}   (hF : F_Wk_fail S  M v0 v1 v2 v3 = some out) (hn_v0 : v0 < S.2.1) (hk_v0 : zzk S v0 = 18) : Met l y_Wk_fail (Cond.code y_Wk_fail prog_10_method_6_code 4 (some .int) :: zzW) { frames := 1, cells := 0, slots := 0, locals := 23 } (zzPc D bs A S M hz [.ref (bs + v0), .int v1, zzrf bs v2, .int v3]) (zzQc D bs A S out.2 hz (some (.int out.1))) 0 0 A := by
  refine zz_met [.ref (bs + v0), .int v1, zzrf bs v2, .int v3] (by decide) (by cases v2 <;> exact Nat.le_of_ble_eq_true rfl) (fun p e s m args below meth c C hr hlocks hin hsz => ?_)
  refine zz_eq (lv' := [(0, .ref (bs + v0)), (1, .int v1), (2, zzrf bs v2), (3, .int v3)]) (st' := []) (by cases v2 <;> rfl) rfl ?_
  unfold F_Wk_fail at hF
  refine zi_aload_n C d_Wk_fail_0 rfl 0 rfl ?_
  refine zi_getR C zc_8 (k := 2) (by decide) zw_379 rfl hn_v0 hk_v0 d_Wk_fail_1 (fun _ _ _ => rfl) hF (fun b1 hn_b1 hk_b1 hF => ?_)
  refine zi_iload_n C d_Wk_fail_4 rfl 1 rfl ?_
  refine zi_aload_nO C d_Wk_fail_5 rfl 2 rfl ?_
  refine zi_iload_n C d_Wk_fail_6 rfl 3 rfl ?_
  obtain ⟨r2, M, hqr2, hF⟩ := zzcall_e hF
  refine zi_callV_v (M2 := M) (n := 3) (As := [.int v1, zzrf bs v2, .int v3]) (st := []) C (c_Rp_note hqr2 hn_b1 hk_b1) zw_335 zw_259 (by decide +kernel) ⟨Nat.le_of_ble_eq_true rfl, Nat.le_of_ble_eq_true rfl⟩ rfl (Nat.le_of_ble_eq_true rfl) ⟨Nat.le_of_ble_eq_true rfl, Nat.le_of_ble_eq_true rfl⟩ zw_382 zw_337 zw_338 zc_6.1 hn_b1 hk_b1 rfl d_Wk_fail_7 ?_
  refine zi_iconst (v := 1) C d_Wk_fail_10 (by decide) ?_
  exact zi_iret C hlocks hr d_Wk_fail_11 (by cases hF; rfl) rfl (by cases hF; rfl) rfl
def F_Wk_setField (S : zzS)  (M : zzM) (v0 : Nat) (v1 : Option Nat) : Option (Int32 × zzM) := zzref S 15 (zzR M v0 1) fun b1 => zzopt S 13 v1 (none) (fun b2 => zzlet (zzR M b2 4) fun r4 => zzcall (F_Rk_value S M b1 r4) fun r5 M => zzref S 15 (zzR M v0 1) fun b6 => zzlet (zzI M b6 4) fun x7 => if x7 = 0 then (zzref S 14 (zzR M v0 0) fun b8 => zzlet (zzI M b2 3) fun x9 => zzcall (F_Bd_slotOf S M b8 r5 x9) fun r10 M => if r10 = (-1 : Int32) then (zzcall (F_Wk_fail S M v0 (2 : Int32) (some b2) (0 : Int32)) fun r22 M => some (r22, M)) else (zzref S 15 (zzR M v0 1) fun b11 => zzlet (zzR M b2 5) fun r13 => zzcall (F_Rk_value S M b11 r13) fun r14 M => zzref S 15 (zzR M v0 1) fun b15 => zzlet (zzI M b15 4) fun x16 => if x16 = 0 then (zzref S 14 (zzR M v0 0) fun b17 => zzref S 2 (zzR M b17 0) fun b18 => zzix S b18 r10 (zzlet (zzsL M b18 (r10).toNatClampNeg r14) fun M => some ((0 : Int32), M))) else (zzref S 15 (zzR M v0 1) fun b19 => zzlet (zzI M b19 4) fun x20 => zzcall (F_Wk_fail S M v0 x20 (some b2) (0 : Int32)) fun r21 M => some (r21, M)))) else (zzref S 15 (zzR M v0 1) fun b23 => zzlet (zzI M b23 4) fun x24 => zzcall (F_Wk_fail S M v0 x24 (some b2) (0 : Int32)) fun r25 M => some (r25, M)))
set_option maxHeartbeats 4000000 in
set_option maxRecDepth 100000 in
theorem c_Wk_setField {l : Launch} {D : zzD} {bs : Nat} {A : Nat → Prop} {S : zzS} {M : zzM} {hz : Nat} {out : Int32 × zzM} {v0 : Nat} {v1 : Option Nat}   (hF : F_Wk_setField S  M v0 v1 = some out) (hn_v0 : v0 < S.2.1) (hk_v0 : zzk S v0 = 18) : Met l y_Wk_setField (Cond.code y_Wk_setField prog_10_method_12_code 7 (some .int) :: zzW) { frames := 3, cells := 0, slots := 0, locals := 73 } (zzPc D bs A S M hz [.ref (bs + v0), zzrf bs v1]) (zzQc D bs A S out.2 hz (some (.int out.1))) 0 0 A := by
  refine zz_met [.ref (bs + v0), zzrf bs v1] (by decide) (by cases v1 <;> exact Nat.le_of_ble_eq_true rfl) (fun p e s m args below meth c C hr hlocks hin hsz => ?_)
  refine zz_eq (lv' := [(0, .ref (bs + v0)), (1, zzrf bs v1)]) (st' := []) (by cases v1 <;> rfl) rfl ?_
  unfold F_Wk_setField at hF
  refine zi_aload_n C d_Wk_setField_0 rfl 0 rfl ?_
  refine zi_getR C zc_8 (k := 1) (by decide) zw_383 rfl hn_v0 hk_v0 d_Wk_setField_1 (fun _ _ _ => rfl) hF (fun b1 hn_b1 hk_b1 hF => ?_)
  refine zi_aload_nO C d_Wk_setField_4 rfl 1 rfl ?_
  rcases zzopt_e hF with ⟨hv0, hF⟩ | ⟨b2, hv0, hn_b2, hk_b2, hF⟩
  · refine zz_eq (lv' := [(0, .ref (bs + v0)), (1, .null)]) (st' := [.null, .ref (bs + b1)]) (by first | rfl | (rw [hv0]; rfl) | (rw [hv0]; done)) (by first | rfl | (rw [hv0]; rfl) | (rw [hv0]; done)) ?_
    cases hF
  · refine zz_eq (lv' := [(0, .ref (bs + v0)), (1, .ref (bs + b2))]) (st' := [.ref (bs + b2), .ref (bs + b1)]) (by first | rfl | (rw [hv0]; rfl) | (rw [hv0]; done)) (by first | rfl | (rw [hv0]; rfl) | (rw [hv0]; done)) ?_
    refine zi_getQ C zc_3 (k := 4) (by decide) zw_384 rfl hn_b2 hk_b2 d_Wk_setField_5 (fun _ _ _ => rfl) hF (fun r4 hF => ?_)
    obtain ⟨r5, M, hqr5, hF⟩ := zzcall_e hF
    refine zi_callV_l (M2 := M) (r := r5) (n := 1) (As := [zzrf bs r4]) (st := []) C (c_Rk_value hqr5 hn_b1 hk_b1) zw_308 zw_273 (by decide +kernel) ⟨Nat.le_of_ble_eq_true rfl, Nat.le_of_ble_eq_true rfl⟩ rfl (Nat.le_of_ble_eq_true rfl) ⟨Nat.le_of_ble_eq_true rfl, Nat.le_of_ble_eq_true rfl⟩ zw_385 zw_310 zw_311 zc_5.1 hn_b1 hk_b1 rfl d_Wk_setField_8 ?_
    refine zi_lstore_n (lv' := [(2, .long r5), (0, .ref (bs + v0)), (1, .ref (bs + b2))]) C d_Wk_setField_11 rfl (by decide) rfl ?_
    refine zi_aload_n C d_Wk_setField_12 rfl 1 rfl ?_
    refine zi_getR C zc_8 (k := 1) (by decide) zw_383 rfl hn_v0 hk_v0 d_Wk_setField_13 (fun _ _ _ => rfl) hF (fun b6 hn_b6 hk_b6 hF => ?_)
    refine zi_getI C zc_5 (k := 4) (by decide) zw_386 rfl hn_b6 hk_b6 d_Wk_setField_16 (fun _ _ _ => rfl) hF (fun x7 hF => ?_)
    refine zi_if_eq (tgt := 36) C d_Wk_setField_19 (by decide) hF (fun hF => ?_) (fun hF => ?_)
    · refine zi_aload_n C d_Wk_setField_36 rfl 1 rfl ?_
      refine zi_getR C zc_8 (k := 0) (by decide) zw_387 rfl hn_v0 hk_v0 d_Wk_setField_37 (fun _ _ _ => rfl) hF (fun b8 hn_b8 hk_b8 hF => ?_)
      refine zi_lload_n C d_Wk_setField_40 rfl 0 rfl ?_
      refine zi_aload_n C d_Wk_setField_41 rfl 2 rfl ?_
      refine zi_getI C zc_3 (k := 3) (by decide) zw_388 rfl hn_b2 hk_b2 d_Wk_setField_42 (fun _ _ _ => rfl) hF (fun x9 hF => ?_)
      obtain ⟨r10, M, hqr10, hF⟩ := zzcall_e hF
      refine zi_callV_i (M2 := M) (r := r10) (n := 2) (As := [.long r5, .int x9]) (st := []) C (c_Bd_slotOf hqr10 hn_b8 hk_b8) zw_291 zw_252 (by decide +kernel) ⟨Nat.le_of_ble_eq_true rfl, Nat.le_of_ble_eq_true rfl⟩ rfl (Nat.le_of_ble_eq_true rfl) ⟨Nat.le_of_ble_eq_true rfl, Nat.le_of_ble_eq_true rfl⟩ zw_389 zw_293 zw_294 zc_4.1 hn_b8 hk_b8 rfl d_Wk_setField_45 ?_
      refine zi_istore (lv' := [(4, .int r10), (2, .long r5), (0, .ref (bs + v0)), (1, .ref (bs + b2))]) C d_Wk_setField_48 (by decide) rfl ?_
      refine zi_iload C d_Wk_setField_50 0 rfl ?_
      refine zi_iconst (v := -1) C d_Wk_setField_52 (by decide) ?_
      refine zi_icmp_ne (tgt := 64) C d_Wk_setField_53 (by decide) hF (fun hF => ?_) (fun hF => ?_)
      · refine zi_aload_n C d_Wk_setField_64 rfl 2 rfl ?_
        refine zi_getR C zc_8 (k := 1) (by decide) zw_383 rfl hn_v0 hk_v0 d_Wk_setField_65 (fun _ _ _ => rfl) hF (fun b11 hn_b11 hk_b11 hF => ?_)
        refine zi_aload_n C d_Wk_setField_68 rfl 3 rfl ?_
        refine zi_getQ C zc_3 (k := 5) (by decide) zw_390 rfl hn_b2 hk_b2 d_Wk_setField_69 (fun _ _ _ => rfl) hF (fun r13 hF => ?_)
        obtain ⟨r14, M, hqr14, hF⟩ := zzcall_e hF
        refine zi_callV_l (M2 := M) (r := r14) (n := 1) (As := [zzrf bs r13]) (st := []) C (c_Rk_value hqr14 hn_b11 hk_b11) zw_308 zw_273 (by decide +kernel) ⟨Nat.le_of_ble_eq_true rfl, Nat.le_of_ble_eq_true rfl⟩ rfl (Nat.le_of_ble_eq_true rfl) ⟨Nat.le_of_ble_eq_true rfl, Nat.le_of_ble_eq_true rfl⟩ zw_385 zw_310 zw_311 zc_5.1 hn_b11 hk_b11 rfl d_Wk_setField_72 ?_
        refine zi_lstore (lv' := [(5, .long r14), (4, .int r10), (2, .long r5), (0, .ref (bs + v0)), (1, .ref (bs + b2))]) C d_Wk_setField_75 (by decide) rfl ?_
        refine zi_aload_n C d_Wk_setField_77 rfl 3 rfl ?_
        refine zi_getR C zc_8 (k := 1) (by decide) zw_383 rfl hn_v0 hk_v0 d_Wk_setField_78 (fun _ _ _ => rfl) hF (fun b15 hn_b15 hk_b15 hF => ?_)
        refine zi_getI C zc_5 (k := 4) (by decide) zw_386 rfl hn_b15 hk_b15 d_Wk_setField_81 (fun _ _ _ => rfl) hF (fun x16 hF => ?_)
        refine zi_if_eq (tgt := 101) C d_Wk_setField_84 (by decide) hF (fun hF => ?_) (fun hF => ?_)
        · refine zi_aload_n C d_Wk_setField_101 rfl 3 rfl ?_
          refine zi_getR C zc_8 (k := 0) (by decide) zw_387 rfl hn_v0 hk_v0 d_Wk_setField_102 (fun _ _ _ => rfl) hF (fun b17 hn_b17 hk_b17 hF => ?_)
          refine zi_getR C zc_4 (k := 0) (by decide) zw_391 rfl hn_b17 hk_b17 d_Wk_setField_105 (fun _ _ _ => rfl) hF (fun b18 hn_b18 hk_b18 hF => ?_)
          refine zi_iload C d_Wk_setField_108 1 rfl ?_
          refine zi_lload C d_Wk_setField_110 0 rfl ?_
          refine zi_last C hn_b18 hk_b18 d_Wk_setField_112 hF (fun M hF => ?_)
          refine zi_iconst (v := 0) C d_Wk_setField_113 (by decide) ?_
          exact zi_iret C hlocks hr d_Wk_setField_114 (by cases hF; rfl) rfl (by cases hF; rfl) rfl
        · refine zi_aload_n C d_Wk_setField_87 rfl 3 rfl ?_
          refine zi_aload_n C d_Wk_setField_88 rfl 3 rfl ?_
          refine zi_getR C zc_8 (k := 1) (by decide) zw_383 rfl hn_v0 hk_v0 d_Wk_setField_89 (fun _ _ _ => rfl) hF (fun b19 hn_b19 hk_b19 hF => ?_)
          refine zi_getI C zc_5 (k := 4) (by decide) zw_386 rfl hn_b19 hk_b19 d_Wk_setField_92 (fun _ _ _ => rfl) hF (fun x20 hF => ?_)
          refine zi_aload_n C d_Wk_setField_95 rfl 4 rfl ?_
          refine zi_iconst (v := 0) C d_Wk_setField_96 (by decide) ?_
          obtain ⟨r21, M, hqr21, hF⟩ := zzcall_e hF
          refine zi_callV_i (M2 := M) (r := r21) (n := 3) (As := [.int x20, .ref (bs + b2), .int (0 : Int32)]) (st := []) C (c_Wk_fail hqr21 hn_v0 hk_v0) zw_392 zw_393 (by decide +kernel) ⟨Nat.le_of_ble_eq_true rfl, Nat.le_of_ble_eq_true rfl⟩ rfl (Nat.le_of_ble_eq_true rfl) ⟨Nat.le_of_ble_eq_true rfl, Nat.le_of_ble_eq_true rfl⟩ zw_394 zw_395 zw_396 zc_8.1 hn_v0 hk_v0 rfl d_Wk_setField_97 ?_
          exact zi_iret C hlocks hr d_Wk_setField_100 (by cases hF; rfl) rfl (by cases hF; rfl) rfl
      · refine zi_aload_n C d_Wk_setField_56 rfl 2 rfl ?_
        refine zi_iconst (v := 2) C d_Wk_setField_57 (by decide) ?_
        refine zi_aload_n C d_Wk_setField_58 rfl 3 rfl ?_
        refine zi_iconst (v := 0) C d_Wk_setField_59 (by decide) ?_
        obtain ⟨r22, M, hqr22, hF⟩ := zzcall_e hF
        refine zi_callV_i (M2 := M) (r := r22) (n := 3) (As := [.int (2 : Int32), .ref (bs + b2), .int (0 : Int32)]) (st := []) C (c_Wk_fail hqr22 hn_v0 hk_v0) zw_392 zw_393 (by decide +kernel) ⟨Nat.le_of_ble_eq_true rfl, Nat.le_of_ble_eq_true rfl⟩ rfl (Nat.le_of_ble_eq_true rfl) ⟨Nat.le_of_ble_eq_true rfl, Nat.le_of_ble_eq_true rfl⟩ zw_394 zw_395 zw_396 zc_8.1 hn_v0 hk_v0 rfl d_Wk_setField_60 ?_
        exact zi_iret C hlocks hr d_Wk_setField_63 (by cases hF; rfl) rfl (by cases hF; rfl) rfl
    · refine zi_aload_n C d_Wk_setField_22 rfl 1 rfl ?_
      refine zi_aload_n C d_Wk_setField_23 rfl 1 rfl ?_
      refine zi_getR C zc_8 (k := 1) (by decide) zw_383 rfl hn_v0 hk_v0 d_Wk_setField_24 (fun _ _ _ => rfl) hF (fun b23 hn_b23 hk_b23 hF => ?_)
      refine zi_getI C zc_5 (k := 4) (by decide) zw_386 rfl hn_b23 hk_b23 d_Wk_setField_27 (fun _ _ _ => rfl) hF (fun x24 hF => ?_)
      refine zi_aload_n C d_Wk_setField_30 rfl 2 rfl ?_
      refine zi_iconst (v := 0) C d_Wk_setField_31 (by decide) ?_
      obtain ⟨r25, M, hqr25, hF⟩ := zzcall_e hF
      refine zi_callV_i (M2 := M) (r := r25) (n := 3) (As := [.int x24, .ref (bs + b2), .int (0 : Int32)]) (st := []) C (c_Wk_fail hqr25 hn_v0 hk_v0) zw_392 zw_393 (by decide +kernel) ⟨Nat.le_of_ble_eq_true rfl, Nat.le_of_ble_eq_true rfl⟩ rfl (Nat.le_of_ble_eq_true rfl) ⟨Nat.le_of_ble_eq_true rfl, Nat.le_of_ble_eq_true rfl⟩ zw_394 zw_395 zw_396 zc_8.1 hn_v0 hk_v0 rfl d_Wk_setField_32 ?_
      exact zi_iret C hlocks hr d_Wk_setField_35 (by cases hF; rfl) rfl (by cases hF; rfl) rfl
def F_Wk_setPlace (S : zzS)  (M : zzM) (v0 : Nat) (v1 : Option Nat) : Option (Int32 × zzM) := zzref S 15 (zzR M v0 1) fun b1 => zzopt S 13 v1 (none) (fun b2 => zzlet (zzR M b2 4) fun r4 => zzcall (F_Rk_value S M b1 r4) fun r5 M => zzref S 15 (zzR M v0 1) fun b6 => zzlet (zzI M b6 4) fun x7 => if x7 = 0 then (zzref S 14 (zzR M v0 0) fun b8 => zzcall (F_Bd_placeOf S M b8 r5) fun r9 M => if r9 = (-1 : Int32) then (zzcall (F_Wk_fail S M v0 (2 : Int32) (some b2) (0 : Int32)) fun r21 M => some (r21, M)) else (zzref S 15 (zzR M v0 1) fun b10 => zzlet (zzR M b2 5) fun r12 => zzcall (F_Rk_value S M b10 r12) fun r13 M => zzref S 15 (zzR M v0 1) fun b14 => zzlet (zzI M b14 4) fun x15 => if x15 = 0 then (zzref S 14 (zzR M v0 0) fun b16 => zzref S 2 (zzR M b16 2) fun b17 => zzix S b17 r9 (zzlet (zzsL M b17 (r9).toNatClampNeg r13) fun M => some ((0 : Int32), M))) else (zzref S 15 (zzR M v0 1) fun b18 => zzlet (zzI M b18 4) fun x19 => zzcall (F_Wk_fail S M v0 x19 (some b2) (0 : Int32)) fun r20 M => some (r20, M)))) else (zzref S 15 (zzR M v0 1) fun b22 => zzlet (zzI M b22 4) fun x23 => zzcall (F_Wk_fail S M v0 x23 (some b2) (0 : Int32)) fun r24 M => some (r24, M)))
set_option maxHeartbeats 4000000 in
set_option maxRecDepth 100000 in
theorem c_Wk_setPlace {l : Launch} {D : zzD} {bs : Nat} {A : Nat → Prop} {S : zzS} {M : zzM} {hz : Nat} {out : Int32 × zzM} {v0 : Nat} {v1 : Option Nat}   (hF : F_Wk_setPlace S  M v0 v1 = some out) (hn_v0 : v0 < S.2.1) (hk_v0 : zzk S v0 = 18) : Met l y_Wk_setPlace (Cond.code y_Wk_setPlace prog_10_method_13_code 7 (some .int) :: zzW) { frames := 3, cells := 0, slots := 0, locals := 73 } (zzPc D bs A S M hz [.ref (bs + v0), zzrf bs v1]) (zzQc D bs A S out.2 hz (some (.int out.1))) 0 0 A := by
  refine zz_met [.ref (bs + v0), zzrf bs v1] (by decide) (by cases v1 <;> exact Nat.le_of_ble_eq_true rfl) (fun p e s m args below meth c C hr hlocks hin hsz => ?_)
  refine zz_eq (lv' := [(0, .ref (bs + v0)), (1, zzrf bs v1)]) (st' := []) (by cases v1 <;> rfl) rfl ?_
  unfold F_Wk_setPlace at hF
  refine zi_aload_n C d_Wk_setPlace_0 rfl 0 rfl ?_
  refine zi_getR C zc_8 (k := 1) (by decide) zw_383 rfl hn_v0 hk_v0 d_Wk_setPlace_1 (fun _ _ _ => rfl) hF (fun b1 hn_b1 hk_b1 hF => ?_)
  refine zi_aload_nO C d_Wk_setPlace_4 rfl 1 rfl ?_
  rcases zzopt_e hF with ⟨hv0, hF⟩ | ⟨b2, hv0, hn_b2, hk_b2, hF⟩
  · refine zz_eq (lv' := [(0, .ref (bs + v0)), (1, .null)]) (st' := [.null, .ref (bs + b1)]) (by first | rfl | (rw [hv0]; rfl) | (rw [hv0]; done)) (by first | rfl | (rw [hv0]; rfl) | (rw [hv0]; done)) ?_
    cases hF
  · refine zz_eq (lv' := [(0, .ref (bs + v0)), (1, .ref (bs + b2))]) (st' := [.ref (bs + b2), .ref (bs + b1)]) (by first | rfl | (rw [hv0]; rfl) | (rw [hv0]; done)) (by first | rfl | (rw [hv0]; rfl) | (rw [hv0]; done)) ?_
    refine zi_getQ C zc_3 (k := 4) (by decide) zw_384 rfl hn_b2 hk_b2 d_Wk_setPlace_5 (fun _ _ _ => rfl) hF (fun r4 hF => ?_)
    obtain ⟨r5, M, hqr5, hF⟩ := zzcall_e hF
    refine zi_callV_l (M2 := M) (r := r5) (n := 1) (As := [zzrf bs r4]) (st := []) C (c_Rk_value hqr5 hn_b1 hk_b1) zw_308 zw_273 (by decide +kernel) ⟨Nat.le_of_ble_eq_true rfl, Nat.le_of_ble_eq_true rfl⟩ rfl (Nat.le_of_ble_eq_true rfl) ⟨Nat.le_of_ble_eq_true rfl, Nat.le_of_ble_eq_true rfl⟩ zw_385 zw_310 zw_311 zc_5.1 hn_b1 hk_b1 rfl d_Wk_setPlace_8 ?_
    refine zi_lstore_n (lv' := [(2, .long r5), (0, .ref (bs + v0)), (1, .ref (bs + b2))]) C d_Wk_setPlace_11 rfl (by decide) rfl ?_
    refine zi_aload_n C d_Wk_setPlace_12 rfl 1 rfl ?_
    refine zi_getR C zc_8 (k := 1) (by decide) zw_383 rfl hn_v0 hk_v0 d_Wk_setPlace_13 (fun _ _ _ => rfl) hF (fun b6 hn_b6 hk_b6 hF => ?_)
    refine zi_getI C zc_5 (k := 4) (by decide) zw_386 rfl hn_b6 hk_b6 d_Wk_setPlace_16 (fun _ _ _ => rfl) hF (fun x7 hF => ?_)
    refine zi_if_eq (tgt := 36) C d_Wk_setPlace_19 (by decide) hF (fun hF => ?_) (fun hF => ?_)
    · refine zi_aload_n C d_Wk_setPlace_36 rfl 1 rfl ?_
      refine zi_getR C zc_8 (k := 0) (by decide) zw_387 rfl hn_v0 hk_v0 d_Wk_setPlace_37 (fun _ _ _ => rfl) hF (fun b8 hn_b8 hk_b8 hF => ?_)
      refine zi_lload_n C d_Wk_setPlace_40 rfl 0 rfl ?_
      obtain ⟨r9, M, hqr9, hF⟩ := zzcall_e hF
      refine zi_callV_i (M2 := M) (r := r9) (n := 1) (As := [.long r5]) (st := []) C (c_Bd_placeOf hqr9 hn_b8 hk_b8) zw_282 zw_252 (by decide +kernel) ⟨Nat.le_of_ble_eq_true rfl, Nat.le_of_ble_eq_true rfl⟩ rfl (Nat.le_of_ble_eq_true rfl) ⟨Nat.le_of_ble_eq_true rfl, Nat.le_of_ble_eq_true rfl⟩ zw_397 zw_284 zw_285 zc_4.1 hn_b8 hk_b8 rfl d_Wk_setPlace_41 ?_
      refine zi_istore (lv' := [(4, .int r9), (2, .long r5), (0, .ref (bs + v0)), (1, .ref (bs + b2))]) C d_Wk_setPlace_44 (by decide) rfl ?_
      refine zi_iload C d_Wk_setPlace_46 0 rfl ?_
      refine zi_iconst (v := -1) C d_Wk_setPlace_48 (by decide) ?_
      refine zi_icmp_ne (tgt := 60) C d_Wk_setPlace_49 (by decide) hF (fun hF => ?_) (fun hF => ?_)
      · refine zi_aload_n C d_Wk_setPlace_60 rfl 2 rfl ?_
        refine zi_getR C zc_8 (k := 1) (by decide) zw_383 rfl hn_v0 hk_v0 d_Wk_setPlace_61 (fun _ _ _ => rfl) hF (fun b10 hn_b10 hk_b10 hF => ?_)
        refine zi_aload_n C d_Wk_setPlace_64 rfl 3 rfl ?_
        refine zi_getQ C zc_3 (k := 5) (by decide) zw_390 rfl hn_b2 hk_b2 d_Wk_setPlace_65 (fun _ _ _ => rfl) hF (fun r12 hF => ?_)
        obtain ⟨r13, M, hqr13, hF⟩ := zzcall_e hF
        refine zi_callV_l (M2 := M) (r := r13) (n := 1) (As := [zzrf bs r12]) (st := []) C (c_Rk_value hqr13 hn_b10 hk_b10) zw_308 zw_273 (by decide +kernel) ⟨Nat.le_of_ble_eq_true rfl, Nat.le_of_ble_eq_true rfl⟩ rfl (Nat.le_of_ble_eq_true rfl) ⟨Nat.le_of_ble_eq_true rfl, Nat.le_of_ble_eq_true rfl⟩ zw_385 zw_310 zw_311 zc_5.1 hn_b10 hk_b10 rfl d_Wk_setPlace_68 ?_
        refine zi_lstore (lv' := [(5, .long r13), (4, .int r9), (2, .long r5), (0, .ref (bs + v0)), (1, .ref (bs + b2))]) C d_Wk_setPlace_71 (by decide) rfl ?_
        refine zi_aload_n C d_Wk_setPlace_73 rfl 3 rfl ?_
        refine zi_getR C zc_8 (k := 1) (by decide) zw_383 rfl hn_v0 hk_v0 d_Wk_setPlace_74 (fun _ _ _ => rfl) hF (fun b14 hn_b14 hk_b14 hF => ?_)
        refine zi_getI C zc_5 (k := 4) (by decide) zw_386 rfl hn_b14 hk_b14 d_Wk_setPlace_77 (fun _ _ _ => rfl) hF (fun x15 hF => ?_)
        refine zi_if_eq (tgt := 97) C d_Wk_setPlace_80 (by decide) hF (fun hF => ?_) (fun hF => ?_)
        · refine zi_aload_n C d_Wk_setPlace_97 rfl 3 rfl ?_
          refine zi_getR C zc_8 (k := 0) (by decide) zw_387 rfl hn_v0 hk_v0 d_Wk_setPlace_98 (fun _ _ _ => rfl) hF (fun b16 hn_b16 hk_b16 hF => ?_)
          refine zi_getR C zc_4 (k := 2) (by decide) zw_398 rfl hn_b16 hk_b16 d_Wk_setPlace_101 (fun _ _ _ => rfl) hF (fun b17 hn_b17 hk_b17 hF => ?_)
          refine zi_iload C d_Wk_setPlace_104 1 rfl ?_
          refine zi_lload C d_Wk_setPlace_106 0 rfl ?_
          refine zi_last C hn_b17 hk_b17 d_Wk_setPlace_108 hF (fun M hF => ?_)
          refine zi_iconst (v := 0) C d_Wk_setPlace_109 (by decide) ?_
          exact zi_iret C hlocks hr d_Wk_setPlace_110 (by cases hF; rfl) rfl (by cases hF; rfl) rfl
        · refine zi_aload_n C d_Wk_setPlace_83 rfl 3 rfl ?_
          refine zi_aload_n C d_Wk_setPlace_84 rfl 3 rfl ?_
          refine zi_getR C zc_8 (k := 1) (by decide) zw_383 rfl hn_v0 hk_v0 d_Wk_setPlace_85 (fun _ _ _ => rfl) hF (fun b18 hn_b18 hk_b18 hF => ?_)
          refine zi_getI C zc_5 (k := 4) (by decide) zw_386 rfl hn_b18 hk_b18 d_Wk_setPlace_88 (fun _ _ _ => rfl) hF (fun x19 hF => ?_)
          refine zi_aload_n C d_Wk_setPlace_91 rfl 4 rfl ?_
          refine zi_iconst (v := 0) C d_Wk_setPlace_92 (by decide) ?_
          obtain ⟨r20, M, hqr20, hF⟩ := zzcall_e hF
          refine zi_callV_i (M2 := M) (r := r20) (n := 3) (As := [.int x19, .ref (bs + b2), .int (0 : Int32)]) (st := []) C (c_Wk_fail hqr20 hn_v0 hk_v0) zw_392 zw_393 (by decide +kernel) ⟨Nat.le_of_ble_eq_true rfl, Nat.le_of_ble_eq_true rfl⟩ rfl (Nat.le_of_ble_eq_true rfl) ⟨Nat.le_of_ble_eq_true rfl, Nat.le_of_ble_eq_true rfl⟩ zw_394 zw_395 zw_396 zc_8.1 hn_v0 hk_v0 rfl d_Wk_setPlace_93 ?_
          exact zi_iret C hlocks hr d_Wk_setPlace_96 (by cases hF; rfl) rfl (by cases hF; rfl) rfl
      · refine zi_aload_n C d_Wk_setPlace_52 rfl 2 rfl ?_
        refine zi_iconst (v := 2) C d_Wk_setPlace_53 (by decide) ?_
        refine zi_aload_n C d_Wk_setPlace_54 rfl 3 rfl ?_
        refine zi_iconst (v := 0) C d_Wk_setPlace_55 (by decide) ?_
        obtain ⟨r21, M, hqr21, hF⟩ := zzcall_e hF
        refine zi_callV_i (M2 := M) (r := r21) (n := 3) (As := [.int (2 : Int32), .ref (bs + b2), .int (0 : Int32)]) (st := []) C (c_Wk_fail hqr21 hn_v0 hk_v0) zw_392 zw_393 (by decide +kernel) ⟨Nat.le_of_ble_eq_true rfl, Nat.le_of_ble_eq_true rfl⟩ rfl (Nat.le_of_ble_eq_true rfl) ⟨Nat.le_of_ble_eq_true rfl, Nat.le_of_ble_eq_true rfl⟩ zw_394 zw_395 zw_396 zc_8.1 hn_v0 hk_v0 rfl d_Wk_setPlace_56 ?_
        exact zi_iret C hlocks hr d_Wk_setPlace_59 (by cases hF; rfl) rfl (by cases hF; rfl) rfl
    · refine zi_aload_n C d_Wk_setPlace_22 rfl 1 rfl ?_
      refine zi_aload_n C d_Wk_setPlace_23 rfl 1 rfl ?_
      refine zi_getR C zc_8 (k := 1) (by decide) zw_383 rfl hn_v0 hk_v0 d_Wk_setPlace_24 (fun _ _ _ => rfl) hF (fun b22 hn_b22 hk_b22 hF => ?_)
      refine zi_getI C zc_5 (k := 4) (by decide) zw_386 rfl hn_b22 hk_b22 d_Wk_setPlace_27 (fun _ _ _ => rfl) hF (fun x23 hF => ?_)
      refine zi_aload_n C d_Wk_setPlace_30 rfl 2 rfl ?_
      refine zi_iconst (v := 0) C d_Wk_setPlace_31 (by decide) ?_
      obtain ⟨r24, M, hqr24, hF⟩ := zzcall_e hF
      refine zi_callV_i (M2 := M) (r := r24) (n := 3) (As := [.int x23, .ref (bs + b2), .int (0 : Int32)]) (st := []) C (c_Wk_fail hqr24 hn_v0 hk_v0) zw_392 zw_393 (by decide +kernel) ⟨Nat.le_of_ble_eq_true rfl, Nat.le_of_ble_eq_true rfl⟩ rfl (Nat.le_of_ble_eq_true rfl) ⟨Nat.le_of_ble_eq_true rfl, Nat.le_of_ble_eq_true rfl⟩ zw_394 zw_395 zw_396 zc_8.1 hn_v0 hk_v0 rfl d_Wk_setPlace_32 ?_
      exact zi_iret C hlocks hr d_Wk_setPlace_35 (by cases hF; rfl) rfl (by cases hF; rfl) rfl
def F_Wk_ask_17_b (S : zzS)  (k17 : zzM → Nat → Option Nat → Int64 → Int32 → Int32 → Option (Int32 × zzM)) (M : zzM) (v0 : Nat) (v1 : Option Nat) (v2 : Int64) (v4 : Int32) (v5 : Int32) : Option (Int32 × zzM) := zzref S 14 (zzR M v0 0) fun b1 => zzlet (zzI M b1 1) fun x2 => if x2 ≤ v5 then (zzref S 15 (zzR M v0 1) fun b3 => zzref S 2 (zzR M b3 1) fun b4 => zzix S b4 (25 : Int32) (zzlet (zzsL M b4 ((25 : Int32)).toNatClampNeg v2) fun M => zzref S 16 (zzR M v0 2) fun b5 => zzlet (zzsI M b5 6 v4) fun M => some ((0 : Int32), M))) else (zzref S 15 (zzR M v0 1) fun b6 => zzref S 2 (zzR M b6 1) fun b7 => zzlet ((v5).toInt64) fun x8 => zzix S b7 (25 : Int32) (zzlet (zzsL M b7 ((25 : Int32)).toNatClampNeg x8) fun M => zzref S 15 (zzR M v0 1) fun b9 => zzopt S 13 v1 (none) (fun b10 => zzlet (zzR M b10 5) fun r12 => zzcall (F_Rk_value S M b9 r12) fun r13 M => zzref S 15 (zzR M v0 1) fun b14 => zzlet (zzI M b14 4) fun x15 => if x15 = 0 then (zzlet (lg_cmp r13 (0 : Int64)) fun x16 => if x16 = 0 then (zzlet (v5 + (1 : Int32)) fun x17 => k17 M v0 (some b10) v2 v4 x17) else (zzlet ((1 : Int32) <<< (v5 &&& 31)) fun x18 => zzlet (v4 ||| x18) fun x19 => zzlet (v5 + (1 : Int32)) fun x20 => k17 M v0 (some b10) v2 x19 x20)) else (zzref S 15 (zzR M v0 1) fun b21 => zzlet (zzI M b21 4) fun x22 => zzcall (F_Wk_fail S M v0 x22 (some b10) (0 : Int32)) fun r23 M => some (r23, M)))))
def F_Wk_ask_17 (S : zzS)   (n : Nat) : zzM → Nat → Option Nat → Int64 → Int32 → Int32 → Option (Int32 × zzM) := Nat.rec (fun _ _ _ _ _ _ => none) (fun _ k => F_Wk_ask_17_b S   k) n
set_option maxHeartbeats 4000000 in
set_option maxRecDepth 100000 in
theorem g_Wk_ask_17_b {p : Program} {l : Launch} {e : Env} {s : State} {m : MethodId} {args : Array Value} {below : List Frame} {meth : Method} {c : Code} {D : zzD} {bs : Nat} {A : Nat → Prop} {S : zzS} {hz : Nat} {out : Int32 × zzM}  (C : zzC p s m args c prog_10_method_14_code "BoardScript$Walk" 8 D) (hlocks : meth.locks = false) (hr : meth.sig.returnType = (some .int)) (hin : meth.name = "ask")  {k17 : zzM → Nat → Option Nat → Int64 → Int32 → Int32 → Option (Int32 × zzM)} (hk17 : ∀ (M : zzM) (v0 : Nat) (v1 : Option Nat) (v2 : Int64) (v4 : Int32) (v5 : Int32) (hn_v0 : v0 < S.2.1) (hk_v0 : zzk S v0 = 18), k17 M v0 v1 v2 v4 v5 = some out → zzB p l e { frames := 3, cells := 0, slots := 0, locals := 73 } s m args below meth c 8 D bs A (MQ below (zzQc D bs A S out.2 hz (some (.int out.1))) args s 0 0 A) 0 0 S M hz 17 [(0, .ref (bs + v0)), (1, zzrf bs v1), (2, .long v2), (4, .int v4), (5, .int v5)] []) (M : zzM) (v0 : Nat) (v1 : Option Nat) (v2 : Int64) (v4 : Int32) (v5 : Int32) (hn_v0 : v0 < S.2.1) (hk_v0 : zzk S v0 = 18) (hF : F_Wk_ask_17_b S  k17 M v0 v1 v2 v4 v5 = some out) : zzB p l e { frames := 3, cells := 0, slots := 0, locals := 73 } s m args below meth c 8 D bs A (MQ below (zzQc D bs A S out.2 hz (some (.int out.1))) args s 0 0 A) 0 0 S M hz 17 [(0, .ref (bs + v0)), (1, zzrf bs v1), (2, .long v2), (4, .int v4), (5, .int v5)] [] := by
  unfold F_Wk_ask_17_b at hF
  refine zi_iload C d_Wk_ask_17 4 rfl ?_
  refine zi_aload_n C d_Wk_ask_19 rfl 0 rfl ?_
  refine zi_getR C zc_8 (k := 0) (by decide) zw_387 rfl hn_v0 hk_v0 d_Wk_ask_20 (fun _ _ _ => rfl) hF (fun b1 hn_b1 hk_b1 hF => ?_)
  refine zi_getI C zc_4 (k := 1) (by decide) zw_400 rfl hn_b1 hk_b1 d_Wk_ask_23 (fun _ _ _ => rfl) hF (fun x2 hF => ?_)
  refine zi_icmp_ge (tgt := 101) C d_Wk_ask_26 (by decide) hF (fun hF => ?_) (fun hF => ?_)
  · refine zi_aload_n C d_Wk_ask_101 rfl 0 rfl ?_
    refine zi_getR C zc_8 (k := 1) (by decide) zw_383 rfl hn_v0 hk_v0 d_Wk_ask_102 (fun _ _ _ => rfl) hF (fun b3 hn_b3 hk_b3 hF => ?_)
    refine zi_getR C zc_5 (k := 1) (by decide) zw_399 rfl hn_b3 hk_b3 d_Wk_ask_105 (fun _ _ _ => rfl) hF (fun b4 hn_b4 hk_b4 hF => ?_)
    refine zi_bipush (v := 25) C d_Wk_ask_108 (by decide) ?_
    refine zi_lload_n C d_Wk_ask_110 rfl 2 rfl ?_
    refine zi_last C hn_b4 hk_b4 d_Wk_ask_111 hF (fun M hF => ?_)
    refine zi_aload_n C d_Wk_ask_112 rfl 0 rfl ?_
    refine zi_getR C zc_8 (k := 2) (by decide) zw_379 rfl hn_v0 hk_v0 d_Wk_ask_113 (fun _ _ _ => rfl) hF (fun b5 hn_b5 hk_b5 hF => ?_)
    refine zi_iload C d_Wk_ask_116 3 rfl ?_
    refine zi_putI C zc_6 (k := 6) (by decide) zw_401 rfl (Or.inl rfl) hn_b5 hk_b5 d_Wk_ask_118 rfl hF (fun M hF => ?_)
    refine zi_iconst (v := 0) C d_Wk_ask_121 (by decide) ?_
    exact zi_iret C hlocks hr d_Wk_ask_122 (by cases hF; rfl) rfl (by cases hF; rfl) rfl
  · refine zi_aload_n C d_Wk_ask_29 rfl 0 rfl ?_
    refine zi_getR C zc_8 (k := 1) (by decide) zw_383 rfl hn_v0 hk_v0 d_Wk_ask_30 (fun _ _ _ => rfl) hF (fun b6 hn_b6 hk_b6 hF => ?_)
    refine zi_getR C zc_5 (k := 1) (by decide) zw_399 rfl hn_b6 hk_b6 d_Wk_ask_33 (fun _ _ _ => rfl) hF (fun b7 hn_b7 hk_b7 hF => ?_)
    refine zi_bipush (v := 25) C d_Wk_ask_36 (by decide) ?_
    refine zi_iload C d_Wk_ask_38 4 rfl ?_
    refine zi_i2l C d_Wk_ask_40 hF (fun x8 hF => ?_)
    refine zi_last C hn_b7 hk_b7 d_Wk_ask_41 hF (fun M hF => ?_)
    refine zi_aload_n C d_Wk_ask_42 rfl 0 rfl ?_
    refine zi_getR C zc_8 (k := 1) (by decide) zw_383 rfl hn_v0 hk_v0 d_Wk_ask_43 (fun _ _ _ => rfl) hF (fun b9 hn_b9 hk_b9 hF => ?_)
    refine zi_aload_nO C d_Wk_ask_46 rfl 1 rfl ?_
    rcases zzopt_e hF with ⟨hv0, hF⟩ | ⟨b10, hv0, hn_b10, hk_b10, hF⟩
    · refine zz_eq (lv' := [(0, .ref (bs + v0)), (1, .null), (2, .long v2), (4, .int v4), (5, .int v5)]) (st' := [.null, .ref (bs + b9)]) (by first | rfl | (rw [hv0]; rfl) | (rw [hv0]; done)) (by first | rfl | (rw [hv0]; rfl) | (rw [hv0]; done)) ?_
      cases hF
    · refine zz_eq (lv' := [(0, .ref (bs + v0)), (1, .ref (bs + b10)), (2, .long v2), (4, .int v4), (5, .int v5)]) (st' := [.ref (bs + b10), .ref (bs + b9)]) (by first | rfl | (rw [hv0]; rfl) | (rw [hv0]; done)) (by first | rfl | (rw [hv0]; rfl) | (rw [hv0]; done)) ?_
      refine zi_getQ C zc_3 (k := 5) (by decide) zw_390 rfl hn_b10 hk_b10 d_Wk_ask_47 (fun _ _ _ => rfl) hF (fun r12 hF => ?_)
      obtain ⟨r13, M, hqr13, hF⟩ := zzcall_e hF
      refine zi_callV_l (M2 := M) (r := r13) (n := 1) (As := [zzrf bs r12]) (st := []) C (c_Rk_value hqr13 hn_b9 hk_b9) zw_308 zw_273 (by decide +kernel) ⟨Nat.le_of_ble_eq_true rfl, Nat.le_of_ble_eq_true rfl⟩ rfl (Nat.le_of_ble_eq_true rfl) ⟨Nat.le_of_ble_eq_true rfl, Nat.le_of_ble_eq_true rfl⟩ zw_385 zw_310 zw_311 zc_5.1 hn_b9 hk_b9 rfl d_Wk_ask_50 ?_
      refine zi_lstore (lv' := [(6, .long r13), (0, .ref (bs + v0)), (1, .ref (bs + b10)), (2, .long v2), (4, .int v4), (5, .int v5)]) C d_Wk_ask_53 (by decide) rfl ?_
      refine zi_aload_n C d_Wk_ask_55 rfl 1 rfl ?_
      refine zi_getR C zc_8 (k := 1) (by decide) zw_383 rfl hn_v0 hk_v0 d_Wk_ask_56 (fun _ _ _ => rfl) hF (fun b14 hn_b14 hk_b14 hF => ?_)
      refine zi_getI C zc_5 (k := 4) (by decide) zw_386 rfl hn_b14 hk_b14 d_Wk_ask_59 (fun _ _ _ => rfl) hF (fun x15 hF => ?_)
      refine zi_if_eq (tgt := 79) C d_Wk_ask_62 (by decide) hF (fun hF => ?_) (fun hF => ?_)
      · refine zi_lload C d_Wk_ask_79 0 rfl ?_
        refine zi_lconst (v := 0) C d_Wk_ask_81 (by decide) ?_
        refine zi_lcmp C d_Wk_ask_82 hF (fun x16 hF => ?_)
        refine zi_if_eq (tgt := 95) C d_Wk_ask_83 (by decide) hF (fun hF => ?_) (fun hF => ?_)
        · refine zi_iinc (j := 5) (v0 := 1) C d_Wk_ask_95 rfl (by decide) (by decide) hF (fun x17 => [(5, .int x17), (6, .long r13), (0, .ref (bs + v0)), (1, .ref (bs + b10)), (2, .long v2), (4, .int v4)]) (fun _ => rfl) (fun x17 hF => ?_)
          refine zi_goto (tgt := 17) C d_Wk_ask_98 (by decide) ?_
          refine zz_sub [2, 3, 4, 5, 0] (lv' := [(0, .ref (bs + v0)), (1, zzrf bs (some b10)), (2, .long v2), (4, .int v4), (5, .int x17)]) rfl ?_
          exact hk17 _ v0 (some b10) v2 v4 x17 hn_v0 hk_v0 hF
        · refine zi_iload C d_Wk_ask_86 4 rfl ?_
          refine zi_iconst (v := 1) C d_Wk_ask_88 (by decide) ?_
          refine zi_iload C d_Wk_ask_89 5 rfl ?_
          refine zi_ishl C d_Wk_ask_91 hF (fun x18 hF => ?_)
          refine zi_ior C d_Wk_ask_92 hF (fun x19 hF => ?_)
          refine zi_istore (lv' := [(4, .int x19), (6, .long r13), (0, .ref (bs + v0)), (1, .ref (bs + b10)), (2, .long v2), (5, .int v5)]) C d_Wk_ask_93 (by decide) rfl ?_
          refine zi_iinc (j := 5) (v0 := 1) C d_Wk_ask_95 rfl (by decide) (by decide) hF (fun x20 => [(5, .int x20), (4, .int x19), (6, .long r13), (0, .ref (bs + v0)), (1, .ref (bs + b10)), (2, .long v2)]) (fun _ => rfl) (fun x20 hF => ?_)
          refine zi_goto (tgt := 17) C d_Wk_ask_98 (by decide) ?_
          refine zz_sub [3, 4, 5, 1, 0] (lv' := [(0, .ref (bs + v0)), (1, zzrf bs (some b10)), (2, .long v2), (4, .int x19), (5, .int x20)]) rfl ?_
          exact hk17 _ v0 (some b10) v2 x19 x20 hn_v0 hk_v0 hF
      · refine zi_aload_n C d_Wk_ask_65 rfl 1 rfl ?_
        refine zi_aload_n C d_Wk_ask_66 rfl 1 rfl ?_
        refine zi_getR C zc_8 (k := 1) (by decide) zw_383 rfl hn_v0 hk_v0 d_Wk_ask_67 (fun _ _ _ => rfl) hF (fun b21 hn_b21 hk_b21 hF => ?_)
        refine zi_getI C zc_5 (k := 4) (by decide) zw_386 rfl hn_b21 hk_b21 d_Wk_ask_70 (fun _ _ _ => rfl) hF (fun x22 hF => ?_)
        refine zi_aload_n C d_Wk_ask_73 rfl 2 rfl ?_
        refine zi_iconst (v := 0) C d_Wk_ask_74 (by decide) ?_
        obtain ⟨r23, M, hqr23, hF⟩ := zzcall_e hF
        refine zi_callV_i (M2 := M) (r := r23) (n := 3) (As := [.int x22, .ref (bs + b10), .int (0 : Int32)]) (st := []) C (c_Wk_fail hqr23 hn_v0 hk_v0) zw_392 zw_393 (by decide +kernel) ⟨Nat.le_of_ble_eq_true rfl, Nat.le_of_ble_eq_true rfl⟩ rfl (Nat.le_of_ble_eq_true rfl) ⟨Nat.le_of_ble_eq_true rfl, Nat.le_of_ble_eq_true rfl⟩ zw_394 zw_395 zw_396 zc_8.1 hn_v0 hk_v0 rfl d_Wk_ask_75 ?_
        exact zi_iret C hlocks hr d_Wk_ask_78 (by cases hF; rfl) rfl (by cases hF; rfl) rfl
set_option maxHeartbeats 4000000 in
set_option maxRecDepth 100000 in
theorem g_Wk_ask_17 {p : Program} {l : Launch} {e : Env} {s : State} {m : MethodId} {args : Array Value} {below : List Frame} {meth : Method} {c : Code} {D : zzD} {bs : Nat} {A : Nat → Prop} {S : zzS} {hz : Nat} {out : Int32 × zzM}  (C : zzC p s m args c prog_10_method_14_code "BoardScript$Walk" 8 D) (hlocks : meth.locks = false) (hr : meth.sig.returnType = (some .int)) (hin : meth.name = "ask")    : ∀ (n : Nat) (M : zzM) (v0 : Nat) (v1 : Option Nat) (v2 : Int64) (v4 : Int32) (v5 : Int32) (hn_v0 : v0 < S.2.1) (hk_v0 : zzk S v0 = 18) (hF : F_Wk_ask_17 S   n M v0 v1 v2 v4 v5 = some out), zzB p l e { frames := 3, cells := 0, slots := 0, locals := 73 } s m args below meth c 8 D bs A (MQ below (zzQc D bs A S out.2 hz (some (.int out.1))) args s 0 0 A) 0 0 S M hz 17 [(0, .ref (bs + v0)), (1, zzrf bs v1), (2, .long v2), (4, .int v4), (5, .int v5)] [] := by
  intro n
  induction n with
  | zero => intro M v0 v1 v2 v4 v5 hn_v0 hk_v0 hF; cases hF
  | succ n ih => intro M v0 v1 v2 v4 v5 hn_v0 hk_v0 hF; exact g_Wk_ask_17_b C hlocks hr hin   ih M v0 v1 v2 v4 v5 hn_v0 hk_v0 hF
def F_Wk_ask (S : zzS)  (M : zzM) (v0 : Nat) (v1 : Option Nat) : Option (Int32 × zzM) := zzref S 15 (zzR M v0 1) fun b1 => zzref S 2 (zzR M b1 1) fun b2 => zzix S b2 (25 : Int32) (zzlet (zzL M b2 ((25 : Int32)).toNatClampNeg) fun x3 => F_Wk_ask_17 S   2000 M v0 v1 x3 (0 : Int32) (0 : Int32))
set_option maxHeartbeats 4000000 in
set_option maxRecDepth 100000 in
theorem c_Wk_ask {l : Launch} {D : zzD} {bs : Nat} {A : Nat → Prop} {S : zzS} {M : zzM} {hz : Nat} {out : Int32 × zzM} {v0 : Nat} {v1 : Option Nat}   (hF : F_Wk_ask S  M v0 v1 = some out) (hn_v0 : v0 < S.2.1) (hk_v0 : zzk S v0 = 18) : Met l y_Wk_ask (Cond.code y_Wk_ask prog_10_method_14_code 8 (some .int) :: zzW) { frames := 3, cells := 0, slots := 0, locals := 73 } (zzPc D bs A S M hz [.ref (bs + v0), zzrf bs v1]) (zzQc D bs A S out.2 hz (some (.int out.1))) 0 0 A := by
  refine zz_met [.ref (bs + v0), zzrf bs v1] (by decide) (by cases v1 <;> exact Nat.le_of_ble_eq_true rfl) (fun p e s m args below meth c C hr hlocks hin hsz => ?_)
  refine zz_eq (lv' := [(0, .ref (bs + v0)), (1, zzrf bs v1)]) (st' := []) (by cases v1 <;> rfl) rfl ?_
  unfold F_Wk_ask at hF
  refine zi_aload_n C d_Wk_ask_0 rfl 0 rfl ?_
  refine zi_getR C zc_8 (k := 1) (by decide) zw_383 rfl hn_v0 hk_v0 d_Wk_ask_1 (fun _ _ _ => rfl) hF (fun b1 hn_b1 hk_b1 hF => ?_)
  refine zi_getR C zc_5 (k := 1) (by decide) zw_399 rfl hn_b1 hk_b1 d_Wk_ask_4 (fun _ _ _ => rfl) hF (fun b2 hn_b2 hk_b2 hF => ?_)
  refine zi_bipush (v := 25) C d_Wk_ask_7 (by decide) ?_
  refine zi_lald C hn_b2 hk_b2 d_Wk_ask_9 hF (fun x3 hF => ?_)
  refine zi_lstore_n (lv' := [(2, .long x3), (0, .ref (bs + v0)), (1, zzrf bs v1)]) C d_Wk_ask_10 rfl (by decide) (by cases v1 <;> rfl) ?_
  refine zi_iconst (v := 0) C d_Wk_ask_11 (by decide) ?_
  refine zi_istore (lv' := [(4, .int (0 : Int32)), (2, .long x3), (0, .ref (bs + v0)), (1, zzrf bs v1)]) C d_Wk_ask_12 (by decide) rfl ?_
  refine zi_iconst (v := 0) C d_Wk_ask_14 (by decide) ?_
  refine zi_istore (lv' := [(5, .int (0 : Int32)), (4, .int (0 : Int32)), (2, .long x3), (0, .ref (bs + v0)), (1, zzrf bs v1)]) C d_Wk_ask_15 (by decide) rfl ?_
  refine zz_sub [3, 4, 2, 1, 0] (lv' := [(0, .ref (bs + v0)), (1, zzrf bs v1), (2, .long x3), (4, .int (0 : Int32)), (5, .int (0 : Int32))]) rfl ?_
  exact g_Wk_ask_17 C hlocks hr hin   _ _ v0 v1 x3 (0 : Int32) (0 : Int32) hn_v0 hk_v0 hF
def F_Wk_withValue (S : zzS)  (M : zzM) (v0 : Nat) (v1 : Option Nat) : Option (Int32 × zzM) := zzref S 15 (zzR M v0 1) fun b1 => zzopt S 13 v1 (none) (fun b2 => zzlet (zzR M b2 5) fun r4 => zzcall (F_Rk_value S M b1 r4) fun r5 M => zzref S 15 (zzR M v0 1) fun b6 => zzlet (zzI M b6 4) fun x7 => if x7 = 0 then (zzlet (zzI M b2 0) fun x8 => if x8 = (33 : Int32) then (zzref S 16 (zzR M v0 2) fun b10 => zzlet ((r5).toInt32) fun x11 => zzcall (F_Rp_addOutput S M b10 x11) fun r12 M => some ((0 : Int32), M)) else (if x8 = (43 : Int32) then (zzref S 14 (zzR M v0 0) fun b14 => zzcall (F_Bd_create S M b14 r5) fun r15 M => if r15 = (-1 : Int32) then (zzcall (F_Wk_fail S M v0 (3 : Int32) (some b2) (0 : Int32)) fun r16 M => some (r16, M)) else (some ((0 : Int32), M))) else (if x8 = (60 : Int32) then (zzref S 14 (zzR M v0 0) fun b18 => zzcall (F_Bd_resize S M b18 r5) fun r19 M => if r19 = 0 then (zzcall (F_Wk_fail S M v0 (3 : Int32) (some b2) (0 : Int32)) fun r20 M => some (r20, M)) else (some ((0 : Int32), M))) else (if x8 = (94 : Int32) then (zzlet ((r5).toInt32) fun x22 => zzcall (F_Wk_fail S M v0 (4 : Int32) (some b2) x22) fun r23 M => some (r23, M)) else (zzlet (zzI M b2 3) fun x24 => if x24 < 0 then (some ((0 : Int32), M)) else (zzlet (zzI M b2 3) fun x25 => if (26 : Int32) ≤ x25 then (some ((0 : Int32), M)) else (zzref S 15 (zzR M v0 1) fun b26 => zzref S 2 (zzR M b26 1) fun b27 => zzlet (zzI M b2 3) fun x28 => zzix S b27 x28 (zzlet (zzsL M b27 (x28).toNatClampNeg r5) fun M => some ((0 : Int32), M))))))))) else (zzref S 15 (zzR M v0 1) fun b29 => zzlet (zzI M b29 4) fun x30 => zzcall (F_Wk_fail S M v0 x30 (some b2) (0 : Int32)) fun r31 M => some (r31, M)))
set_option maxHeartbeats 4000000 in
set_option maxRecDepth 100000 in
theorem c_Wk_withValue {l : Launch} {D : zzD} {bs : Nat} {A : Nat → Prop} {S : zzS} {M : zzM} {hz : Nat} {out : Int32 × zzM} {v0 : Nat} {v1 : Option Nat}   (hF : F_Wk_withValue S  M v0 v1 = some out) (hn_v0 : v0 < S.2.1) (hk_v0 : zzk S v0 = 18) : Met l y_Wk_withValue (Cond.code y_Wk_withValue prog_10_method_15_code 4 (some .int) :: zzW) { frames := 4, cells := 0, slots := 0, locals := 142 } (zzPc D bs A S M hz [.ref (bs + v0), zzrf bs v1]) (zzQc D bs A S out.2 hz (some (.int out.1))) 0 0 A := by
  refine zz_met [.ref (bs + v0), zzrf bs v1] (by decide) (by cases v1 <;> exact Nat.le_of_ble_eq_true rfl) (fun p e s m args below meth c C hr hlocks hin hsz => ?_)
  refine zz_eq (lv' := [(0, .ref (bs + v0)), (1, zzrf bs v1)]) (st' := []) (by cases v1 <;> rfl) rfl ?_
  unfold F_Wk_withValue at hF
  refine zi_aload_n C d_Wk_withValue_0 rfl 0 rfl ?_
  refine zi_getR C zc_8 (k := 1) (by decide) zw_383 rfl hn_v0 hk_v0 d_Wk_withValue_1 (fun _ _ _ => rfl) hF (fun b1 hn_b1 hk_b1 hF => ?_)
  refine zi_aload_nO C d_Wk_withValue_4 rfl 1 rfl ?_
  rcases zzopt_e hF with ⟨hv0, hF⟩ | ⟨b2, hv0, hn_b2, hk_b2, hF⟩
  · refine zz_eq (lv' := [(0, .ref (bs + v0)), (1, .null)]) (st' := [.null, .ref (bs + b1)]) (by first | rfl | (rw [hv0]; rfl) | (rw [hv0]; done)) (by first | rfl | (rw [hv0]; rfl) | (rw [hv0]; done)) ?_
    cases hF
  · refine zz_eq (lv' := [(0, .ref (bs + v0)), (1, .ref (bs + b2))]) (st' := [.ref (bs + b2), .ref (bs + b1)]) (by first | rfl | (rw [hv0]; rfl) | (rw [hv0]; done)) (by first | rfl | (rw [hv0]; rfl) | (rw [hv0]; done)) ?_
    refine zi_getQ C zc_3 (k := 5) (by decide) zw_390 rfl hn_b2 hk_b2 d_Wk_withValue_5 (fun _ _ _ => rfl) hF (fun r4 hF => ?_)
    obtain ⟨r5, M, hqr5, hF⟩ := zzcall_e hF
    refine zi_callV_l (M2 := M) (r := r5) (n := 1) (As := [zzrf bs r4]) (st := []) C (c_Rk_value hqr5 hn_b1 hk_b1) zw_308 zw_273 (by decide +kernel) ⟨Nat.le_of_ble_eq_true rfl, Nat.le_of_ble_eq_true rfl⟩ rfl (Nat.le_of_ble_eq_true rfl) ⟨Nat.le_of_ble_eq_true rfl, Nat.le_of_ble_eq_true rfl⟩ zw_385 zw_310 zw_311 zc_5.1 hn_b1 hk_b1 rfl d_Wk_withValue_8 ?_
    refine zi_lstore_n (lv' := [(2, .long r5), (0, .ref (bs + v0)), (1, .ref (bs + b2))]) C d_Wk_withValue_11 rfl (by decide) rfl ?_
    refine zi_aload_n C d_Wk_withValue_12 rfl 1 rfl ?_
    refine zi_getR C zc_8 (k := 1) (by decide) zw_383 rfl hn_v0 hk_v0 d_Wk_withValue_13 (fun _ _ _ => rfl) hF (fun b6 hn_b6 hk_b6 hF => ?_)
    refine zi_getI C zc_5 (k := 4) (by decide) zw_386 rfl hn_b6 hk_b6 d_Wk_withValue_16 (fun _ _ _ => rfl) hF (fun x7 hF => ?_)
    refine zi_if_eq (tgt := 36) C d_Wk_withValue_19 (by decide) hF (fun hF => ?_) (fun hF => ?_)
    · refine zi_aload_n C d_Wk_withValue_36 rfl 2 rfl ?_
      refine zi_getI C zc_3 (k := 0) (by decide) zw_402 rfl hn_b2 hk_b2 d_Wk_withValue_37 (fun _ _ _ => rfl) hF (fun x8 hF => ?_)
      by_cases hs9 : x8 = (33 : Int32)
      · rw [if_pos hs9] at hF
        refine zi_lookup C d_Wk_withValue_40 (by decide) 44 84 (by rw [hs9]; decide +kernel) (by decide) ?_
        refine zi_aload_n C d_Wk_withValue_84 rfl 1 rfl ?_
        refine zi_getR C zc_8 (k := 2) (by decide) zw_379 rfl hn_v0 hk_v0 d_Wk_withValue_85 (fun _ _ _ => rfl) hF (fun b10 hn_b10 hk_b10 hF => ?_)
        refine zi_lload_n C d_Wk_withValue_88 rfl 0 rfl ?_
        refine zi_l2i C d_Wk_withValue_89 hF (fun x11 hF => ?_)
        obtain ⟨r12, M, hqr12, hF⟩ := zzcall_e hF
        refine zi_callV_v (M2 := M) (n := 1) (As := [.int x11]) (st := []) C (c_Rp_addOutput hqr12 hn_b10 hk_b10) zw_403 zw_259 (by decide +kernel) ⟨Nat.le_of_ble_eq_true rfl, Nat.le_of_ble_eq_true rfl⟩ rfl (Nat.le_of_ble_eq_true rfl) ⟨Nat.le_of_ble_eq_true rfl, Nat.le_of_ble_eq_true rfl⟩ zw_404 zw_405 zw_406 zc_6.1 hn_b10 hk_b10 rfl d_Wk_withValue_90 ?_
        refine zi_iconst (v := 0) C d_Wk_withValue_93 (by decide) ?_
        exact zi_iret C hlocks hr d_Wk_withValue_94 (by cases hF; rfl) rfl (by cases hF; rfl) rfl
      · rw [if_neg hs9] at hF
        by_cases hs13 : x8 = (43 : Int32)
        · rw [if_pos hs13] at hF
          refine zi_lookup C d_Wk_withValue_40 (by decide) 64 104 (by rw [hs13]; decide +kernel) (by decide) ?_
          refine zi_aload_n C d_Wk_withValue_104 rfl 1 rfl ?_
          refine zi_getR C zc_8 (k := 0) (by decide) zw_387 rfl hn_v0 hk_v0 d_Wk_withValue_105 (fun _ _ _ => rfl) hF (fun b14 hn_b14 hk_b14 hF => ?_)
          refine zi_lload_n C d_Wk_withValue_108 rfl 0 rfl ?_
          obtain ⟨r15, M, hqr15, hF⟩ := zzcall_e hF
          refine zi_callV_i (M2 := M) (r := r15) (n := 1) (As := [.long r5]) (st := []) C (c_Bd_create hqr15 hn_b14 hk_b14) zw_251 zw_252 (by decide +kernel) ⟨Nat.le_of_ble_eq_true rfl, Nat.le_of_ble_eq_true rfl⟩ rfl (Nat.le_of_ble_eq_true rfl) ⟨Nat.le_of_ble_eq_true rfl, Nat.le_of_ble_eq_true rfl⟩ zw_407 zw_254 zw_255 zc_4.1 hn_b14 hk_b14 rfl d_Wk_withValue_109 ?_
          refine zi_iconst (v := -1) C d_Wk_withValue_112 (by decide) ?_
          refine zi_icmp_ne (tgt := 126) C d_Wk_withValue_113 (by decide) hF (fun hF => ?_) (fun hF => ?_)
          · refine zi_iconst (v := 0) C d_Wk_withValue_126 (by decide) ?_
            exact zi_iret C hlocks hr d_Wk_withValue_127 (by cases hF; rfl) rfl (by cases hF; rfl) rfl
          · refine zi_aload_n C d_Wk_withValue_116 rfl 1 rfl ?_
            refine zi_iconst (v := 3) C d_Wk_withValue_117 (by decide) ?_
            refine zi_aload_n C d_Wk_withValue_118 rfl 2 rfl ?_
            refine zi_iconst (v := 0) C d_Wk_withValue_119 (by decide) ?_
            obtain ⟨r16, M, hqr16, hF⟩ := zzcall_e hF
            refine zi_callV_i (M2 := M) (r := r16) (n := 3) (As := [.int (3 : Int32), .ref (bs + b2), .int (0 : Int32)]) (st := []) C (c_Wk_fail hqr16 hn_v0 hk_v0) zw_392 zw_393 (by decide +kernel) ⟨Nat.le_of_ble_eq_true rfl, Nat.le_of_ble_eq_true rfl⟩ rfl (Nat.le_of_ble_eq_true rfl) ⟨Nat.le_of_ble_eq_true rfl, Nat.le_of_ble_eq_true rfl⟩ zw_394 zw_395 zw_396 zc_8.1 hn_v0 hk_v0 rfl d_Wk_withValue_120 ?_
            refine zi_goto (tgt := 127) C d_Wk_withValue_123 (by decide) ?_
            exact zi_iret C hlocks hr d_Wk_withValue_127 (by cases hF; rfl) rfl (by cases hF; rfl) rfl
        · rw [if_neg hs13] at hF
          by_cases hs17 : x8 = (60 : Int32)
          · rw [if_pos hs17] at hF
            refine zi_lookup C d_Wk_withValue_40 (by decide) 88 128 (by rw [hs17]; decide +kernel) (by decide) ?_
            refine zi_aload_n C d_Wk_withValue_128 rfl 1 rfl ?_
            refine zi_getR C zc_8 (k := 0) (by decide) zw_387 rfl hn_v0 hk_v0 d_Wk_withValue_129 (fun _ _ _ => rfl) hF (fun b18 hn_b18 hk_b18 hF => ?_)
            refine zi_lload_n C d_Wk_withValue_132 rfl 0 rfl ?_
            obtain ⟨r19, M, hqr19, hF⟩ := zzcall_e hF
            refine zi_callV_i (M2 := M) (r := r19) (n := 1) (As := [.long r5]) (st := []) C (c_Bd_resize hqr19 hn_b18 hk_b18) zw_321 zw_252 (by decide +kernel) ⟨Nat.le_of_ble_eq_true rfl, Nat.le_of_ble_eq_true rfl⟩ rfl (Nat.le_of_ble_eq_true rfl) ⟨Nat.le_of_ble_eq_true rfl, Nat.le_of_ble_eq_true rfl⟩ zw_408 zw_323 zw_324 zc_4.1 hn_b18 hk_b18 rfl d_Wk_withValue_133 ?_
            refine zi_if_eq (tgt := 143) C d_Wk_withValue_136 (by decide) hF (fun hF => ?_) (fun hF => ?_)
            · refine zi_aload_n C d_Wk_withValue_143 rfl 1 rfl ?_
              refine zi_iconst (v := 3) C d_Wk_withValue_144 (by decide) ?_
              refine zi_aload_n C d_Wk_withValue_145 rfl 2 rfl ?_
              refine zi_iconst (v := 0) C d_Wk_withValue_146 (by decide) ?_
              obtain ⟨r20, M, hqr20, hF⟩ := zzcall_e hF
              refine zi_callV_i (M2 := M) (r := r20) (n := 3) (As := [.int (3 : Int32), .ref (bs + b2), .int (0 : Int32)]) (st := []) C (c_Wk_fail hqr20 hn_v0 hk_v0) zw_392 zw_393 (by decide +kernel) ⟨Nat.le_of_ble_eq_true rfl, Nat.le_of_ble_eq_true rfl⟩ rfl (Nat.le_of_ble_eq_true rfl) ⟨Nat.le_of_ble_eq_true rfl, Nat.le_of_ble_eq_true rfl⟩ zw_394 zw_395 zw_396 zc_8.1 hn_v0 hk_v0 rfl d_Wk_withValue_147 ?_
              exact zi_iret C hlocks hr d_Wk_withValue_150 (by cases hF; rfl) rfl (by cases hF; rfl) rfl
            · refine zi_iconst (v := 0) C d_Wk_withValue_139 (by decide) ?_
              refine zi_goto (tgt := 150) C d_Wk_withValue_140 (by decide) ?_
              exact zi_iret C hlocks hr d_Wk_withValue_150 (by cases hF; rfl) rfl (by cases hF; rfl) rfl
          · rw [if_neg hs17] at hF
            by_cases hs21 : x8 = (94 : Int32)
            · rw [if_pos hs21] at hF
              refine zi_lookup C d_Wk_withValue_40 (by decide) 55 95 (by rw [hs21]; decide +kernel) (by decide) ?_
              refine zi_aload_n C d_Wk_withValue_95 rfl 1 rfl ?_
              refine zi_iconst (v := 4) C d_Wk_withValue_96 (by decide) ?_
              refine zi_aload_n C d_Wk_withValue_97 rfl 2 rfl ?_
              refine zi_lload_n C d_Wk_withValue_98 rfl 0 rfl ?_
              refine zi_l2i C d_Wk_withValue_99 hF (fun x22 hF => ?_)
              obtain ⟨r23, M, hqr23, hF⟩ := zzcall_e hF
              refine zi_callV_i (M2 := M) (r := r23) (n := 3) (As := [.int (4 : Int32), .ref (bs + b2), .int x22]) (st := []) C (c_Wk_fail hqr23 hn_v0 hk_v0) zw_392 zw_393 (by decide +kernel) ⟨Nat.le_of_ble_eq_true rfl, Nat.le_of_ble_eq_true rfl⟩ rfl (Nat.le_of_ble_eq_true rfl) ⟨Nat.le_of_ble_eq_true rfl, Nat.le_of_ble_eq_true rfl⟩ zw_394 zw_395 zw_396 zc_8.1 hn_v0 hk_v0 rfl d_Wk_withValue_100 ?_
              exact zi_iret C hlocks hr d_Wk_withValue_103 (by cases hF; rfl) rfl (by cases hF; rfl) rfl
            · rw [if_neg hs21] at hF
              refine zi_lookup C d_Wk_withValue_40 (by decide) 111 151 ((lv_osw hs9 (by decide)).trans ((lv_osw hs13 (by decide)).trans ((lv_osw hs17 (by decide)).trans ((lv_osw hs21 (by decide)).trans (rfl))))) (by decide) ?_
              refine zi_aload_n C d_Wk_withValue_151 rfl 2 rfl ?_
              refine zi_getI C zc_3 (k := 3) (by decide) zw_388 rfl hn_b2 hk_b2 d_Wk_withValue_152 (fun _ _ _ => rfl) hF (fun x24 hF => ?_)
              refine zi_if_lt (tgt := 180) C d_Wk_withValue_155 (by decide) hF (fun hF => ?_) (fun hF => ?_)
              · refine zi_iconst (v := 0) C d_Wk_withValue_180 (by decide) ?_
                exact zi_iret C hlocks hr d_Wk_withValue_181 (by cases hF; rfl) rfl (by cases hF; rfl) rfl
              · refine zi_aload_n C d_Wk_withValue_158 rfl 2 rfl ?_
                refine zi_getI C zc_3 (k := 3) (by decide) zw_388 rfl hn_b2 hk_b2 d_Wk_withValue_159 (fun _ _ _ => rfl) hF (fun x25 hF => ?_)
                refine zi_bipush (v := 26) C d_Wk_withValue_162 (by decide) ?_
                refine zi_icmp_ge (tgt := 180) C d_Wk_withValue_164 (by decide) hF (fun hF => ?_) (fun hF => ?_)
                · refine zi_iconst (v := 0) C d_Wk_withValue_180 (by decide) ?_
                  exact zi_iret C hlocks hr d_Wk_withValue_181 (by cases hF; rfl) rfl (by cases hF; rfl) rfl
                · refine zi_aload_n C d_Wk_withValue_167 rfl 1 rfl ?_
                  refine zi_getR C zc_8 (k := 1) (by decide) zw_383 rfl hn_v0 hk_v0 d_Wk_withValue_168 (fun _ _ _ => rfl) hF (fun b26 hn_b26 hk_b26 hF => ?_)
                  refine zi_getR C zc_5 (k := 1) (by decide) zw_399 rfl hn_b26 hk_b26 d_Wk_withValue_171 (fun _ _ _ => rfl) hF (fun b27 hn_b27 hk_b27 hF => ?_)
                  refine zi_aload_n C d_Wk_withValue_174 rfl 2 rfl ?_
                  refine zi_getI C zc_3 (k := 3) (by decide) zw_388 rfl hn_b2 hk_b2 d_Wk_withValue_175 (fun _ _ _ => rfl) hF (fun x28 hF => ?_)
                  refine zi_lload_n C d_Wk_withValue_178 rfl 0 rfl ?_
                  refine zi_last C hn_b27 hk_b27 d_Wk_withValue_179 hF (fun M hF => ?_)
                  refine zi_iconst (v := 0) C d_Wk_withValue_180 (by decide) ?_
                  exact zi_iret C hlocks hr d_Wk_withValue_181 (by cases hF; rfl) rfl (by cases hF; rfl) rfl
    · refine zi_aload_n C d_Wk_withValue_22 rfl 1 rfl ?_
      refine zi_aload_n C d_Wk_withValue_23 rfl 1 rfl ?_
      refine zi_getR C zc_8 (k := 1) (by decide) zw_383 rfl hn_v0 hk_v0 d_Wk_withValue_24 (fun _ _ _ => rfl) hF (fun b29 hn_b29 hk_b29 hF => ?_)
      refine zi_getI C zc_5 (k := 4) (by decide) zw_386 rfl hn_b29 hk_b29 d_Wk_withValue_27 (fun _ _ _ => rfl) hF (fun x30 hF => ?_)
      refine zi_aload_n C d_Wk_withValue_30 rfl 2 rfl ?_
      refine zi_iconst (v := 0) C d_Wk_withValue_31 (by decide) ?_
      obtain ⟨r31, M, hqr31, hF⟩ := zzcall_e hF
      refine zi_callV_i (M2 := M) (r := r31) (n := 3) (As := [.int x30, .ref (bs + b2), .int (0 : Int32)]) (st := []) C (c_Wk_fail hqr31 hn_v0 hk_v0) zw_392 zw_393 (by decide +kernel) ⟨Nat.le_of_ble_eq_true rfl, Nat.le_of_ble_eq_true rfl⟩ rfl (Nat.le_of_ble_eq_true rfl) ⟨Nat.le_of_ble_eq_true rfl, Nat.le_of_ble_eq_true rfl⟩ zw_394 zw_395 zw_396 zc_8.1 hn_v0 hk_v0 rfl d_Wk_withValue_32 ?_
      exact zi_iret C hlocks hr d_Wk_withValue_35 (by cases hF; rfl) rfl (by cases hF; rfl) rfl
