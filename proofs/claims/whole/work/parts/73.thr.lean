def FT_Bs_field (S : zzS) (M : zzM) (v0 : Nat) (v1 : Int32) (v2 : Int32) (v3 : Int64) : Option (Unit × zzM) := zzref S 14 (zzR M v0 5) fun b1 => zzlet ((v1).toInt64) fun x2 => zzcall (F_Bd_slotOf S M b1 x2 v2) fun r3 M => if r3 = (-1 : Int32) then (some ((), M)) else (zzref S 14 (zzR M v0 5) fun b4 => zzref S 2 (zzR M b4 0) fun b5 => zzix S b5 r3 (zzlet (zzL M b5 (r3).toNatClampNeg) fun x6 => zzlet (lg_cmp x6 v3) fun x7 => if x7 = 0 then (zzref S 14 (zzR M v0 5) fun b8 => zzref S 2 (zzR M b8 0) fun b9 => zzix S b9 r3 (zzlet (zzsL M b9 (r3).toNatClampNeg v3) fun M => none)) else (zzref S 14 (zzR M v0 5) fun b10 => zzref S 2 (zzR M b10 0) fun b11 => zzix S b11 r3 (zzlet (zzsL M b11 (r3).toNatClampNeg v3) fun M => none))))
set_option maxHeartbeats 4000000 in
set_option maxRecDepth 100000 in
theorem cT_Bs_field {l : Launch} (hl0 : l.stackTraces = false) {D : zzD} {bs : Nat} {A : Nat → Prop} {X : State → Prop} {S : zzS} {M : zzM} {sa : Nat} {out : Unit × zzM} {v0 : Nat} {v1 : Int32} {v2 : Int32} {v3 : Int64} (hA : ∀ q : Nat, bs + S.2.1 ≤ q → A q) (hAb : ∀ q : Nat, A q → bs ≤ q) (hZ : ∀ U : State, X U → zxW bs "BoardScript" 97 99 101 "java/lang/IndexOutOfBoundsException" "no such object or field" ["java/lang/RuntimeException", "java/lang/Exception"] sa U) (hF : FT_Bs_field S M v0 v1 v2 v3 = some out) (hn_v0 : v0 < S.2.1) (hk_v0 : zzk S v0 = 10) : zxMet l y_Bs_field (Cond.code y_Bs_field prog_1_method_5_code 7 (some .boolean) :: zzW) { frames := 8, cells := 1, slots := 6, locals := 120 } (zzPcX D bs A X S M [.ref (bs + v0), .int v1, .int v2, .long v3]) (zxQ D bs A S out.2 "java/lang/IndexOutOfBoundsException") 1 6 A := by
  refine zx_met [.ref (bs + v0), .int v1, .int v2, .long v3] (by decide) (Nat.le_of_ble_eq_true rfl) (fun p e s m args below meth c C hlocks hexc hX hsz => ?_)
  refine zz_eq (lv' := [(0, .ref (bs + v0)), (1, .int v1), (2, .int v2), (3, .long v3)]) (st' := []) rfl rfl ?_
  unfold FT_Bs_field at hF
  refine zi_aload_n C d_Bs_field_0 rfl 0 rfl ?_
  refine zi_getR C zc_0 (k := 5) (by decide) zw_250 rfl hn_v0 hk_v0 d_Bs_field_1 (fun _ _ _ => rfl) hF (fun b1 hn_b1 hk_b1 hF => ?_)
  refine zi_iload_n C d_Bs_field_4 rfl 1 rfl ?_
  refine zi_i2l C d_Bs_field_5 hF (fun x2 hF => ?_)
  refine zi_iload_n C d_Bs_field_6 rfl 2 rfl ?_
  obtain ⟨r3, M, hqr3, hF⟩ := zzcall_e hF
  refine zi_callV_i (M2 := M) (r := r3) (n := 2) (As := [.long x2, .int v2]) (st := []) C (c_Bd_slotOf hqr3 hn_b1 hk_b1) zw_291 zw_252 (by decide +kernel) ⟨Nat.le_of_ble_eq_true rfl, Nat.le_of_ble_eq_true rfl⟩ rfl (Nat.le_of_ble_eq_true rfl) ⟨Nat.le_of_ble_eq_true rfl, Nat.le_of_ble_eq_true rfl⟩ zw_646 zw_293 zw_294 zc_4.1 hn_b1 hk_b1 rfl d_Bs_field_7 ?_
  refine zi_istore (lv' := [(5, .int r3), (0, .ref (bs + v0)), (1, .int v1), (2, .int v2), (3, .long v3)]) C d_Bs_field_10 (by decide) rfl ?_
  refine zi_iload C d_Bs_field_12 0 rfl ?_
  refine zi_iconst (v := -1) C d_Bs_field_14 (by decide) ?_
  refine zi_icmp_ne (tgt := 28) C d_Bs_field_15 (by decide) hF (fun hF => ?_) (fun hF => ?_)
  · refine zi_aload_n C d_Bs_field_28 rfl 1 rfl ?_
    refine zi_getR C zc_0 (k := 5) (by decide) zw_250 rfl hn_v0 hk_v0 d_Bs_field_29 (fun _ _ _ => rfl) hF (fun b4 hn_b4 hk_b4 hF => ?_)
    refine zi_getR C zc_4 (k := 0) (by decide) zw_647 rfl hn_b4 hk_b4 d_Bs_field_32 (fun _ _ _ => rfl) hF (fun b5 hn_b5 hk_b5 hF => ?_)
    refine zi_iload C d_Bs_field_35 0 rfl ?_
    refine zi_lald C hn_b5 hk_b5 d_Bs_field_37 hF (fun x6 hF => ?_)
    refine zi_lload_n C d_Bs_field_38 rfl 4 rfl ?_
    refine zi_lcmp C d_Bs_field_39 hF (fun x7 hF => ?_)
    refine zi_if_eq (tgt := 47) C d_Bs_field_40 (by decide) hF (fun hF => ?_) (fun hF => ?_)
    · refine zi_iconst (v := 0) C d_Bs_field_47 (by decide) ?_
      refine zi_istore (lv' := [(6, .int (0 : Int32)), (5, .int r3), (0, .ref (bs + v0)), (1, .int v1), (2, .int v2), (3, .long v3)]) C d_Bs_field_48 (by decide) rfl ?_
      refine zi_aload_n C d_Bs_field_50 rfl 2 rfl ?_
      refine zi_getR C zc_0 (k := 5) (by decide) zw_250 rfl hn_v0 hk_v0 d_Bs_field_51 (fun _ _ _ => rfl) hF (fun b8 hn_b8 hk_b8 hF => ?_)
      refine zi_getR C zc_4 (k := 0) (by decide) zw_647 rfl hn_b8 hk_b8 d_Bs_field_54 (fun _ _ _ => rfl) hF (fun b9 hn_b9 hk_b9 hF => ?_)
      refine zi_iload C d_Bs_field_57 1 rfl ?_
      refine zi_lload_n C d_Bs_field_59 rfl 5 rfl ?_
      refine zi_last C hn_b9 hk_b9 d_Bs_field_60 hF (fun M hF => ?_)
      refine zi_iload C d_Bs_field_61 0 rfl ?_
      cases hF
    · refine zi_iconst (v := 1) C d_Bs_field_43 (by decide) ?_
      refine zi_goto (tgt := 48) C d_Bs_field_44 (by decide) ?_
      refine zi_istore (lv' := [(6, .int (1 : Int32)), (5, .int r3), (0, .ref (bs + v0)), (1, .int v1), (2, .int v2), (3, .long v3)]) C d_Bs_field_48 (by decide) rfl ?_
      refine zi_aload_n C d_Bs_field_50 rfl 2 rfl ?_
      refine zi_getR C zc_0 (k := 5) (by decide) zw_250 rfl hn_v0 hk_v0 d_Bs_field_51 (fun _ _ _ => rfl) hF (fun b10 hn_b10 hk_b10 hF => ?_)
      refine zi_getR C zc_4 (k := 0) (by decide) zw_647 rfl hn_b10 hk_b10 d_Bs_field_54 (fun _ _ _ => rfl) hF (fun b11 hn_b11 hk_b11 hF => ?_)
      refine zi_iload C d_Bs_field_57 1 rfl ?_
      refine zi_lload_n C d_Bs_field_59 rfl 5 rfl ?_
      refine zi_last C hn_b11 hk_b11 d_Bs_field_60 hF (fun M hF => ?_)
      refine zi_iload C d_Bs_field_61 0 rfl ?_
      cases hF
  · cases hF
    exact zi_throw C hl0 (by decide) (by decide) (hZ _ hX) (by decide +kernel) (fun q hq => hA q (by omega)) hsz hAb hlocks (fun x hx => (hexc x hx).elim) d_Bs_field_18 d_Bs_field_21 d_Bs_field_22 d_Bs_field_24 d_Bs_field_27 (Nat.le_of_ble_eq_true rfl) (Nat.le_of_ble_eq_true rfl) (Nat.le_of_ble_eq_true rfl) (Nat.le_of_ble_eq_true rfl)
def FT_Bs_run (S : zzS) (M : zzM) (v0 : Nat) (v1 : Int64) : Option (Unit × zzM) := zzlet (lg_cmp v1 (1 : Int64)) fun x1 => if x1 < 0 then (some ((), M)) else (zzlet (lg_cmp v1 (300 : Int64)) fun x2 => if x2 ≤ 0 then (zzref S 18 (zzR M v0 9) fun b3 => zzref S 11 (zzR M v0 4) fun b4 => zzlet ((v1).toInt32) fun x5 => zzlet (zzI M v0 2) fun x6 => zzcall (F_Wk_walked S M b3 (some b4) x5 x6) fun r7 M => none) else (some ((), M)))
set_option maxHeartbeats 4000000 in
set_option maxRecDepth 100000 in
theorem cT_Bs_run {l : Launch} (hl0 : l.stackTraces = false) {D : zzD} {bs : Nat} {A : Nat → Prop} {X : State → Prop} {S : zzS} {M : zzM} {sa : Nat} {out : Unit × zzM} {v0 : Nat} {v1 : Int64} (hA : ∀ q : Nat, bs + S.2.1 ≤ q → A q) (hAb : ∀ q : Nat, A q → bs ≤ q) (hZ : ∀ U : State, X U → zxW bs "BoardScript" 110 112 114 "java/lang/IllegalArgumentException" "steps are not 1 to 300" ["java/lang/RuntimeException", "java/lang/Exception"] sa U) (hF : FT_Bs_run S M v0 v1 = some out) (hn_v0 : v0 < S.2.1) (hk_v0 : zzk S v0 = 10) : zxMet l y_Bs_run (Cond.code y_Bs_run prog_1_method_6_code 3 (some .int) :: zzW) { frames := 74, cells := 1, slots := 6, locals := 4249 } (zzPcX D bs A X S M [.ref (bs + v0), .long v1]) (zxQ D bs A S out.2 "java/lang/IllegalArgumentException") 1 6 A := by
  refine zx_met [.ref (bs + v0), .long v1] (by decide) (Nat.le_of_ble_eq_true rfl) (fun p e s m args below meth c C hlocks hexc hX hsz => ?_)
  refine zz_eq (lv' := [(0, .ref (bs + v0)), (1, .long v1)]) (st' := []) rfl rfl ?_
  unfold FT_Bs_run at hF
  refine zi_lload_n C d_Bs_run_0 rfl 1 rfl ?_
  refine zi_lconst (v := 1) C d_Bs_run_1 (by decide) ?_
  refine zi_lcmp C d_Bs_run_2 hF (fun x1 hF => ?_)
  refine zi_if_lt (tgt := 14) C d_Bs_run_3 (by decide) hF (fun hF => ?_) (fun hF => ?_)
  · cases hF
    exact zi_throw C hl0 (by decide) (by decide) (hZ _ hX) (by decide +kernel) (fun q hq => hA q (by omega)) hsz hAb hlocks (fun x hx => (hexc x hx).elim) d_Bs_run_14 d_Bs_run_17 d_Bs_run_18 d_Bs_run_20 d_Bs_run_23 (Nat.le_of_ble_eq_true rfl) (Nat.le_of_ble_eq_true rfl) (Nat.le_of_ble_eq_true rfl) (Nat.le_of_ble_eq_true rfl)
  · refine zi_lload_n C d_Bs_run_6 rfl 1 rfl ?_
    refine zi_ldc2 (v := 300) C zw_648 d_Bs_run_7 ?_
    refine zi_lcmp C d_Bs_run_10 hF (fun x2 hF => ?_)
    refine zi_if_le (tgt := 24) C d_Bs_run_11 (by decide) hF (fun hF => ?_) (fun hF => ?_)
    · refine zi_aload_n C d_Bs_run_24 rfl 0 rfl ?_
      refine zi_getR C zc_0 (k := 9) (by decide) zw_565 rfl hn_v0 hk_v0 d_Bs_run_25 (fun _ _ _ => rfl) hF (fun b3 hn_b3 hk_b3 hF => ?_)
      refine zi_aload_n C d_Bs_run_28 rfl 0 rfl ?_
      refine zi_getR C zc_0 (k := 4) (by decide) zw_340 rfl hn_v0 hk_v0 d_Bs_run_29 (fun _ _ _ => rfl) hF (fun b4 hn_b4 hk_b4 hF => ?_)
      refine zi_lload_n C d_Bs_run_32 rfl 1 rfl ?_
      refine zi_l2i C d_Bs_run_33 hF (fun x5 hF => ?_)
      refine zi_aload_n C d_Bs_run_34 rfl 0 rfl ?_
      refine zi_getI C zc_0 (k := 2) (by decide) zw_314 rfl hn_v0 hk_v0 d_Bs_run_35 (fun _ _ _ => rfl) hF (fun x6 hF => ?_)
      obtain ⟨r7, M, hqr7, hF⟩ := zzcall_e hF
      refine zi_callV_i (M2 := M) (r := r7) (n := 3) (As := [.ref (bs + b4), .int x5, .int x6]) (st := []) C (c_Wk_walked hqr7 hn_b3 hk_b3) zw_649 zw_393 (by decide +kernel) ⟨Nat.le_of_ble_eq_true rfl, Nat.le_of_ble_eq_true rfl⟩ rfl (Nat.le_of_ble_eq_true rfl) ⟨Nat.le_of_ble_eq_true rfl, Nat.le_of_ble_eq_true rfl⟩ zw_650 zw_651 zw_652 zc_8.1 hn_b3 hk_b3 rfl d_Bs_run_38 ?_
      cases hF
    · cases hF
      exact zi_throw C hl0 (by decide) (by decide) (hZ _ hX) (by decide +kernel) (fun q hq => hA q (by omega)) hsz hAb hlocks (fun x hx => (hexc x hx).elim) d_Bs_run_14 d_Bs_run_17 d_Bs_run_18 d_Bs_run_20 d_Bs_run_23 (Nat.le_of_ble_eq_true rfl) (Nat.le_of_ble_eq_true rfl) (Nat.le_of_ble_eq_true rfl) (Nat.le_of_ble_eq_true rfl)
def FT_Bs_at (S : zzS) (M : zzM) (v0 : Nat) (v1 : Int32) (v2 : Int32) : Option (Unit × zzM) := zzref S 14 (zzR M v0 5) fun b1 => zzlet ((v1).toInt64) fun x2 => zzcall (F_Bd_slotOf S M b1 x2 v2) fun r3 M => if r3 = (-1 : Int32) then (some ((), M)) else (zzref S 14 (zzR M v0 5) fun b4 => zzref S 2 (zzR M b4 0) fun b5 => zzix S b5 r3 (zzlet (zzL M b5 (r3).toNatClampNeg) fun x6 => none))
set_option maxHeartbeats 4000000 in
set_option maxRecDepth 100000 in
theorem cT_Bs_at {l : Launch} (hl0 : l.stackTraces = false) {D : zzD} {bs : Nat} {A : Nat → Prop} {X : State → Prop} {S : zzS} {M : zzM} {sa : Nat} {out : Unit × zzM} {v0 : Nat} {v1 : Int32} {v2 : Int32} (hA : ∀ q : Nat, bs + S.2.1 ≤ q → A q) (hAb : ∀ q : Nat, A q → bs ≤ q) (hZ : ∀ U : State, X U → zxW bs "BoardScript" 97 99 101 "java/lang/IndexOutOfBoundsException" "no such object or field" ["java/lang/RuntimeException", "java/lang/Exception"] sa U) (hF : FT_Bs_at S M v0 v1 v2 = some out) (hn_v0 : v0 < S.2.1) (hk_v0 : zzk S v0 = 10) : zxMet l y_Bs_at (Cond.code y_Bs_at prog_1_method_7_code 4 (some .long) :: zzW) { frames := 8, cells := 1, slots := 6, locals := 120 } (zzPcX D bs A X S M [.ref (bs + v0), .int v1, .int v2]) (zxQ D bs A S out.2 "java/lang/IndexOutOfBoundsException") 1 6 A := by
  refine zx_met [.ref (bs + v0), .int v1, .int v2] (by decide) (Nat.le_of_ble_eq_true rfl) (fun p e s m args below meth c C hlocks hexc hX hsz => ?_)
  refine zz_eq (lv' := [(0, .ref (bs + v0)), (1, .int v1), (2, .int v2)]) (st' := []) rfl rfl ?_
  unfold FT_Bs_at at hF
  refine zi_aload_n C d_Bs_at_0 rfl 0 rfl ?_
  refine zi_getR C zc_0 (k := 5) (by decide) zw_250 rfl hn_v0 hk_v0 d_Bs_at_1 (fun _ _ _ => rfl) hF (fun b1 hn_b1 hk_b1 hF => ?_)
  refine zi_iload_n C d_Bs_at_4 rfl 1 rfl ?_
  refine zi_i2l C d_Bs_at_5 hF (fun x2 hF => ?_)
  refine zi_iload_n C d_Bs_at_6 rfl 2 rfl ?_
  obtain ⟨r3, M, hqr3, hF⟩ := zzcall_e hF
  refine zi_callV_i (M2 := M) (r := r3) (n := 2) (As := [.long x2, .int v2]) (st := []) C (c_Bd_slotOf hqr3 hn_b1 hk_b1) zw_291 zw_252 (by decide +kernel) ⟨Nat.le_of_ble_eq_true rfl, Nat.le_of_ble_eq_true rfl⟩ rfl (Nat.le_of_ble_eq_true rfl) ⟨Nat.le_of_ble_eq_true rfl, Nat.le_of_ble_eq_true rfl⟩ zw_646 zw_293 zw_294 zc_4.1 hn_b1 hk_b1 rfl d_Bs_at_7 ?_
  refine zi_istore_n (lv' := [(3, .int r3), (0, .ref (bs + v0)), (1, .int v1), (2, .int v2)]) C d_Bs_at_10 rfl (by decide) rfl ?_
  refine zi_iload_n C d_Bs_at_11 rfl 0 rfl ?_
  refine zi_iconst (v := -1) C d_Bs_at_12 (by decide) ?_
  refine zi_icmp_ne (tgt := 26) C d_Bs_at_13 (by decide) hF (fun hF => ?_) (fun hF => ?_)
  · refine zi_aload_n C d_Bs_at_26 rfl 1 rfl ?_
    refine zi_getR C zc_0 (k := 5) (by decide) zw_250 rfl hn_v0 hk_v0 d_Bs_at_27 (fun _ _ _ => rfl) hF (fun b4 hn_b4 hk_b4 hF => ?_)
    refine zi_getR C zc_4 (k := 0) (by decide) zw_647 rfl hn_b4 hk_b4 d_Bs_at_30 (fun _ _ _ => rfl) hF (fun b5 hn_b5 hk_b5 hF => ?_)
    refine zi_iload_n C d_Bs_at_33 rfl 0 rfl ?_
    refine zi_lald C hn_b5 hk_b5 d_Bs_at_34 hF (fun x6 hF => ?_)
    cases hF
  · cases hF
    exact zi_throw C hl0 (by decide) (by decide) (hZ _ hX) (by decide +kernel) (fun q hq => hA q (by omega)) hsz hAb hlocks (fun x hx => (hexc x hx).elim) d_Bs_at_16 d_Bs_at_19 d_Bs_at_20 d_Bs_at_22 d_Bs_at_25 (Nat.le_of_ble_eq_true rfl) (Nat.le_of_ble_eq_true rfl) (Nat.le_of_ble_eq_true rfl) (Nat.le_of_ble_eq_true rfl)
def FT_Bs_output (S : zzS) (M : zzM) (v0 : Nat) (v1 : Int32) : Option (Unit × zzM) := if v1 < 0 then (some ((), M)) else (zzref S 16 (zzR M v0 7) fun b1 => zzlet (zzI M b1 1) fun x2 => if v1 < x2 then (zzref S 16 (zzR M v0 7) fun b3 => zzref S 1 (zzR M b3 0) fun b4 => zzix S b4 v1 (zzlet (zzI M b4 (v1).toNatClampNeg) fun x5 => none)) else (some ((), M)))
set_option maxHeartbeats 4000000 in
set_option maxRecDepth 100000 in
theorem cT_Bs_output {l : Launch} (hl0 : l.stackTraces = false) {D : zzD} {bs : Nat} {A : Nat → Prop} {X : State → Prop} {S : zzS} {M : zzM} {sa : Nat} {out : Unit × zzM} {v0 : Nat} {v1 : Int32} (hA : ∀ q : Nat, bs + S.2.1 ≤ q → A q) (hAb : ∀ q : Nat, A q → bs ≤ q) (hZ : ∀ U : State, X U → zxW bs "BoardScript" 97 126 101 "java/lang/IndexOutOfBoundsException" "no such output" ["java/lang/RuntimeException", "java/lang/Exception"] sa U) (hF : FT_Bs_output S M v0 v1 = some out) (hn_v0 : v0 < S.2.1) (hk_v0 : zzk S v0 = 10) : zxMet l y_Bs_output (Cond.code y_Bs_output prog_1_method_9_code 2 (some .int) :: zzW) { frames := 8, cells := 1, slots := 6, locals := 120 } (zzPcX D bs A X S M [.ref (bs + v0), .int v1]) (zxQ D bs A S out.2 "java/lang/IndexOutOfBoundsException") 1 6 A := by
  refine zx_met [.ref (bs + v0), .int v1] (by decide) (Nat.le_of_ble_eq_true rfl) (fun p e s m args below meth c C hlocks hexc hX hsz => ?_)
  refine zz_eq (lv' := [(0, .ref (bs + v0)), (1, .int v1)]) (st' := []) rfl rfl ?_
  unfold FT_Bs_output at hF
  refine zi_iload_n C d_Bs_output_0 rfl 1 rfl ?_
  refine zi_if_lt (tgt := 15) C d_Bs_output_1 (by decide) hF (fun hF => ?_) (fun hF => ?_)
  · cases hF
    exact zi_throw C hl0 (by decide) (by decide) (hZ _ hX) (by decide +kernel) (fun q hq => hA q (by omega)) hsz hAb hlocks (fun x hx => (hexc x hx).elim) d_Bs_output_15 d_Bs_output_18 d_Bs_output_19 d_Bs_output_21 d_Bs_output_24 (Nat.le_of_ble_eq_true rfl) (Nat.le_of_ble_eq_true rfl) (Nat.le_of_ble_eq_true rfl) (Nat.le_of_ble_eq_true rfl)
  · refine zi_iload_n C d_Bs_output_4 rfl 1 rfl ?_
    refine zi_aload_n C d_Bs_output_5 rfl 0 rfl ?_
    refine zi_getR C zc_0 (k := 7) (by decide) zw_257 rfl hn_v0 hk_v0 d_Bs_output_6 (fun _ _ _ => rfl) hF (fun b1 hn_b1 hk_b1 hF => ?_)
    refine zi_getI C zc_6 (k := 1) (by decide) zw_653 rfl hn_b1 hk_b1 d_Bs_output_9 (fun _ _ _ => rfl) hF (fun x2 hF => ?_)
    refine zi_icmp_lt (tgt := 25) C d_Bs_output_12 (by decide) hF (fun hF => ?_) (fun hF => ?_)
    · refine zi_aload_n C d_Bs_output_25 rfl 0 rfl ?_
      refine zi_getR C zc_0 (k := 7) (by decide) zw_257 rfl hn_v0 hk_v0 d_Bs_output_26 (fun _ _ _ => rfl) hF (fun b3 hn_b3 hk_b3 hF => ?_)
      refine zi_getR C zc_6 (k := 0) (by decide) zw_654 rfl hn_b3 hk_b3 d_Bs_output_29 (fun _ _ _ => rfl) hF (fun b4 hn_b4 hk_b4 hF => ?_)
      refine zi_iload_n C d_Bs_output_32 rfl 1 rfl ?_
      refine zi_iald C hn_b4 hk_b4 d_Bs_output_33 hF (fun x5 hF => ?_)
      cases hF
    · cases hF
      exact zi_throw C hl0 (by decide) (by decide) (hZ _ hX) (by decide +kernel) (fun q hq => hA q (by omega)) hsz hAb hlocks (fun x hx => (hexc x hx).elim) d_Bs_output_15 d_Bs_output_18 d_Bs_output_19 d_Bs_output_21 d_Bs_output_24 (Nat.le_of_ble_eq_true rfl) (Nat.le_of_ble_eq_true rfl) (Nat.le_of_ble_eq_true rfl) (Nat.le_of_ble_eq_true rfl)
def FT_Bs_error (S : zzS) (M : zzM) (v0 : Nat) (v1 : Int32) : Option (Unit × zzM) := if v1 = (0 : Int32) then (zzref S 16 (zzR M v0 7) fun b2 => zzlet (zzI M b2 9) fun x3 => none) else (if v1 = (1 : Int32) then (zzref S 16 (zzR M v0 7) fun b5 => zzlet (zzR M b5 10) fun r7 => zzopt S 13 r7 (none) (fun b8 => zzref S 16 (zzR M v0 7) fun b9 => zzlet (zzR M b9 10) fun r11 => zzopt S 13 r11 (none) (fun b12 => zzlet (zzI M b12 1) fun x13 => none))) else (if v1 = (2 : Int32) then (zzref S 16 (zzR M v0 7) fun b15 => zzlet (zzI M b15 11) fun x16 => none) else (some ((), M))))
set_option maxHeartbeats 4000000 in
set_option maxRecDepth 100000 in
theorem cT_Bs_error {l : Launch} (hl0 : l.stackTraces = false) {D : zzD} {bs : Nat} {A : Nat → Prop} {X : State → Prop} {S : zzS} {M : zzM} {sa : Nat} {out : Unit × zzM} {v0 : Nat} {v1 : Int32} (hA : ∀ q : Nat, bs + S.2.1 ≤ q → A q) (hAb : ∀ q : Nat, A q → bs ≤ q) (hZ : ∀ U : State, X U → zxW bs "BoardScript" 97 145 101 "java/lang/IndexOutOfBoundsException" "an error has 0, 1 and 2" ["java/lang/RuntimeException", "java/lang/Exception"] sa U) (hF : FT_Bs_error S M v0 v1 = some out) (hn_v0 : v0 < S.2.1) (hk_v0 : zzk S v0 = 10) : zxMet l y_Bs_error (Cond.code y_Bs_error prog_1_method_10_code 2 (some .int) :: zzW) { frames := 8, cells := 1, slots := 6, locals := 120 } (zzPcX D bs A X S M [.ref (bs + v0), .int v1]) (zxQ D bs A S out.2 "java/lang/IndexOutOfBoundsException") 1 6 A := by
  refine zx_met [.ref (bs + v0), .int v1] (by decide) (Nat.le_of_ble_eq_true rfl) (fun p e s m args below meth c C hlocks hexc hX hsz => ?_)
  refine zz_eq (lv' := [(0, .ref (bs + v0)), (1, .int v1)]) (st' := []) rfl rfl ?_
  unfold FT_Bs_error at hF
  refine zi_iload_n C d_Bs_error_0 rfl 1 rfl ?_
  by_cases hs1 : v1 = (0 : Int32)
  · rw [if_pos hs1] at hF
    refine zi_tableIn C d_Bs_error_1 27 28 (by rw [hs1]; decide) (by rw [hs1]; decide) (by rw [hs1]; decide +kernel) (by decide) ?_
    refine zi_aload_n C d_Bs_error_28 rfl 0 rfl ?_
    refine zi_getR C zc_0 (k := 7) (by decide) zw_257 rfl hn_v0 hk_v0 d_Bs_error_29 (fun _ _ _ => rfl) hF (fun b2 hn_b2 hk_b2 hF => ?_)
    refine zi_getI C zc_6 (k := 9) (by decide) zw_655 rfl hn_b2 hk_b2 d_Bs_error_32 (fun _ _ _ => rfl) hF (fun x3 hF => ?_)
    cases hF
  · rw [if_neg hs1] at hF
    by_cases hs4 : v1 = (1 : Int32)
    · rw [if_pos hs4] at hF
      refine zi_tableIn C d_Bs_error_1 35 36 (by rw [hs4]; decide) (by rw [hs4]; decide) (by rw [hs4]; decide +kernel) (by decide) ?_
      refine zi_aload_n C d_Bs_error_36 rfl 0 rfl ?_
      refine zi_getR C zc_0 (k := 7) (by decide) zw_257 rfl hn_v0 hk_v0 d_Bs_error_37 (fun _ _ _ => rfl) hF (fun b5 hn_b5 hk_b5 hF => ?_)
      refine zi_getQ C zc_6 (k := 10) (by decide) zw_325 rfl hn_b5 hk_b5 d_Bs_error_40 (fun _ _ _ => rfl) hF (fun r7 hF => ?_)
      rcases zzopt_e hF with ⟨hv0, hF⟩ | ⟨b8, hv0, hn_b8, hk_b8, hF⟩
      · refine zz_eq (lv' := [(0, .ref (bs + v0)), (1, .int v1)]) (st' := [.null]) (by first | rfl | (rw [hv0]; rfl) | (rw [hv0]; done)) (by first | rfl | (rw [hv0]; rfl) | (rw [hv0]; done)) ?_
        refine zi_ifnonnullN C d_Bs_error_43 ?_
        refine zi_iconst (v := -1) C d_Bs_error_46 (by decide) ?_
        refine zi_goto (tgt := 60) C d_Bs_error_47 (by decide) ?_
        cases hF
      · refine zz_eq (lv' := [(0, .ref (bs + v0)), (1, .int v1)]) (st' := [.ref (bs + b8)]) (by first | rfl | (rw [hv0]; rfl) | (rw [hv0]; done)) (by first | rfl | (rw [hv0]; rfl) | (rw [hv0]; done)) ?_
        refine zi_ifnonnull (tgt := 50) C d_Bs_error_43 (by decide) ?_
        refine zi_aload_n C d_Bs_error_50 rfl 0 rfl ?_
        refine zi_getR C zc_0 (k := 7) (by decide) zw_257 rfl hn_v0 hk_v0 d_Bs_error_51 (fun _ _ _ => rfl) hF (fun b9 hn_b9 hk_b9 hF => ?_)
        refine zi_getQ C zc_6 (k := 10) (by decide) zw_325 rfl hn_b9 hk_b9 d_Bs_error_54 (fun _ _ _ => rfl) hF (fun r11 hF => ?_)
        rcases zzopt_e hF with ⟨hv0, hF⟩ | ⟨b12, hv0, hn_b12, hk_b12, hF⟩
        · refine zz_eq (lv' := [(0, .ref (bs + v0)), (1, .int v1)]) (st' := [.null]) (by first | rfl | (rw [hv0]; rfl) | (rw [hv0]; done)) (by first | rfl | (rw [hv0]; rfl) | (rw [hv0]; done)) ?_
          cases hF
        · refine zz_eq (lv' := [(0, .ref (bs + v0)), (1, .int v1)]) (st' := [.ref (bs + b12)]) (by first | rfl | (rw [hv0]; rfl) | (rw [hv0]; done)) (by first | rfl | (rw [hv0]; rfl) | (rw [hv0]; done)) ?_
          refine zi_getI C zc_3 (k := 1) (by decide) zw_656 rfl hn_b12 hk_b12 d_Bs_error_57 (fun _ _ _ => rfl) hF (fun x13 hF => ?_)
          cases hF
    · rw [if_neg hs4] at hF
      by_cases hs14 : v1 = (2 : Int32)
      · rw [if_pos hs14] at hF
        refine zi_tableIn C d_Bs_error_1 60 61 (by rw [hs14]; decide) (by rw [hs14]; decide) (by rw [hs14]; decide +kernel) (by decide) ?_
        refine zi_aload_n C d_Bs_error_61 rfl 0 rfl ?_
        refine zi_getR C zc_0 (k := 7) (by decide) zw_257 rfl hn_v0 hk_v0 d_Bs_error_62 (fun _ _ _ => rfl) hF (fun b15 hn_b15 hk_b15 hF => ?_)
        refine zi_getI C zc_6 (k := 11) (by decide) zw_657 rfl hn_b15 hk_b15 d_Bs_error_65 (fun _ _ _ => rfl) hF (fun x16 hF => ?_)
        cases hF
      · rw [if_neg hs14] at hF
        refine zi_tableOut C d_Bs_error_1 69 (by have q0 : (v1).toInt ≠ 0 := zz_ne hs1 (by decide); have q1 : (v1).toInt ≠ 1 := zz_ne hs4 (by decide); have q2 : (v1).toInt ≠ 2 := zz_ne hs14 (by decide); omega) (by decide) ?_
        cases hF
        exact zi_throw C hl0 (by decide) (by decide) (hZ _ hX) (by decide +kernel) (fun q hq => hA q (by omega)) hsz hAb hlocks (fun x hx => (hexc x hx).elim) d_Bs_error_69 d_Bs_error_72 d_Bs_error_73 d_Bs_error_75 d_Bs_error_78 (Nat.le_of_ble_eq_true rfl) (Nat.le_of_ble_eq_true rfl) (Nat.le_of_ble_eq_true rfl) (Nat.le_of_ble_eq_true rfl)
