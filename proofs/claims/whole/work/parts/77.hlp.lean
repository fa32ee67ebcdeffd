set_option maxHeartbeats 4000000 in
set_option maxRecDepth 100000 in
theorem cT_Lw_field {l : Launch} (hl0 : l.stackTraces = false) {D : zzD} {bs : Nat} {A : Nat → Prop} {X : State → Prop} {S : zzS} {M : zzM} {sa : Nat} {out : Unit × zzM} {v0 : Nat} {v1 : Int32} {v2 : Int32} {v3 : Int64} {v5 : Nat} (hA : ∀ q : Nat, bs + S.2.1 ≤ q → A q) (hAb : ∀ q : Nat, A q → bs ≤ q) (hXs : zzStab bs X) (hZ : ∀ U : State, X U → zxW bs "BoardScript" 97 99 101 "java/lang/IndexOutOfBoundsException" "no such object or field" ["java/lang/RuntimeException", "java/lang/Exception"] sa U) (hF : FT_Bs_field S M v0 v1 v2 v3 = some out) (hn : v0 < S.2.1) (hk : zzk S v0 = 10) : Met l y_Lw_field (Cond.codeWith y_Lw_field method_3_code 7 (some .int) [(0, 19, 22, 13)] :: zzW) { frames := 9, cells := 1, slots := 6, locals := 160 } (zzPcX D bs A X S M [.ref (bs + v0), .int v1, .int v2, .long v3, .ref (bs + v5)]) (zzQc D bs A (zzjunk S) out.2 (bs + (zzjunk S).2.1) (some (.int 1))) 1 6 A := by
  refine zz_metWX [.ref (bs + v0), .int v1, .int v2, .long v3, .ref (bs + v5)] (by decide) (Nat.le_of_ble_eq_true rfl) (fun p e s m args below meth c C hr hlocks hex hX hsz => ?_)
  refine zz_eq (lv' := [(0, .ref (bs + v0)), (1, .int v1), (2, .int v2), (3, .long v3), (5, .ref (bs + v5))]) (st' := []) rfl rfl ?_
  refine zi_aload C d_Lw_field_0 4 rfl ?_
  refine zi_iconst (v := 0) C d_Lw_field_2 (by decide) ?_
  refine zi_aload_n C d_Lw_field_3 rfl 0 rfl ?_
  refine zi_iload_n C d_Lw_field_4 rfl 1 rfl ?_
  refine zi_iload_n C d_Lw_field_5 rfl 2 rfl ?_
  refine zi_lload_n C d_Lw_field_6 rfl 3 rfl ?_
  refine zi_callT (n := 3) (As := [.int v1, .int v2, .long v3]) (st := [.int (0 : Int32), .ref (bs + v5)]) C (cT_Bs_field (sa := sa) hl0 hA hAb hZ hF hn hk) hXs hX hAb (by omega) zw_658 zw_659 (by decide +kernel) ⟨Nat.le_of_ble_eq_true rfl, Nat.le_of_ble_eq_true rfl⟩ rfl (Nat.le_of_ble_eq_true rfl) ⟨Nat.le_of_ble_eq_true rfl, Nat.le_of_ble_eq_true rfl⟩ zw_660 zw_661 zw_662 zc_0.1 hn hk rfl d_Lw_field_7 hex (by decide) (by decide) (by decide) zw_679 ?_
  refine zi_astore (lv' := [(6, .ref (bs + S.2.1)), (0, .ref (bs + v0)), (1, .int v1), (2, .int v2), (3, .long v3), (5, .ref (bs + v5))]) C d_Lw_field_22 (by decide) rfl ?_
  refine zi_iconst (v := 1) C d_Lw_field_24 (by decide) ?_
  exact zi_iret C hlocks hr d_Lw_field_25 rfl rfl rfl rfl
set_option maxHeartbeats 4000000 in
set_option maxRecDepth 100000 in
theorem cT_Lw_run {l : Launch} (hl0 : l.stackTraces = false) {D : zzD} {bs : Nat} {A : Nat → Prop} {X : State → Prop} {S : zzS} {M : zzM} {sa : Nat} {out : Unit × zzM} {v0 : Nat} {v1 : Int64} {v3 : Nat} (hA : ∀ q : Nat, bs + S.2.1 ≤ q → A q) (hAb : ∀ q : Nat, A q → bs ≤ q) (hXs : zzStab bs X) (hZ : ∀ U : State, X U → zxW bs "BoardScript" 110 112 114 "java/lang/IllegalArgumentException" "steps are not 1 to 300" ["java/lang/RuntimeException", "java/lang/Exception"] sa U) (hF : FT_Bs_run S M v0 v1 = some out) (hn : v0 < S.2.1) (hk : zzk S v0 = 10) : Met l y_Lw_run (Cond.codeWith y_Lw_run method_4_code 5 (some .int) [(0, 9, 12, 19)] :: zzW) { frames := 75, cells := 1, slots := 6, locals := 4289 } (zzPcX D bs A X S M [.ref (bs + v0), .long v1, .ref (bs + v3)]) (zzQc D bs A (zzjunk S) out.2 (bs + (zzjunk S).2.1) (some (.int 1))) 1 6 A := by
  refine zz_metWX [.ref (bs + v0), .long v1, .ref (bs + v3)] (by decide) (Nat.le_of_ble_eq_true rfl) (fun p e s m args below meth c C hr hlocks hex hX hsz => ?_)
  refine zz_eq (lv' := [(0, .ref (bs + v0)), (1, .long v1), (3, .ref (bs + v3))]) (st' := []) rfl rfl ?_
  refine zi_aload_n C d_Lw_run_0 rfl 2 rfl ?_
  refine zi_iconst (v := 0) C d_Lw_run_1 (by decide) ?_
  refine zi_aload_n C d_Lw_run_2 rfl 0 rfl ?_
  refine zi_lload_n C d_Lw_run_3 rfl 1 rfl ?_
  refine zi_callT (n := 1) (As := [.long v1]) (st := [.int (0 : Int32), .ref (bs + v3)]) C (cT_Bs_run (sa := sa) hl0 hA hAb hZ hF hn hk) hXs hX hAb (by omega) zw_663 zw_659 (by decide +kernel) ⟨Nat.le_of_ble_eq_true rfl, Nat.le_of_ble_eq_true rfl⟩ rfl (Nat.le_of_ble_eq_true rfl) ⟨Nat.le_of_ble_eq_true rfl, Nat.le_of_ble_eq_true rfl⟩ zw_664 zw_665 zw_666 zc_0.1 hn hk rfl d_Lw_run_4 hex (by decide) (by decide) (by decide) zw_680 ?_
  refine zi_astore (lv' := [(4, .ref (bs + S.2.1)), (0, .ref (bs + v0)), (1, .long v1), (3, .ref (bs + v3))]) C d_Lw_run_12 (by decide) rfl ?_
  refine zi_iconst (v := 1) C d_Lw_run_14 (by decide) ?_
  exact zi_iret C hlocks hr d_Lw_run_15 rfl rfl rfl rfl
set_option maxHeartbeats 4000000 in
set_option maxRecDepth 100000 in
theorem cT_Lw_at {l : Launch} (hl0 : l.stackTraces = false) {D : zzD} {bs : Nat} {A : Nat → Prop} {X : State → Prop} {S : zzS} {M : zzM} {sa : Nat} {out : Unit × zzM} {v0 : Nat} {v1 : Int32} {v2 : Int32} {v3 : Nat} (hA : ∀ q : Nat, bs + S.2.1 ≤ q → A q) (hAb : ∀ q : Nat, A q → bs ≤ q) (hXs : zzStab bs X) (hZ : ∀ U : State, X U → zxW bs "BoardScript" 97 99 101 "java/lang/IndexOutOfBoundsException" "no such object or field" ["java/lang/RuntimeException", "java/lang/Exception"] sa U) (hF : FT_Bs_at S M v0 v1 v2 = some out) (hn : v0 < S.2.1) (hk : zzk S v0 = 10) : Met l y_Lw_at (Cond.codeWith y_Lw_at method_5_code 5 (some .int) [(0, 9, 12, 13)] :: zzW) { frames := 9, cells := 1, slots := 6, locals := 160 } (zzPcX D bs A X S M [.ref (bs + v0), .int v1, .int v2, .ref (bs + v3)]) (zzQc D bs A (zzjunk S) out.2 (bs + (zzjunk S).2.1) (some (.int 1))) 1 6 A := by
  refine zz_metWX [.ref (bs + v0), .int v1, .int v2, .ref (bs + v3)] (by decide) (Nat.le_of_ble_eq_true rfl) (fun p e s m args below meth c C hr hlocks hex hX hsz => ?_)
  refine zz_eq (lv' := [(0, .ref (bs + v0)), (1, .int v1), (2, .int v2), (3, .ref (bs + v3))]) (st' := []) rfl rfl ?_
  refine zi_aload_n C d_Lw_at_0 rfl 3 rfl ?_
  refine zi_iconst (v := 0) C d_Lw_at_1 (by decide) ?_
  refine zi_aload_n C d_Lw_at_2 rfl 0 rfl ?_
  refine zi_iload_n C d_Lw_at_3 rfl 1 rfl ?_
  refine zi_iload_n C d_Lw_at_4 rfl 2 rfl ?_
  refine zi_callT (n := 2) (As := [.int v1, .int v2]) (st := [.int (0 : Int32), .ref (bs + v3)]) C (cT_Bs_at (sa := sa) hl0 hA hAb hZ hF hn hk) hXs hX hAb (by omega) zw_667 zw_659 (by decide +kernel) ⟨Nat.le_of_ble_eq_true rfl, Nat.le_of_ble_eq_true rfl⟩ rfl (Nat.le_of_ble_eq_true rfl) ⟨Nat.le_of_ble_eq_true rfl, Nat.le_of_ble_eq_true rfl⟩ zw_668 zw_669 zw_670 zc_0.1 hn hk rfl d_Lw_at_5 hex (by decide) (by decide) (by decide) zw_679 ?_
  refine zi_astore (lv' := [(4, .ref (bs + S.2.1)), (0, .ref (bs + v0)), (1, .int v1), (2, .int v2), (3, .ref (bs + v3))]) C d_Lw_at_12 (by decide) rfl ?_
  refine zi_iconst (v := 1) C d_Lw_at_14 (by decide) ?_
  exact zi_iret C hlocks hr d_Lw_at_15 rfl rfl rfl rfl
set_option maxHeartbeats 4000000 in
set_option maxRecDepth 100000 in
theorem cT_Lw_output {l : Launch} (hl0 : l.stackTraces = false) {D : zzD} {bs : Nat} {A : Nat → Prop} {X : State → Prop} {S : zzS} {M : zzM} {sa : Nat} {out : Unit × zzM} {v0 : Nat} {v1 : Int32} {v2 : Nat} (hA : ∀ q : Nat, bs + S.2.1 ≤ q → A q) (hAb : ∀ q : Nat, A q → bs ≤ q) (hXs : zzStab bs X) (hZ : ∀ U : State, X U → zxW bs "BoardScript" 97 126 101 "java/lang/IndexOutOfBoundsException" "no such output" ["java/lang/RuntimeException", "java/lang/Exception"] sa U) (hF : FT_Bs_output S M v0 v1 = some out) (hn : v0 < S.2.1) (hk : zzk S v0 = 10) : Met l y_Lw_output (Cond.codeWith y_Lw_output method_6_code 4 (some .int) [(0, 9, 12, 13)] :: zzW) { frames := 9, cells := 1, slots := 6, locals := 160 } (zzPcX D bs A X S M [.ref (bs + v0), .int v1, .ref (bs + v2)]) (zzQc D bs A (zzjunk S) out.2 (bs + (zzjunk S).2.1) (some (.int 1))) 1 6 A := by
  refine zz_metWX [.ref (bs + v0), .int v1, .ref (bs + v2)] (by decide) (Nat.le_of_ble_eq_true rfl) (fun p e s m args below meth c C hr hlocks hex hX hsz => ?_)
  refine zz_eq (lv' := [(0, .ref (bs + v0)), (1, .int v1), (2, .ref (bs + v2))]) (st' := []) rfl rfl ?_
  refine zi_aload_n C d_Lw_output_0 rfl 2 rfl ?_
  refine zi_iconst (v := 0) C d_Lw_output_1 (by decide) ?_
  refine zi_aload_n C d_Lw_output_2 rfl 0 rfl ?_
  refine zi_iload_n C d_Lw_output_3 rfl 1 rfl ?_
  refine zi_callT (n := 1) (As := [.int v1]) (st := [.int (0 : Int32), .ref (bs + v2)]) C (cT_Bs_output (sa := sa) hl0 hA hAb hZ hF hn hk) hXs hX hAb (by omega) zw_671 zw_659 (by decide +kernel) ⟨Nat.le_of_ble_eq_true rfl, Nat.le_of_ble_eq_true rfl⟩ rfl (Nat.le_of_ble_eq_true rfl) ⟨Nat.le_of_ble_eq_true rfl, Nat.le_of_ble_eq_true rfl⟩ zw_672 zw_673 zw_674 zc_0.1 hn hk rfl d_Lw_output_4 hex (by decide) (by decide) (by decide) zw_679 ?_
  refine zi_astore_n (lv' := [(3, .ref (bs + S.2.1)), (0, .ref (bs + v0)), (1, .int v1), (2, .ref (bs + v2))]) C d_Lw_output_12 rfl (by decide) rfl ?_
  refine zi_iconst (v := 1) C d_Lw_output_13 (by decide) ?_
  exact zi_iret C hlocks hr d_Lw_output_14 rfl rfl rfl rfl
set_option maxHeartbeats 4000000 in
set_option maxRecDepth 100000 in
theorem cT_Lw_error {l : Launch} (hl0 : l.stackTraces = false) {D : zzD} {bs : Nat} {A : Nat → Prop} {X : State → Prop} {S : zzS} {M : zzM} {sa : Nat} {out : Unit × zzM} {v0 : Nat} {v1 : Int32} {v2 : Nat} (hA : ∀ q : Nat, bs + S.2.1 ≤ q → A q) (hAb : ∀ q : Nat, A q → bs ≤ q) (hXs : zzStab bs X) (hZ : ∀ U : State, X U → zxW bs "BoardScript" 97 145 101 "java/lang/IndexOutOfBoundsException" "an error has 0, 1 and 2" ["java/lang/RuntimeException", "java/lang/Exception"] sa U) (hF : FT_Bs_error S M v0 v1 = some out) (hn : v0 < S.2.1) (hk : zzk S v0 = 10) : Met l y_Lw_error (Cond.codeWith y_Lw_error method_7_code 4 (some .int) [(0, 9, 12, 13)] :: zzW) { frames := 9, cells := 1, slots := 6, locals := 160 } (zzPcX D bs A X S M [.ref (bs + v0), .int v1, .ref (bs + v2)]) (zzQc D bs A (zzjunk S) out.2 (bs + (zzjunk S).2.1) (some (.int 1))) 1 6 A := by
  refine zz_metWX [.ref (bs + v0), .int v1, .ref (bs + v2)] (by decide) (Nat.le_of_ble_eq_true rfl) (fun p e s m args below meth c C hr hlocks hex hX hsz => ?_)
  refine zz_eq (lv' := [(0, .ref (bs + v0)), (1, .int v1), (2, .ref (bs + v2))]) (st' := []) rfl rfl ?_
  refine zi_aload_n C d_Lw_error_0 rfl 2 rfl ?_
  refine zi_iconst (v := 0) C d_Lw_error_1 (by decide) ?_
  refine zi_aload_n C d_Lw_error_2 rfl 0 rfl ?_
  refine zi_iload_n C d_Lw_error_3 rfl 1 rfl ?_
  refine zi_callT (n := 1) (As := [.int v1]) (st := [.int (0 : Int32), .ref (bs + v2)]) C (cT_Bs_error (sa := sa) hl0 hA hAb hZ hF hn hk) hXs hX hAb (by omega) zw_675 zw_659 (by decide +kernel) ⟨Nat.le_of_ble_eq_true rfl, Nat.le_of_ble_eq_true rfl⟩ rfl (Nat.le_of_ble_eq_true rfl) ⟨Nat.le_of_ble_eq_true rfl, Nat.le_of_ble_eq_true rfl⟩ zw_676 zw_677 zw_678 zc_0.1 hn hk rfl d_Lw_error_4 hex (by decide) (by decide) (by decide) zw_679 ?_
  refine zi_astore_n (lv' := [(3, .ref (bs + S.2.1)), (0, .ref (bs + v0)), (1, .int v1), (2, .ref (bs + v2))]) C d_Lw_error_12 rfl (by decide) rfl ?_
  refine zi_iconst (v := 1) C d_Lw_error_13 (by decide) ?_
  exact zi_iret C hlocks hr d_Lw_error_14 rfl rfl rfl rfl
