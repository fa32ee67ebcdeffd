def F_Lw_field (S : zzS)  (M : zzM) (v0 : Option Nat) (v1 : Int32) (v2 : Int32) (v3 : Int64) (v5 : Option Nat) : Option (Int32 × zzM) := zzopt S 10 v0 (none) (fun b1 => zzcall (F_Bs_field S M b1 v1 v2 v3) fun r2 M => if r2 = 0 then (zzopt S 2 v5 (none) (fun b3 => zzix S b3 (0 : Int32) (zzlet (zzsL M b3 ((0 : Int32)).toNatClampNeg (0 : Int64)) fun M => some ((0 : Int32), M)))) else (zzopt S 2 v5 (none) (fun b4 => zzix S b4 (0 : Int32) (zzlet (zzsL M b4 ((0 : Int32)).toNatClampNeg (1 : Int64)) fun M => some ((0 : Int32), M)))))
set_option maxHeartbeats 4000000 in
set_option maxRecDepth 100000 in
theorem c_Lw_field {l : Launch} {D : zzD} {bs : Nat} {A : Nat → Prop} {S : zzS} {M : zzM} {hz : Nat} {out : Int32 × zzM} {v0 : Option Nat} {v1 : Int32} {v2 : Int32} {v3 : Int64} {v5 : Option Nat}   (hF : F_Lw_field S  M v0 v1 v2 v3 v5 = some out)  : Met l y_Lw_field (Cond.codeWith y_Lw_field method_3_code 7 (some .int) [(0, 19, 22, 13)] :: zzW) { frames := 4, cells := 0, slots := 0, locals := 146 } (zzPc D bs A S M hz [zzrf bs v0, .int v1, .int v2, .long v3, zzrf bs v5]) (zzQc D bs A S out.2 hz (some (.int out.1))) 0 0 A := by
  refine zz_metW [zzrf bs v0, .int v1, .int v2, .long v3, zzrf bs v5] (by decide) (by cases v0 <;> cases v5 <;> exact Nat.le_of_ble_eq_true rfl) (fun p e s m args below meth c C hr hlocks hin hsz => ?_)
  refine zz_eq (lv' := [(0, zzrf bs v0), (1, .int v1), (2, .int v2), (3, .long v3), (5, zzrf bs v5)]) (st' := []) (by cases v0 <;> cases v5 <;> rfl) rfl ?_
  unfold F_Lw_field at hF
  refine zi_aloadO C d_Lw_field_0 4 rfl ?_
  refine zi_iconst (v := 0) C d_Lw_field_2 (by decide) ?_
  refine zi_aload_nO C d_Lw_field_3 rfl 0 rfl ?_
  refine zi_iload_n C d_Lw_field_4 rfl 1 rfl ?_
  refine zi_iload_n C d_Lw_field_5 rfl 2 rfl ?_
  refine zi_lload_n C d_Lw_field_6 rfl 3 rfl ?_
  rcases zzopt_e hF with ⟨hv0, hF⟩ | ⟨b1, hv0, hn_b1, hk_b1, hF⟩
  · refine zz_eq (lv' := [(0, .null), (1, .int v1), (2, .int v2), (3, .long v3), (5, zzrf bs v5)]) (st' := [.long v3, .int v2, .int v1, .null, .int (0 : Int32), zzrf bs v5]) (by first | rfl | (rw [hv0]; rfl) | (rw [hv0]; done)) (by first | rfl | (rw [hv0]; rfl) | (rw [hv0]; done)) ?_
    cases hF
  · refine zz_eq (lv' := [(0, .ref (bs + b1)), (1, .int v1), (2, .int v2), (3, .long v3), (5, zzrf bs v5)]) (st' := [.long v3, .int v2, .int v1, .ref (bs + b1), .int (0 : Int32), zzrf bs v5]) (by first | rfl | (rw [hv0]; rfl) | (rw [hv0]; done)) (by first | rfl | (rw [hv0]; rfl) | (rw [hv0]; done)) ?_
    obtain ⟨r2, M, hqr2, hF⟩ := zzcall_e hF
    refine zi_callV_i (M2 := M) (r := r2) (n := 3) (As := [.int v1, .int v2, .long v3]) (st := [.int (0 : Int32), zzrf bs v5]) C (c_Bs_field hqr2 hn_b1 hk_b1) zw_658 zw_659 (by decide +kernel) ⟨Nat.le_of_ble_eq_true rfl, Nat.le_of_ble_eq_true rfl⟩ rfl (by cases v5 <;> exact Nat.le_of_ble_eq_true rfl) ⟨Nat.le_of_ble_eq_true rfl, Nat.le_of_ble_eq_true rfl⟩ zw_660 zw_661 zw_662 zc_0.1 hn_b1 hk_b1 rfl d_Lw_field_7 ?_
    refine zi_if_eq (tgt := 17) C d_Lw_field_10 (by decide) hF (fun hF => ?_) (fun hF => ?_)
    · refine zi_lconst (v := 0) C d_Lw_field_17 (by decide) ?_
      rcases zzopt_e hF with ⟨hv0, hF⟩ | ⟨b3, hv0, hn_b3, hk_b3, hF⟩
      · refine zz_eq (lv' := [(0, .ref (bs + b1)), (1, .int v1), (2, .int v2), (3, .long v3), (5, .null)]) (st' := [.long (0 : Int64), .int (0 : Int32), .null]) (by first | rfl | (rw [hv0]; rfl) | (rw [hv0]; done)) (by first | rfl | (rw [hv0]; rfl) | (rw [hv0]; done)) ?_
        cases hF
      · refine zz_eq (lv' := [(0, .ref (bs + b1)), (1, .int v1), (2, .int v2), (3, .long v3), (5, .ref (bs + b3))]) (st' := [.long (0 : Int64), .int (0 : Int32), .ref (bs + b3)]) (by first | rfl | (rw [hv0]; rfl) | (rw [hv0]; done)) (by first | rfl | (rw [hv0]; rfl) | (rw [hv0]; done)) ?_
        refine zi_last C hn_b3 hk_b3 d_Lw_field_18 hF (fun M hF => ?_)
        refine zi_goto (tgt := 26) C d_Lw_field_19 (by decide) ?_
        refine zi_iconst (v := 0) C d_Lw_field_26 (by decide) ?_
        exact zi_iret C hlocks hr d_Lw_field_27 (by cases hF; rfl) rfl (by cases hF; rfl) rfl
    · refine zi_lconst (v := 1) C d_Lw_field_13 (by decide) ?_
      refine zi_goto (tgt := 18) C d_Lw_field_14 (by decide) ?_
      rcases zzopt_e hF with ⟨hv0, hF⟩ | ⟨b4, hv0, hn_b4, hk_b4, hF⟩
      · refine zz_eq (lv' := [(0, .ref (bs + b1)), (1, .int v1), (2, .int v2), (3, .long v3), (5, .null)]) (st' := [.long (1 : Int64), .int (0 : Int32), .null]) (by first | rfl | (rw [hv0]; rfl) | (rw [hv0]; done)) (by first | rfl | (rw [hv0]; rfl) | (rw [hv0]; done)) ?_
        cases hF
      · refine zz_eq (lv' := [(0, .ref (bs + b1)), (1, .int v1), (2, .int v2), (3, .long v3), (5, .ref (bs + b4))]) (st' := [.long (1 : Int64), .int (0 : Int32), .ref (bs + b4)]) (by first | rfl | (rw [hv0]; rfl) | (rw [hv0]; done)) (by first | rfl | (rw [hv0]; rfl) | (rw [hv0]; done)) ?_
        refine zi_last C hn_b4 hk_b4 d_Lw_field_18 hF (fun M hF => ?_)
        refine zi_goto (tgt := 26) C d_Lw_field_19 (by decide) ?_
        refine zi_iconst (v := 0) C d_Lw_field_26 (by decide) ?_
        exact zi_iret C hlocks hr d_Lw_field_27 (by cases hF; rfl) rfl (by cases hF; rfl) rfl
def F_Lw_run (S : zzS)  (M : zzM) (v0 : Option Nat) (v1 : Int64) (v3 : Option Nat) : Option (Int32 × zzM) := zzopt S 10 v0 (none) (fun b1 => zzcall (F_Bs_run S M b1 v1) fun r2 M => zzlet ((r2).toInt64) fun x3 => zzopt S 2 v3 (none) (fun b4 => zzix S b4 (0 : Int32) (zzlet (zzsL M b4 ((0 : Int32)).toNatClampNeg x3) fun M => some ((0 : Int32), M))))
set_option maxHeartbeats 4000000 in
set_option maxRecDepth 100000 in
theorem c_Lw_run {l : Launch} {D : zzD} {bs : Nat} {A : Nat → Prop} {S : zzS} {M : zzM} {hz : Nat} {out : Int32 × zzM} {v0 : Option Nat} {v1 : Int64} {v3 : Option Nat}   (hF : F_Lw_run S  M v0 v1 v3 = some out)  : Met l y_Lw_run (Cond.codeWith y_Lw_run method_4_code 5 (some .int) [(0, 9, 12, 19)] :: zzW) { frames := 75, cells := 0, slots := 0, locals := 4271 } (zzPc D bs A S M hz [zzrf bs v0, .long v1, zzrf bs v3]) (zzQc D bs A S out.2 hz (some (.int out.1))) 0 0 A := by
  refine zz_metW [zzrf bs v0, .long v1, zzrf bs v3] (by decide) (by cases v0 <;> cases v3 <;> exact Nat.le_of_ble_eq_true rfl) (fun p e s m args below meth c C hr hlocks hin hsz => ?_)
  refine zz_eq (lv' := [(0, zzrf bs v0), (1, .long v1), (3, zzrf bs v3)]) (st' := []) (by cases v0 <;> cases v3 <;> rfl) rfl ?_
  unfold F_Lw_run at hF
  refine zi_aload_nO C d_Lw_run_0 rfl 2 rfl ?_
  refine zi_iconst (v := 0) C d_Lw_run_1 (by decide) ?_
  refine zi_aload_nO C d_Lw_run_2 rfl 0 rfl ?_
  refine zi_lload_n C d_Lw_run_3 rfl 1 rfl ?_
  rcases zzopt_e hF with ⟨hv0, hF⟩ | ⟨b1, hv0, hn_b1, hk_b1, hF⟩
  · refine zz_eq (lv' := [(0, .null), (1, .long v1), (3, zzrf bs v3)]) (st' := [.long v1, .null, .int (0 : Int32), zzrf bs v3]) (by first | rfl | (rw [hv0]; rfl) | (rw [hv0]; done)) (by first | rfl | (rw [hv0]; rfl) | (rw [hv0]; done)) ?_
    cases hF
  · refine zz_eq (lv' := [(0, .ref (bs + b1)), (1, .long v1), (3, zzrf bs v3)]) (st' := [.long v1, .ref (bs + b1), .int (0 : Int32), zzrf bs v3]) (by first | rfl | (rw [hv0]; rfl) | (rw [hv0]; done)) (by first | rfl | (rw [hv0]; rfl) | (rw [hv0]; done)) ?_
    obtain ⟨r2, M, hqr2, hF⟩ := zzcall_e hF
    refine zi_callV_i (M2 := M) (r := r2) (n := 1) (As := [.long v1]) (st := [.int (0 : Int32), zzrf bs v3]) C (c_Bs_run hqr2 hn_b1 hk_b1) zw_663 zw_659 (by decide +kernel) ⟨Nat.le_of_ble_eq_true rfl, Nat.le_of_ble_eq_true rfl⟩ rfl (by cases v3 <;> exact Nat.le_of_ble_eq_true rfl) ⟨Nat.le_of_ble_eq_true rfl, Nat.le_of_ble_eq_true rfl⟩ zw_664 zw_665 zw_666 zc_0.1 hn_b1 hk_b1 rfl d_Lw_run_4 ?_
    refine zi_i2l C d_Lw_run_7 hF (fun x3 hF => ?_)
    rcases zzopt_e hF with ⟨hv0, hF⟩ | ⟨b4, hv0, hn_b4, hk_b4, hF⟩
    · refine zz_eq (lv' := [(0, .ref (bs + b1)), (1, .long v1), (3, .null)]) (st' := [.long x3, .int (0 : Int32), .null]) (by first | rfl | (rw [hv0]; rfl) | (rw [hv0]; done)) (by first | rfl | (rw [hv0]; rfl) | (rw [hv0]; done)) ?_
      cases hF
    · refine zz_eq (lv' := [(0, .ref (bs + b1)), (1, .long v1), (3, .ref (bs + b4))]) (st' := [.long x3, .int (0 : Int32), .ref (bs + b4)]) (by first | rfl | (rw [hv0]; rfl) | (rw [hv0]; done)) (by first | rfl | (rw [hv0]; rfl) | (rw [hv0]; done)) ?_
      refine zi_last C hn_b4 hk_b4 d_Lw_run_8 hF (fun M hF => ?_)
      refine zi_goto (tgt := 16) C d_Lw_run_9 (by decide) ?_
      refine zi_iconst (v := 0) C d_Lw_run_16 (by decide) ?_
      exact zi_iret C hlocks hr d_Lw_run_17 (by cases hF; rfl) rfl (by cases hF; rfl) rfl
def F_Lw_at (S : zzS)  (M : zzM) (v0 : Option Nat) (v1 : Int32) (v2 : Int32) (v3 : Option Nat) : Option (Int32 × zzM) := zzopt S 10 v0 (none) (fun b1 => zzcall (F_Bs_at S M b1 v1 v2) fun r2 M => zzopt S 2 v3 (none) (fun b3 => zzix S b3 (0 : Int32) (zzlet (zzsL M b3 ((0 : Int32)).toNatClampNeg r2) fun M => some ((0 : Int32), M))))
set_option maxHeartbeats 4000000 in
set_option maxRecDepth 100000 in
theorem c_Lw_at {l : Launch} {D : zzD} {bs : Nat} {A : Nat → Prop} {S : zzS} {M : zzM} {hz : Nat} {out : Int32 × zzM} {v0 : Option Nat} {v1 : Int32} {v2 : Int32} {v3 : Option Nat}   (hF : F_Lw_at S  M v0 v1 v2 v3 = some out)  : Met l y_Lw_at (Cond.codeWith y_Lw_at method_5_code 5 (some .int) [(0, 9, 12, 13)] :: zzW) { frames := 4, cells := 0, slots := 0, locals := 143 } (zzPc D bs A S M hz [zzrf bs v0, .int v1, .int v2, zzrf bs v3]) (zzQc D bs A S out.2 hz (some (.int out.1))) 0 0 A := by
  refine zz_metW [zzrf bs v0, .int v1, .int v2, zzrf bs v3] (by decide) (by cases v0 <;> cases v3 <;> exact Nat.le_of_ble_eq_true rfl) (fun p e s m args below meth c C hr hlocks hin hsz => ?_)
  refine zz_eq (lv' := [(0, zzrf bs v0), (1, .int v1), (2, .int v2), (3, zzrf bs v3)]) (st' := []) (by cases v0 <;> cases v3 <;> rfl) rfl ?_
  unfold F_Lw_at at hF
  refine zi_aload_nO C d_Lw_at_0 rfl 3 rfl ?_
  refine zi_iconst (v := 0) C d_Lw_at_1 (by decide) ?_
  refine zi_aload_nO C d_Lw_at_2 rfl 0 rfl ?_
  refine zi_iload_n C d_Lw_at_3 rfl 1 rfl ?_
  refine zi_iload_n C d_Lw_at_4 rfl 2 rfl ?_
  rcases zzopt_e hF with ⟨hv0, hF⟩ | ⟨b1, hv0, hn_b1, hk_b1, hF⟩
  · refine zz_eq (lv' := [(0, .null), (1, .int v1), (2, .int v2), (3, zzrf bs v3)]) (st' := [.int v2, .int v1, .null, .int (0 : Int32), zzrf bs v3]) (by first | rfl | (rw [hv0]; rfl) | (rw [hv0]; done)) (by first | rfl | (rw [hv0]; rfl) | (rw [hv0]; done)) ?_
    cases hF
  · refine zz_eq (lv' := [(0, .ref (bs + b1)), (1, .int v1), (2, .int v2), (3, zzrf bs v3)]) (st' := [.int v2, .int v1, .ref (bs + b1), .int (0 : Int32), zzrf bs v3]) (by first | rfl | (rw [hv0]; rfl) | (rw [hv0]; done)) (by first | rfl | (rw [hv0]; rfl) | (rw [hv0]; done)) ?_
    obtain ⟨r2, M, hqr2, hF⟩ := zzcall_e hF
    refine zi_callV_l (M2 := M) (r := r2) (n := 2) (As := [.int v1, .int v2]) (st := [.int (0 : Int32), zzrf bs v3]) C (c_Bs_at hqr2 hn_b1 hk_b1) zw_667 zw_659 (by decide +kernel) ⟨Nat.le_of_ble_eq_true rfl, Nat.le_of_ble_eq_true rfl⟩ rfl (by cases v3 <;> exact Nat.le_of_ble_eq_true rfl) ⟨Nat.le_of_ble_eq_true rfl, Nat.le_of_ble_eq_true rfl⟩ zw_668 zw_669 zw_670 zc_0.1 hn_b1 hk_b1 rfl d_Lw_at_5 ?_
    rcases zzopt_e hF with ⟨hv0, hF⟩ | ⟨b3, hv0, hn_b3, hk_b3, hF⟩
    · refine zz_eq (lv' := [(0, .ref (bs + b1)), (1, .int v1), (2, .int v2), (3, .null)]) (st' := [.long r2, .int (0 : Int32), .null]) (by first | rfl | (rw [hv0]; rfl) | (rw [hv0]; done)) (by first | rfl | (rw [hv0]; rfl) | (rw [hv0]; done)) ?_
      cases hF
    · refine zz_eq (lv' := [(0, .ref (bs + b1)), (1, .int v1), (2, .int v2), (3, .ref (bs + b3))]) (st' := [.long r2, .int (0 : Int32), .ref (bs + b3)]) (by first | rfl | (rw [hv0]; rfl) | (rw [hv0]; done)) (by first | rfl | (rw [hv0]; rfl) | (rw [hv0]; done)) ?_
      refine zi_last C hn_b3 hk_b3 d_Lw_at_8 hF (fun M hF => ?_)
      refine zi_goto (tgt := 16) C d_Lw_at_9 (by decide) ?_
      refine zi_iconst (v := 0) C d_Lw_at_16 (by decide) ?_
      exact zi_iret C hlocks hr d_Lw_at_17 (by cases hF; rfl) rfl (by cases hF; rfl) rfl
def F_Lw_output (S : zzS)  (M : zzM) (v0 : Option Nat) (v1 : Int32) (v2 : Option Nat) : Option (Int32 × zzM) := zzopt S 10 v0 (none) (fun b1 => zzcall (F_Bs_output S M b1 v1) fun r2 M => zzlet ((r2).toInt64) fun x3 => zzopt S 2 v2 (none) (fun b4 => zzix S b4 (0 : Int32) (zzlet (zzsL M b4 ((0 : Int32)).toNatClampNeg x3) fun M => some ((0 : Int32), M))))
set_option maxHeartbeats 4000000 in
set_option maxRecDepth 100000 in
theorem c_Lw_output {l : Launch} {D : zzD} {bs : Nat} {A : Nat → Prop} {S : zzS} {M : zzM} {hz : Nat} {out : Int32 × zzM} {v0 : Option Nat} {v1 : Int32} {v2 : Option Nat}   (hF : F_Lw_output S  M v0 v1 v2 = some out)  : Met l y_Lw_output (Cond.codeWith y_Lw_output method_6_code 4 (some .int) [(0, 9, 12, 13)] :: zzW) { frames := 4, cells := 0, slots := 0, locals := 141 } (zzPc D bs A S M hz [zzrf bs v0, .int v1, zzrf bs v2]) (zzQc D bs A S out.2 hz (some (.int out.1))) 0 0 A := by
  refine zz_metW [zzrf bs v0, .int v1, zzrf bs v2] (by decide) (by cases v0 <;> cases v2 <;> exact Nat.le_of_ble_eq_true rfl) (fun p e s m args below meth c C hr hlocks hin hsz => ?_)
  refine zz_eq (lv' := [(0, zzrf bs v0), (1, .int v1), (2, zzrf bs v2)]) (st' := []) (by cases v0 <;> cases v2 <;> rfl) rfl ?_
  unfold F_Lw_output at hF
  refine zi_aload_nO C d_Lw_output_0 rfl 2 rfl ?_
  refine zi_iconst (v := 0) C d_Lw_output_1 (by decide) ?_
  refine zi_aload_nO C d_Lw_output_2 rfl 0 rfl ?_
  refine zi_iload_n C d_Lw_output_3 rfl 1 rfl ?_
  rcases zzopt_e hF with ⟨hv0, hF⟩ | ⟨b1, hv0, hn_b1, hk_b1, hF⟩
  · refine zz_eq (lv' := [(0, .null), (1, .int v1), (2, zzrf bs v2)]) (st' := [.int v1, .null, .int (0 : Int32), zzrf bs v2]) (by first | rfl | (rw [hv0]; rfl) | (rw [hv0]; done)) (by first | rfl | (rw [hv0]; rfl) | (rw [hv0]; done)) ?_
    cases hF
  · refine zz_eq (lv' := [(0, .ref (bs + b1)), (1, .int v1), (2, zzrf bs v2)]) (st' := [.int v1, .ref (bs + b1), .int (0 : Int32), zzrf bs v2]) (by first | rfl | (rw [hv0]; rfl) | (rw [hv0]; done)) (by first | rfl | (rw [hv0]; rfl) | (rw [hv0]; done)) ?_
    obtain ⟨r2, M, hqr2, hF⟩ := zzcall_e hF
    refine zi_callV_i (M2 := M) (r := r2) (n := 1) (As := [.int v1]) (st := [.int (0 : Int32), zzrf bs v2]) C (c_Bs_output hqr2 hn_b1 hk_b1) zw_671 zw_659 (by decide +kernel) ⟨Nat.le_of_ble_eq_true rfl, Nat.le_of_ble_eq_true rfl⟩ rfl (by cases v2 <;> exact Nat.le_of_ble_eq_true rfl) ⟨Nat.le_of_ble_eq_true rfl, Nat.le_of_ble_eq_true rfl⟩ zw_672 zw_673 zw_674 zc_0.1 hn_b1 hk_b1 rfl d_Lw_output_4 ?_
    refine zi_i2l C d_Lw_output_7 hF (fun x3 hF => ?_)
    rcases zzopt_e hF with ⟨hv0, hF⟩ | ⟨b4, hv0, hn_b4, hk_b4, hF⟩
    · refine zz_eq (lv' := [(0, .ref (bs + b1)), (1, .int v1), (2, .null)]) (st' := [.long x3, .int (0 : Int32), .null]) (by first | rfl | (rw [hv0]; rfl) | (rw [hv0]; done)) (by first | rfl | (rw [hv0]; rfl) | (rw [hv0]; done)) ?_
      cases hF
    · refine zz_eq (lv' := [(0, .ref (bs + b1)), (1, .int v1), (2, .ref (bs + b4))]) (st' := [.long x3, .int (0 : Int32), .ref (bs + b4)]) (by first | rfl | (rw [hv0]; rfl) | (rw [hv0]; done)) (by first | rfl | (rw [hv0]; rfl) | (rw [hv0]; done)) ?_
      refine zi_last C hn_b4 hk_b4 d_Lw_output_8 hF (fun M hF => ?_)
      refine zi_goto (tgt := 15) C d_Lw_output_9 (by decide) ?_
      refine zi_iconst (v := 0) C d_Lw_output_15 (by decide) ?_
      exact zi_iret C hlocks hr d_Lw_output_16 (by cases hF; rfl) rfl (by cases hF; rfl) rfl
def F_Lw_error (S : zzS)  (M : zzM) (v0 : Option Nat) (v1 : Int32) (v2 : Option Nat) : Option (Int32 × zzM) := zzopt S 10 v0 (none) (fun b1 => zzcall (F_Bs_error S M b1 v1) fun r2 M => zzlet ((r2).toInt64) fun x3 => zzopt S 2 v2 (none) (fun b4 => zzix S b4 (0 : Int32) (zzlet (zzsL M b4 ((0 : Int32)).toNatClampNeg x3) fun M => some ((0 : Int32), M))))
set_option maxHeartbeats 4000000 in
set_option maxRecDepth 100000 in
theorem c_Lw_error {l : Launch} {D : zzD} {bs : Nat} {A : Nat → Prop} {S : zzS} {M : zzM} {hz : Nat} {out : Int32 × zzM} {v0 : Option Nat} {v1 : Int32} {v2 : Option Nat}   (hF : F_Lw_error S  M v0 v1 v2 = some out)  : Met l y_Lw_error (Cond.codeWith y_Lw_error method_7_code 4 (some .int) [(0, 9, 12, 13)] :: zzW) { frames := 4, cells := 0, slots := 0, locals := 141 } (zzPc D bs A S M hz [zzrf bs v0, .int v1, zzrf bs v2]) (zzQc D bs A S out.2 hz (some (.int out.1))) 0 0 A := by
  refine zz_metW [zzrf bs v0, .int v1, zzrf bs v2] (by decide) (by cases v0 <;> cases v2 <;> exact Nat.le_of_ble_eq_true rfl) (fun p e s m args below meth c C hr hlocks hin hsz => ?_)
  refine zz_eq (lv' := [(0, zzrf bs v0), (1, .int v1), (2, zzrf bs v2)]) (st' := []) (by cases v0 <;> cases v2 <;> rfl) rfl ?_
  unfold F_Lw_error at hF
  refine zi_aload_nO C d_Lw_error_0 rfl 2 rfl ?_
  refine zi_iconst (v := 0) C d_Lw_error_1 (by decide) ?_
  refine zi_aload_nO C d_Lw_error_2 rfl 0 rfl ?_
  refine zi_iload_n C d_Lw_error_3 rfl 1 rfl ?_
  rcases zzopt_e hF with ⟨hv0, hF⟩ | ⟨b1, hv0, hn_b1, hk_b1, hF⟩
  · refine zz_eq (lv' := [(0, .null), (1, .int v1), (2, zzrf bs v2)]) (st' := [.int v1, .null, .int (0 : Int32), zzrf bs v2]) (by first | rfl | (rw [hv0]; rfl) | (rw [hv0]; done)) (by first | rfl | (rw [hv0]; rfl) | (rw [hv0]; done)) ?_
    cases hF
  · refine zz_eq (lv' := [(0, .ref (bs + b1)), (1, .int v1), (2, zzrf bs v2)]) (st' := [.int v1, .ref (bs + b1), .int (0 : Int32), zzrf bs v2]) (by first | rfl | (rw [hv0]; rfl) | (rw [hv0]; done)) (by first | rfl | (rw [hv0]; rfl) | (rw [hv0]; done)) ?_
    obtain ⟨r2, M, hqr2, hF⟩ := zzcall_e hF
    refine zi_callV_i (M2 := M) (r := r2) (n := 1) (As := [.int v1]) (st := [.int (0 : Int32), zzrf bs v2]) C (c_Bs_error hqr2 hn_b1 hk_b1) zw_675 zw_659 (by decide +kernel) ⟨Nat.le_of_ble_eq_true rfl, Nat.le_of_ble_eq_true rfl⟩ rfl (by cases v2 <;> exact Nat.le_of_ble_eq_true rfl) ⟨Nat.le_of_ble_eq_true rfl, Nat.le_of_ble_eq_true rfl⟩ zw_676 zw_677 zw_678 zc_0.1 hn_b1 hk_b1 rfl d_Lw_error_4 ?_
    refine zi_i2l C d_Lw_error_7 hF (fun x3 hF => ?_)
    rcases zzopt_e hF with ⟨hv0, hF⟩ | ⟨b4, hv0, hn_b4, hk_b4, hF⟩
    · refine zz_eq (lv' := [(0, .ref (bs + b1)), (1, .int v1), (2, .null)]) (st' := [.long x3, .int (0 : Int32), .null]) (by first | rfl | (rw [hv0]; rfl) | (rw [hv0]; done)) (by first | rfl | (rw [hv0]; rfl) | (rw [hv0]; done)) ?_
      cases hF
    · refine zz_eq (lv' := [(0, .ref (bs + b1)), (1, .int v1), (2, .ref (bs + b4))]) (st' := [.long x3, .int (0 : Int32), .ref (bs + b4)]) (by first | rfl | (rw [hv0]; rfl) | (rw [hv0]; done)) (by first | rfl | (rw [hv0]; rfl) | (rw [hv0]; done)) ?_
      refine zi_last C hn_b4 hk_b4 d_Lw_error_8 hF (fun M hF => ?_)
      refine zi_goto (tgt := 15) C d_Lw_error_9 (by decide) ?_
      refine zi_iconst (v := 0) C d_Lw_error_15 (by decide) ?_
      exact zi_iret C hlocks hr d_Lw_error_16 (by cases hF; rfl) rfl (by cases hF; rfl) rfl
