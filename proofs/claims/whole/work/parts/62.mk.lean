def F_Sc_init (S : zzS)  (M : zzM) (v0 : Nat) (v1 : Option Nat) (v2 : Option Nat) (v3 : Int32) : Option (Unit × zzM) := zzlet (zzsR M v0 0 v1) fun M => zzlet (zzsR M v0 1 v2) fun M => zzlet (zzsI M v0 2 v3) fun M => some ((), M)
set_option maxHeartbeats 4000000 in
set_option maxRecDepth 100000 in
theorem c_Sc_init {l : Launch} {D : zzD} {bs : Nat} {A : Nat → Prop} {S : zzS} {M : zzM} {hz : Nat} {out : Unit × zzM} {v0 : Nat} {v1 : Option Nat} {v2 : Option Nat} {v3 : Int32}   (hF : F_Sc_init S  M v0 v1 v2 v3 = some out) (hn_v0 : v0 < S.2.1) (hk_v0 : zzk S v0 = 11) : Met l y_Sc_init (Cond.code y_Sc_init prog_8_method_1_code 4 none :: zzW) { frames := 1, cells := 0, slots := 0, locals := 20 } (zzPc D bs A S M hz [.ref (bs + v0), zzrf bs v1, zzrf bs v2, .int v3]) (zzQc D bs A S out.2 hz none) 0 0 A := by
  refine zz_met [.ref (bs + v0), zzrf bs v1, zzrf bs v2, .int v3] (by decide) (by cases v1 <;> cases v2 <;> exact Nat.le_of_ble_eq_true rfl) (fun p e s m args below meth c C hr hlocks hin hsz => ?_)
  refine zz_eq (lv' := [(0, .ref (bs + v0)), (1, zzrf bs v1), (2, zzrf bs v2), (3, .int v3)]) (st' := []) (by cases v1 <;> cases v2 <;> rfl) rfl ?_
  unfold F_Sc_init at hF
  refine zi_aload_n C d_Sc_init_0 rfl 0 rfl ?_
  refine zi_objInit C zw_523 zw_526 zw_527 d_Sc_init_1 (Nat.le_of_ble_eq_true rfl) (Nat.le_of_ble_eq_true rfl) ?_
  refine zi_aload_n C d_Sc_init_4 rfl 0 rfl ?_
  refine zi_aload_nO C d_Sc_init_5 rfl 1 rfl ?_
  refine zi_putO C zc_1 (k := 0) (by decide) zw_524 rfl (Or.inr ⟨rfl, hin, rfl⟩) hn_v0 hk_v0 d_Sc_init_6 (Or.inl ⟨_, rfl⟩) hF (fun M hF => ?_)
  refine zi_aload_n C d_Sc_init_9 rfl 0 rfl ?_
  refine zi_aload_nO C d_Sc_init_10 rfl 2 rfl ?_
  refine zi_putO C zc_1 (k := 1) (by decide) zw_349 rfl (Or.inr ⟨rfl, hin, rfl⟩) hn_v0 hk_v0 d_Sc_init_11 (Or.inr ⟨_, rfl⟩) hF (fun M hF => ?_)
  refine zi_aload_n C d_Sc_init_14 rfl 0 rfl ?_
  refine zi_iload_n C d_Sc_init_15 rfl 3 rfl ?_
  refine zi_putI C zc_1 (k := 2) (by decide) zw_525 rfl (Or.inr ⟨rfl, hin, rfl⟩) hn_v0 hk_v0 d_Sc_init_16 rfl hF (fun M hF => ?_)
  exact zi_vret C hlocks hr d_Sc_init_19 rfl rfl (by cases hF; rfl) rfl
def F_Bl_init (S : zzS)  (M : zzM) (v0 : Nat) : Option (Unit × zzM) := some ((), M)
set_option maxHeartbeats 4000000 in
set_option maxRecDepth 100000 in
theorem c_Bl_init {l : Launch} {D : zzD} {bs : Nat} {A : Nat → Prop} {S : zzS} {M : zzM} {hz : Nat} {out : Unit × zzM} {v0 : Nat}   (hF : F_Bl_init S  M v0 = some out) (hn_v0 : v0 < S.2.1) (hk_v0 : zzk S v0 = 12) : Met l y_Bl_init (Cond.code y_Bl_init prog_2_method_1_code 1 none :: zzW) { frames := 1, cells := 0, slots := 0, locals := 20 } (zzPc D bs A S M hz [.ref (bs + v0)]) (zzQc D bs A S out.2 hz none) 0 0 A := by
  refine zz_met [.ref (bs + v0)] (by decide) (Nat.le_of_ble_eq_true rfl) (fun p e s m args below meth c C hr hlocks hin hsz => ?_)
  refine zz_eq (lv' := [(0, .ref (bs + v0))]) (st' := []) rfl rfl ?_
  unfold F_Bl_init at hF
  refine zi_aload_n C d_Bl_init_0 rfl 0 rfl ?_
  refine zi_objInit C zw_528 zw_526 zw_527 d_Bl_init_1 (Nat.le_of_ble_eq_true rfl) (Nat.le_of_ble_eq_true rfl) ?_
  exact zi_vret C hlocks hr d_Bl_init_4 rfl rfl (by cases hF; rfl) rfl
def F_St_init (S : zzS)  (M : zzM) (v0 : Nat) (v1 : Int32) (v2 : Int32) (v3 : Int32) (v4 : Int32) : Option (Unit × zzM) := zzck (zzokC v1) (zzlet (zzsI M v0 0 v1) fun M => zzlet (zzsI M v0 3 v2) fun M => zzlet (zzsI M v0 1 v3) fun M => zzlet (zzsI M v0 2 v4) fun M => some ((), M))
set_option maxHeartbeats 4000000 in
set_option maxRecDepth 100000 in
theorem c_St_init {l : Launch} {D : zzD} {bs : Nat} {A : Nat → Prop} {S : zzS} {M : zzM} {hz : Nat} {out : Unit × zzM} {v0 : Nat} {v1 : Int32} {v2 : Int32} {v3 : Int32} {v4 : Int32}   (hF : F_St_init S  M v0 v1 v2 v3 v4 = some out) (hn_v0 : v0 < S.2.1) (hk_v0 : zzk S v0 = 13) : Met l y_St_init (Cond.code y_St_init prog_9_method_1_code 5 none :: zzW) { frames := 1, cells := 0, slots := 0, locals := 20 } (zzPc D bs A S M hz [.ref (bs + v0), .int v1, .int v2, .int v3, .int v4]) (zzQc D bs A S out.2 hz none) 0 0 A := by
  refine zz_met [.ref (bs + v0), .int v1, .int v2, .int v3, .int v4] (by decide) (Nat.le_of_ble_eq_true rfl) (fun p e s m args below meth c C hr hlocks hin hsz => ?_)
  refine zz_eq (lv' := [(0, .ref (bs + v0)), (1, .int v1), (2, .int v2), (3, .int v3), (4, .int v4)]) (st' := []) rfl rfl ?_
  unfold F_St_init at hF
  refine zi_aload_n C d_St_init_0 rfl 0 rfl ?_
  refine zi_objInit C zw_529 zw_526 zw_527 d_St_init_1 (Nat.le_of_ble_eq_true rfl) (Nat.le_of_ble_eq_true rfl) ?_
  refine zi_aload_n C d_St_init_4 rfl 0 rfl ?_
  refine zi_iload_n C d_St_init_5 rfl 1 rfl ?_
  refine zi_putC C zc_3 (k := 0) (by decide) zw_530 rfl (Or.inr ⟨rfl, hin, rfl⟩) hn_v0 hk_v0 d_St_init_6 rfl hF (fun M hF => ?_)
  refine zi_aload_n C d_St_init_9 rfl 0 rfl ?_
  refine zi_iload_n C d_St_init_10 rfl 2 rfl ?_
  refine zi_putI C zc_3 (k := 3) (by decide) zw_531 rfl (Or.inl rfl) hn_v0 hk_v0 d_St_init_11 rfl hF (fun M hF => ?_)
  refine zi_aload_n C d_St_init_14 rfl 0 rfl ?_
  refine zi_iload_n C d_St_init_15 rfl 3 rfl ?_
  refine zi_putI C zc_3 (k := 1) (by decide) zw_532 rfl (Or.inr ⟨rfl, hin, rfl⟩) hn_v0 hk_v0 d_St_init_16 rfl hF (fun M hF => ?_)
  refine zi_aload_n C d_St_init_19 rfl 0 rfl ?_
  refine zi_iload C d_St_init_20 4 rfl ?_
  refine zi_putI C zc_3 (k := 2) (by decide) zw_533 rfl (Or.inr ⟨rfl, hin, rfl⟩) hn_v0 hk_v0 d_St_init_22 rfl hF (fun M hF => ?_)
  exact zi_vret C hlocks hr d_St_init_25 rfl rfl (by cases hF; rfl) rfl
def F_Wk_init (S : zzS)  (M : zzM) (v0 : Nat) (v1 : Option Nat) (v2 : Option Nat) (v3 : Option Nat) : Option (Unit × zzM) := zzlet (zzsR M v0 0 v1) fun M => zzlet (zzsR M v0 1 v2) fun M => zzlet (zzsR M v0 2 v3) fun M => some ((), M)
set_option maxHeartbeats 4000000 in
set_option maxRecDepth 100000 in
theorem c_Wk_init {l : Launch} {D : zzD} {bs : Nat} {A : Nat → Prop} {S : zzS} {M : zzM} {hz : Nat} {out : Unit × zzM} {v0 : Nat} {v1 : Option Nat} {v2 : Option Nat} {v3 : Option Nat}   (hF : F_Wk_init S  M v0 v1 v2 v3 = some out) (hn_v0 : v0 < S.2.1) (hk_v0 : zzk S v0 = 18) : Met l y_Wk_init (Cond.code y_Wk_init prog_10_method_1_code 4 none :: zzW) { frames := 1, cells := 0, slots := 0, locals := 20 } (zzPc D bs A S M hz [.ref (bs + v0), zzrf bs v1, zzrf bs v2, zzrf bs v3]) (zzQc D bs A S out.2 hz none) 0 0 A := by
  refine zz_met [.ref (bs + v0), zzrf bs v1, zzrf bs v2, zzrf bs v3] (by decide) (by cases v1 <;> cases v2 <;> cases v3 <;> exact Nat.le_of_ble_eq_true rfl) (fun p e s m args below meth c C hr hlocks hin hsz => ?_)
  refine zz_eq (lv' := [(0, .ref (bs + v0)), (1, zzrf bs v1), (2, zzrf bs v2), (3, zzrf bs v3)]) (st' := []) (by cases v1 <;> cases v2 <;> cases v3 <;> rfl) rfl ?_
  unfold F_Wk_init at hF
  refine zi_aload_n C d_Wk_init_0 rfl 0 rfl ?_
  refine zi_objInit C zw_534 zw_526 zw_527 d_Wk_init_1 (Nat.le_of_ble_eq_true rfl) (Nat.le_of_ble_eq_true rfl) ?_
  refine zi_aload_n C d_Wk_init_4 rfl 0 rfl ?_
  refine zi_aload_nO C d_Wk_init_5 rfl 1 rfl ?_
  refine zi_putO C zc_8 (k := 0) (by decide) zw_387 rfl (Or.inr ⟨rfl, hin, rfl⟩) hn_v0 hk_v0 d_Wk_init_6 (Or.inl ⟨_, rfl⟩) hF (fun M hF => ?_)
  refine zi_aload_n C d_Wk_init_9 rfl 0 rfl ?_
  refine zi_aload_nO C d_Wk_init_10 rfl 2 rfl ?_
  refine zi_putO C zc_8 (k := 1) (by decide) zw_383 rfl (Or.inr ⟨rfl, hin, rfl⟩) hn_v0 hk_v0 d_Wk_init_11 (Or.inl ⟨_, rfl⟩) hF (fun M hF => ?_)
  refine zi_aload_n C d_Wk_init_14 rfl 0 rfl ?_
  refine zi_aload_nO C d_Wk_init_15 rfl 3 rfl ?_
  refine zi_putO C zc_8 (k := 2) (by decide) zw_379 rfl (Or.inr ⟨rfl, hin, rfl⟩) hn_v0 hk_v0 d_Wk_init_16 (Or.inl ⟨_, rfl⟩) hF (fun M hF => ?_)
  exact zi_vret C hlocks hr d_Wk_init_19 rfl rfl (by cases hF; rfl) rfl
def F_Bd_init  (S : zzS) (M : zzM) (v0 : Nat) : Option (Unit × zzS × zzM) := zzck (zznn (72 : Int32)) (zzmk S M 2 ((72 : Int32)).toNatClampNeg ((72 : Int32)).toNatClampNeg fun b1 S M => zzck (zzhas S v0 14) (zzlet (zzsR M v0 0 (some b1)) fun M => zzck (zznn (20 : Int32)) (zzmk S M 2 ((20 : Int32)).toNatClampNeg ((20 : Int32)).toNatClampNeg fun b2 S M => zzck (zzhas S v0 14) (zzlet (zzsR M v0 2 (some b2)) fun M => zzmkm S M fun b3 S M => zzck (zzhas S v0 14) (zzlet (zzsR M v0 4 (some b3)) fun M => zzck (zznn (6 : Int32)) (zzmk S M 1 ((6 : Int32)).toNatClampNeg ((6 : Int32)).toNatClampNeg fun b4 S M => zzck (zzhas S v0 14) (zzlet (zzsR M v0 5 (some b4)) fun M => some ((), S, M))))))))
set_option maxHeartbeats 4000000 in
set_option maxRecDepth 100000 in
theorem c_Bd_init {l : Launch} {D : zzD} {bs : Nat} {A : Nat → Prop} {X : State → Prop} {S : zzS} {M : zzM} {out : Unit × zzS × zzM}  {v0 : Nat}  (hA : ∀ q : Nat, bs + S.2.1 ≤ q → A q) (hAb : ∀ q : Nat, A q → bs ≤ q) (hXs : zzStab bs X) (hnx : ∀ U : State, X U → zzNest U)  (hF : F_Bd_init  S M v0 = some out) (ho : zzle S out.2.1) (hn_v0 : v0 < S.2.1) (hk_v0 : zzk S v0 = 14) : Met l y_Bd_init (Cond.code y_Bd_init prog_3_method_1_code 1 none :: zzW) { frames := 1, cells := out.2.1.2.1 - S.2.1, slots := out.2.1.2.2 - S.2.2, locals := 20 } (zzPcX D bs A X S M [.ref (bs + v0)]) (zzQc D bs A out.2.1 out.2.2 (bs + out.2.1.2.1) none) (out.2.1.2.1 - S.2.1) (out.2.1.2.2 - S.2.2) A := by
  refine zz_metA [.ref (bs + v0)] (by decide) (Nat.le_of_ble_eq_true rfl) hA hAb hXs (fun p e s m args below meth c C hr hlocks hin E => ?_)
  have hm : zzle S S := ⟨Nat.le_refl _, Nat.le_refl _⟩
  refine zz_eq (lv' := [(0, .ref (bs + v0))]) (st' := []) rfl rfl ?_
  unfold F_Bd_init at hF
  refine zi_aload_n C d_Bd_init_0 rfl 0 rfl ?_
  refine zi_objInit C zw_535 zw_526 zw_527 d_Bd_init_1 (Nat.le_of_ble_eq_true rfl) (Nat.le_of_ble_eq_true rfl) ?_
  refine zi_aload_n C d_Bd_init_4 rfl 0 rfl ?_
  refine zi_bipush (v := 72) C d_Bd_init_5 (by decide) ?_
  refine zi_newarr_long C E hm zw_538 d_Bd_init_7 hF (fun b1 S M hn_b1 hk_b1 hm ho hF => ?_)
  obtain ⟨hh, hF⟩ := zzck_e hF
  obtain ⟨hn_v0, hk_v0⟩ := of_decide_eq_true hh
  refine zi_putR C zc_4 (k := 0) (by decide) zw_249 rfl (Or.inr ⟨rfl, hin, rfl⟩) hn_v0 hk_v0 d_Bd_init_9 (Or.inr ⟨_, rfl⟩) hF (fun M hF => ?_)
  refine zi_aload_n C d_Bd_init_12 rfl 0 rfl ?_
  refine zi_bipush (v := 20) C d_Bd_init_13 (by decide) ?_
  refine zi_newarr_long C E hm zw_538 d_Bd_init_15 hF (fun b2 S M hn_b2 hk_b2 hm ho hF => ?_)
  obtain ⟨hh, hF⟩ := zzck_e hF
  obtain ⟨hn_v0, hk_v0⟩ := of_decide_eq_true hh
  refine zi_putR C zc_4 (k := 2) (by decide) zw_316 rfl (Or.inr ⟨rfl, hin, rfl⟩) hn_v0 hk_v0 d_Bd_init_17 (Or.inr ⟨_, rfl⟩) hF (fun M hF => ?_)
  refine zi_aload_n C d_Bd_init_20 rfl 0 rfl ?_
  refine zi_bipush (v := 6) C d_Bd_init_21 (by decide) ?_
  refine zi_bipush (v := 72) C d_Bd_init_23 (by decide) ?_
  refine zi_multi C E hm zw_537 (fun hx => (hnx _ hx).2.2.2.2.2.2) zw_538 d_Bd_init_25 hF (fun b3 S M hn_b3 hk_b3 hm ho hF => ?_)
  obtain ⟨hh, hF⟩ := zzck_e hF
  obtain ⟨hn_v0, hk_v0⟩ := of_decide_eq_true hh
  refine zi_putR C zc_4 (k := 4) (by decide) zw_354 rfl (Or.inr ⟨rfl, hin, rfl⟩) hn_v0 hk_v0 d_Bd_init_29 (Or.inr ⟨_, rfl⟩) hF (fun M hF => ?_)
  refine zi_aload_n C d_Bd_init_32 rfl 0 rfl ?_
  refine zi_bipush (v := 6) C d_Bd_init_33 (by decide) ?_
  refine zi_newarr_int C E hm zw_536 d_Bd_init_35 hF (fun b4 S M hn_b4 hk_b4 hm ho hF => ?_)
  obtain ⟨hh, hF⟩ := zzck_e hF
  obtain ⟨hn_v0, hk_v0⟩ := of_decide_eq_true hh
  refine zi_putR C zc_4 (k := 5) (by decide) zw_353 rfl (Or.inr ⟨rfl, hin, rfl⟩) hn_v0 hk_v0 d_Bd_init_37 (Or.inr ⟨_, rfl⟩) hF (fun M hF => ?_)
  cases hF
  exact zi_vret C hlocks hr d_Bd_init_40 rfl rfl rfl rfl
def F_Rk_init  (S : zzS) (M : zzM) (v0 : Nat) (v1 : Option Nat) : Option (Unit × zzS × zzM) := zzck (zznn (26 : Int32)) (zzmk S M 2 ((26 : Int32)).toNatClampNeg ((26 : Int32)).toNatClampNeg fun b1 S M => zzck (zzhas S v0 15) (zzlet (zzsR M v0 1 (some b1)) fun M => zzck (zznn (13 : Int32)) (zzmk S M 2 ((13 : Int32)).toNatClampNeg ((13 : Int32)).toNatClampNeg fun b2 S M => zzck (zzhas S v0 15) (zzlet (zzsR M v0 2 (some b2)) fun M => zzlet (zzsR M v0 0 v1) fun M => some ((), S, M)))))
set_option maxHeartbeats 4000000 in
set_option maxRecDepth 100000 in
theorem c_Rk_init {l : Launch} {D : zzD} {bs : Nat} {A : Nat → Prop} {X : State → Prop} {S : zzS} {M : zzM} {out : Unit × zzS × zzM}  {v0 : Nat} {v1 : Option Nat}  (hA : ∀ q : Nat, bs + S.2.1 ≤ q → A q) (hAb : ∀ q : Nat, A q → bs ≤ q) (hXs : zzStab bs X) (hnx : ∀ U : State, X U → zzNest U)  (hF : F_Rk_init  S M v0 v1 = some out) (ho : zzle S out.2.1) (hn_v0 : v0 < S.2.1) (hk_v0 : zzk S v0 = 15) : Met l y_Rk_init (Cond.code y_Rk_init prog_6_method_1_code 2 none :: zzW) { frames := 1, cells := out.2.1.2.1 - S.2.1, slots := out.2.1.2.2 - S.2.2, locals := 20 } (zzPcX D bs A X S M [.ref (bs + v0), zzrf bs v1]) (zzQc D bs A out.2.1 out.2.2 (bs + out.2.1.2.1) none) (out.2.1.2.1 - S.2.1) (out.2.1.2.2 - S.2.2) A := by
  refine zz_metA [.ref (bs + v0), zzrf bs v1] (by decide) (by cases v1 <;> exact Nat.le_of_ble_eq_true rfl) hA hAb hXs (fun p e s m args below meth c C hr hlocks hin E => ?_)
  have hm : zzle S S := ⟨Nat.le_refl _, Nat.le_refl _⟩
  refine zz_eq (lv' := [(0, .ref (bs + v0)), (1, zzrf bs v1)]) (st' := []) (by cases v1 <;> rfl) rfl ?_
  unfold F_Rk_init at hF
  refine zi_aload_n C d_Rk_init_0 rfl 0 rfl ?_
  refine zi_objInit C zw_539 zw_526 zw_527 d_Rk_init_1 (Nat.le_of_ble_eq_true rfl) (Nat.le_of_ble_eq_true rfl) ?_
  refine zi_aload_n C d_Rk_init_4 rfl 0 rfl ?_
  refine zi_bipush (v := 26) C d_Rk_init_5 (by decide) ?_
  refine zi_newarr_long C E hm zw_538 d_Rk_init_7 hF (fun b1 S M hn_b1 hk_b1 hm ho hF => ?_)
  obtain ⟨hh, hF⟩ := zzck_e hF
  obtain ⟨hn_v0, hk_v0⟩ := of_decide_eq_true hh
  refine zi_putR C zc_5 (k := 1) (by decide) zw_295 rfl (Or.inr ⟨rfl, hin, rfl⟩) hn_v0 hk_v0 d_Rk_init_9 (Or.inr ⟨_, rfl⟩) hF (fun M hF => ?_)
  refine zi_aload_n C d_Rk_init_12 rfl 0 rfl ?_
  refine zi_bipush (v := 13) C d_Rk_init_13 (by decide) ?_
  refine zi_newarr_long C E hm zw_538 d_Rk_init_15 hF (fun b2 S M hn_b2 hk_b2 hm ho hF => ?_)
  obtain ⟨hh, hF⟩ := zzck_e hF
  obtain ⟨hn_v0, hk_v0⟩ := of_decide_eq_true hh
  refine zi_putR C zc_5 (k := 2) (by decide) zw_267 rfl (Or.inr ⟨rfl, hin, rfl⟩) hn_v0 hk_v0 d_Rk_init_17 (Or.inr ⟨_, rfl⟩) hF (fun M hF => ?_)
  refine zi_aload_n C d_Rk_init_20 rfl 0 rfl ?_
  refine zi_aload_nO C d_Rk_init_21 rfl 1 rfl ?_
  refine zi_putO C zc_5 (k := 0) (by decide) zw_270 rfl (Or.inr ⟨rfl, hin, rfl⟩) hn_v0 hk_v0 d_Rk_init_22 (Or.inl ⟨_, rfl⟩) hF (fun M hF => ?_)
  cases hF
  exact zi_vret C hlocks hr d_Rk_init_25 rfl rfl rfl rfl
def F_Rp_init  (S : zzS) (M : zzM) (v0 : Nat) : Option (Unit × zzS × zzM) := zzck (zznn (40 : Int32)) (zzmk S M 1 ((40 : Int32)).toNatClampNeg ((40 : Int32)).toNatClampNeg fun b1 S M => zzck (zzhas S v0 16) (zzlet (zzsR M v0 0 (some b1)) fun M => zzck (zznn (8 : Int32)) (zzmk S M 4 ((8 : Int32)).toNatClampNeg ((8 : Int32)).toNatClampNeg fun b2 S M => zzck (zzhas S v0 16) (zzlet (zzsR M v0 2 (some b2)) fun M => zzck (zznn (20 : Int32)) (zzmk S M 1 ((20 : Int32)).toNatClampNeg ((20 : Int32)).toNatClampNeg fun b3 S M => zzck (zzhas S v0 16) (zzlet (zzsR M v0 4 (some b3)) fun M => some ((), S, M)))))))
set_option maxHeartbeats 4000000 in
set_option maxRecDepth 100000 in
theorem c_Rp_init {l : Launch} {D : zzD} {bs : Nat} {A : Nat → Prop} {X : State → Prop} {S : zzS} {M : zzM} {out : Unit × zzS × zzM}  {v0 : Nat}  (hA : ∀ q : Nat, bs + S.2.1 ≤ q → A q) (hAb : ∀ q : Nat, A q → bs ≤ q) (hXs : zzStab bs X) (hnx : ∀ U : State, X U → zzNest U)  (hF : F_Rp_init  S M v0 = some out) (ho : zzle S out.2.1) (hn_v0 : v0 < S.2.1) (hk_v0 : zzk S v0 = 16) : Met l y_Rp_init (Cond.code y_Rp_init prog_7_method_1_code 1 none :: zzW) { frames := 1, cells := out.2.1.2.1 - S.2.1, slots := out.2.1.2.2 - S.2.2, locals := 20 } (zzPcX D bs A X S M [.ref (bs + v0)]) (zzQc D bs A out.2.1 out.2.2 (bs + out.2.1.2.1) none) (out.2.1.2.1 - S.2.1) (out.2.1.2.2 - S.2.2) A := by
  refine zz_metA [.ref (bs + v0)] (by decide) (Nat.le_of_ble_eq_true rfl) hA hAb hXs (fun p e s m args below meth c C hr hlocks hin E => ?_)
  have hm : zzle S S := ⟨Nat.le_refl _, Nat.le_refl _⟩
  refine zz_eq (lv' := [(0, .ref (bs + v0))]) (st' := []) rfl rfl ?_
  unfold F_Rp_init at hF
  refine zi_aload_n C d_Rp_init_0 rfl 0 rfl ?_
  refine zi_objInit C zw_540 zw_526 zw_527 d_Rp_init_1 (Nat.le_of_ble_eq_true rfl) (Nat.le_of_ble_eq_true rfl) ?_
  refine zi_aload_n C d_Rp_init_4 rfl 0 rfl ?_
  refine zi_bipush (v := 40) C d_Rp_init_5 (by decide) ?_
  refine zi_newarr_int C E hm zw_536 d_Rp_init_7 hF (fun b1 S M hn_b1 hk_b1 hm ho hF => ?_)
  obtain ⟨hh, hF⟩ := zzck_e hF
  obtain ⟨hn_v0, hk_v0⟩ := of_decide_eq_true hh
  refine zi_putR C zc_6 (k := 0) (by decide) zw_359 rfl (Or.inr ⟨rfl, hin, rfl⟩) hn_v0 hk_v0 d_Rp_init_9 (Or.inr ⟨_, rfl⟩) hF (fun M hF => ?_)
  refine zi_aload_n C d_Rp_init_12 rfl 0 rfl ?_
  refine zi_bipush (v := 8) C d_Rp_init_13 (by decide) ?_
  refine zi_anew C E hm zw_541 (fun hx => (hnx _ hx).2.2.2.2.2.1) d_Rp_init_15 hF (fun b2 S M hn_b2 hk_b2 hm ho hF => ?_)
  obtain ⟨hh, hF⟩ := zzck_e hF
  obtain ⟨hn_v0, hk_v0⟩ := of_decide_eq_true hh
  refine zi_putR C zc_6 (k := 2) (by decide) zw_360 rfl (Or.inr ⟨rfl, hin, rfl⟩) hn_v0 hk_v0 d_Rp_init_18 (Or.inr ⟨_, rfl⟩) hF (fun M hF => ?_)
  refine zi_aload_n C d_Rp_init_21 rfl 0 rfl ?_
  refine zi_bipush (v := 20) C d_Rp_init_22 (by decide) ?_
  refine zi_newarr_int C E hm zw_536 d_Rp_init_24 hF (fun b3 S M hn_b3 hk_b3 hm ho hF => ?_)
  obtain ⟨hh, hF⟩ := zzck_e hF
  obtain ⟨hn_v0, hk_v0⟩ := of_decide_eq_true hh
  refine zi_putR C zc_6 (k := 4) (by decide) zw_361 rfl (Or.inr ⟨rfl, hin, rfl⟩) hn_v0 hk_v0 d_Rp_init_26 (Or.inr ⟨_, rfl⟩) hF (fun M hF => ?_)
  cases hF
  exact zi_vret C hlocks hr d_Rp_init_29 rfl rfl rfl rfl
def F_Rd_init  (S : zzS) (M : zzM) (v0 : Nat) : Option (Unit × zzS × zzM) := zzck (zznn (0 : Int32)) (zzmk S M 3 ((0 : Int32)).toNatClampNeg ((0 : Int32)).toNatClampNeg fun b1 S M => zzck (zzhas S v0 17) (zzlet (zzsR M v0 0 (some b1)) fun M => zzck (zznn (0 : Int32)) (zzmk S M 4 ((0 : Int32)).toNatClampNeg ((0 : Int32)).toNatClampNeg fun b2 S M => zzck (zzhas S v0 17) (zzlet (zzsR M v0 5 (some b2)) fun M => zzck (zznn (400 : Int32)) (zzmk S M 1 ((400 : Int32)).toNatClampNeg ((400 : Int32)).toNatClampNeg fun b3 S M => zzck (zzhas S v0 17) (zzlet (zzsR M v0 6 (some b3)) fun M => some ((), S, M)))))))
set_option maxHeartbeats 4000000 in
set_option maxRecDepth 100000 in
theorem c_Rd_init {l : Launch} {D : zzD} {bs : Nat} {A : Nat → Prop} {X : State → Prop} {S : zzS} {M : zzM} {out : Unit × zzS × zzM}  {v0 : Nat}  (hA : ∀ q : Nat, bs + S.2.1 ≤ q → A q) (hAb : ∀ q : Nat, A q → bs ≤ q) (hXs : zzStab bs X) (hnx : ∀ U : State, X U → zzNest U)  (hF : F_Rd_init  S M v0 = some out) (ho : zzle S out.2.1) (hn_v0 : v0 < S.2.1) (hk_v0 : zzk S v0 = 17) : Met l y_Rd_init (Cond.code y_Rd_init prog_5_method_1_code 1 none :: zzW) { frames := 1, cells := out.2.1.2.1 - S.2.1, slots := out.2.1.2.2 - S.2.2, locals := 20 } (zzPcX D bs A X S M [.ref (bs + v0)]) (zzQc D bs A out.2.1 out.2.2 (bs + out.2.1.2.1) none) (out.2.1.2.1 - S.2.1) (out.2.1.2.2 - S.2.2) A := by
  refine zz_metA [.ref (bs + v0)] (by decide) (Nat.le_of_ble_eq_true rfl) hA hAb hXs (fun p e s m args below meth c C hr hlocks hin E => ?_)
  have hm : zzle S S := ⟨Nat.le_refl _, Nat.le_refl _⟩
  refine zz_eq (lv' := [(0, .ref (bs + v0))]) (st' := []) rfl rfl ?_
  unfold F_Rd_init at hF
  refine zi_aload_n C d_Rd_init_0 rfl 0 rfl ?_
  refine zi_objInit C zw_542 zw_526 zw_527 d_Rd_init_1 (Nat.le_of_ble_eq_true rfl) (Nat.le_of_ble_eq_true rfl) ?_
  refine zi_aload_n C d_Rd_init_4 rfl 0 rfl ?_
  refine zi_iconst (v := 0) C d_Rd_init_5 (by decide) ?_
  refine zi_newarr_char C E hm zw_544 d_Rd_init_6 hF (fun b1 S M hn_b1 hk_b1 hm ho hF => ?_)
  obtain ⟨hh, hF⟩ := zzck_e hF
  obtain ⟨hn_v0, hk_v0⟩ := of_decide_eq_true hh
  refine zi_putR C zc_7 (k := 0) (by decide) zw_364 rfl (Or.inl rfl) hn_v0 hk_v0 d_Rd_init_8 (Or.inr ⟨_, rfl⟩) hF (fun M hF => ?_)
  refine zi_aload_n C d_Rd_init_11 rfl 0 rfl ?_
  refine zi_iconst (v := 0) C d_Rd_init_12 (by decide) ?_
  refine zi_anew C E hm zw_543 (fun hx => (hnx _ hx).2.2.2.2.2.1) d_Rd_init_13 hF (fun b2 S M hn_b2 hk_b2 hm ho hF => ?_)
  obtain ⟨hh, hF⟩ := zzck_e hF
  obtain ⟨hn_v0, hk_v0⟩ := of_decide_eq_true hh
  refine zi_putR C zc_7 (k := 5) (by decide) zw_376 rfl (Or.inl rfl) hn_v0 hk_v0 d_Rd_init_16 (Or.inr ⟨_, rfl⟩) hF (fun M hF => ?_)
  refine zi_aload_n C d_Rd_init_19 rfl 0 rfl ?_
  refine zi_sipush (v := 400) C d_Rd_init_20 (by decide) ?_
  refine zi_newarr_int C E hm zw_536 d_Rd_init_23 hF (fun b3 S M hn_b3 hk_b3 hm ho hF => ?_)
  obtain ⟨hh, hF⟩ := zzck_e hF
  obtain ⟨hn_v0, hk_v0⟩ := of_decide_eq_true hh
  refine zi_putR C zc_7 (k := 6) (by decide) zw_378 rfl (Or.inr ⟨rfl, hin, rfl⟩) hn_v0 hk_v0 d_Rd_init_25 (Or.inr ⟨_, rfl⟩) hF (fun M hF => ?_)
  cases hF
  exact zi_vret C hlocks hr d_Rd_init_28 rfl rfl rfl rfl
