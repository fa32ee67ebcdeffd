def F_Bs_init  (S : zzS) (M : zzM) (v0 : Nat) : Option (Unit × zzS × zzM) := zzck (zznn (400 : Int32)) (zzmk S M 3 ((400 : Int32)).toNatClampNeg ((400 : Int32)).toNatClampNeg fun b1 S M => zzck (zzhas S v0 10) (zzlet (zzsR M v0 0 (some b1)) fun M => zzlet (zzsI M v0 2 (-1 : Int32)) fun M => zzmk S M 11 0 3 fun b2 S M => zzmk S M 12 0 2 fun b3 S M => zzcall (F_Bl_init S M b3) fun r4 M => zzck (zznn (26 : Int32)) (zzmk S M 4 ((26 : Int32)).toNatClampNeg ((26 : Int32)).toNatClampNeg fun b5 S M => zzck (zzhas S b2 11) (zzcall (F_Sc_init S M b2 (some b3) (some b5) (0 : Int32)) fun r6 M => zzck (zzhas S v0 10) (zzlet (zzsR M v0 3 (some b2)) fun M => zzref S 11 (zzR M v0 3) fun b7 => zzlet (zzsR M v0 4 (some b7)) fun M => zzmk S M 14 0 6 fun b8 S M => zzcallA S (F_Bd_init S M b8) fun r9 S M => zzck (zzhas S v0 10) (zzlet (zzsR M v0 5 (some b8)) fun M => zzmk S M 15 0 5 fun b10 S M => zzck (zzhas S v0 10) (zzref S 14 (zzR M v0 5) fun b11 => zzcallA S (F_Rk_init S M b10 (some b11)) fun r12 S M => zzck (zzhas S v0 10) (zzlet (zzsR M v0 6 (some b10)) fun M => zzmk S M 16 0 12 fun b13 S M => zzcallA S (F_Rp_init S M b13) fun r14 S M => zzck (zzhas S v0 10) (zzlet (zzsR M v0 7 (some b13)) fun M => zzmk S M 17 0 8 fun b15 S M => zzcallA S (F_Rd_init S M b15) fun r16 S M => zzck (zzhas S v0 10) (zzlet (zzsR M v0 8 (some b15)) fun M => zzmk S M 18 0 7 fun b17 S M => zzck (zzhas S v0 10) (zzref S 14 (zzR M v0 5) fun b18 => zzref S 15 (zzR M v0 6) fun b19 => zzref S 16 (zzR M v0 7) fun b20 => zzcall (F_Wk_init S M b17 (some b18) (some b19) (some b20)) fun r21 M => zzlet (zzsR M v0 9 (some b17)) fun M => some ((), S, M))))))))))))
set_option maxHeartbeats 4000000 in
set_option maxRecDepth 100000 in
theorem c_Bs_init {l : Launch} {D : zzD} {bs : Nat} {A : Nat → Prop} {X : State → Prop} {S : zzS} {M : zzM} {out : Unit × zzS × zzM}  {v0 : Nat}  (hA : ∀ q : Nat, bs + S.2.1 ≤ q → A q) (hAb : ∀ q : Nat, A q → bs ≤ q) (hXs : zzStab bs X) (hnx : ∀ U : State, X U → zzNest U)  (hF : F_Bs_init  S M v0 = some out) (ho : zzle S out.2.1) (hn_v0 : v0 < S.2.1) (hk_v0 : zzk S v0 = 10) : Met l y_Bs_init (Cond.code y_Bs_init prog_1_method_1_code 1 none :: zzW) { frames := 2, cells := out.2.1.2.1 - S.2.1, slots := out.2.1.2.2 - S.2.2, locals := 43 } (zzPcX D bs A X S M [.ref (bs + v0)]) (zzQc D bs A out.2.1 out.2.2 (bs + out.2.1.2.1) none) (out.2.1.2.1 - S.2.1) (out.2.1.2.2 - S.2.2) A := by
  refine zz_metA [.ref (bs + v0)] (by decide) (Nat.le_of_ble_eq_true rfl) hA hAb hXs (fun p e s m args below meth c C hr hlocks hin E => ?_)
  have hm : zzle S S := ⟨Nat.le_refl _, Nat.le_refl _⟩
  refine zz_eq (lv' := [(0, .ref (bs + v0))]) (st' := []) rfl rfl ?_
  unfold F_Bs_init at hF
  refine zi_aload_n C d_Bs_init_0 rfl 0 rfl ?_
  refine zi_objInit C zw_545 zw_526 zw_527 d_Bs_init_1 (Nat.le_of_ble_eq_true rfl) (Nat.le_of_ble_eq_true rfl) ?_
  refine zi_aload_n C d_Bs_init_4 rfl 0 rfl ?_
  refine zi_sipush (v := 400) C d_Bs_init_5 (by decide) ?_
  refine zi_newarr_char C E hm zw_544 d_Bs_init_8 hF (fun b1 S M hn_b1 hk_b1 hm ho hF => ?_)
  obtain ⟨hh, hF⟩ := zzck_e hF
  obtain ⟨hn_v0, hk_v0⟩ := of_decide_eq_true hh
  refine zi_putR C zc_0 (k := 0) (by decide) zw_247 rfl (Or.inr ⟨rfl, hin, rfl⟩) hn_v0 hk_v0 d_Bs_init_10 (Or.inr ⟨_, rfl⟩) hF (fun M hF => ?_)
  refine zi_aload_n C d_Bs_init_13 rfl 0 rfl ?_
  refine zi_iconst (v := -1) C d_Bs_init_14 (by decide) ?_
  refine zi_putI C zc_0 (k := 2) (by decide) zw_314 rfl (Or.inl rfl) hn_v0 hk_v0 d_Bs_init_15 rfl hF (fun M hF => ?_)
  refine zi_aload_n C d_Bs_init_18 rfl 0 rfl ?_
  refine zi_new C E hm zc_1 (by decide +kernel) zw_579 zw_580 zw_516 d_Bs_init_19 hF (fun b2 S M hn_b2 hk_b2 hm ho hF => ?_)
  refine zi_dup C d_Bs_init_22 rfl ?_
  refine zi_new C E hm zc_2 (by decide +kernel) zw_577 zw_578 zw_547 d_Bs_init_23 hF (fun b3 S M hn_b3 hk_b3 hm ho hF => ?_)
  refine zi_dup C d_Bs_init_26 rfl ?_
  obtain ⟨r4, M, hqr4, hF⟩ := zzcall_e hF
  refine zi_callIN0 (M2 := M) (n := 0) (As := []) (st := [.ref (bs + b3), .ref (bs + b2), .ref (bs + b2), .ref (bs + v0)]) C E hm (c_Bl_init hqr4 hn_b3 hk_b3) zw_546 zw_547 (by decide +kernel) ⟨Nat.le_of_ble_eq_true rfl, Nat.le_of_ble_eq_true rfl⟩ rfl (Nat.le_of_ble_eq_true rfl) (zz_hf hm ho) (fun hx => (hnx _ hx).1) zw_548 rfl rfl d_Bs_init_27 ?_
  refine zi_bipush (v := 26) C d_Bs_init_30 (by decide) ?_
  refine zi_anew C E hm zw_576 (fun hx => (hnx _ hx).2.2.2.2.2.1) d_Bs_init_32 hF (fun b5 S M hn_b5 hk_b5 hm ho hF => ?_)
  refine zi_iconst (v := 0) C d_Bs_init_35 (by decide) ?_
  obtain ⟨hh, hF⟩ := zzck_e hF
  obtain ⟨hn_b2, hk_b2⟩ := of_decide_eq_true hh
  obtain ⟨r6, M, hqr6, hF⟩ := zzcall_e hF
  refine zi_callI0 (M2 := M) (n := 3) (As := [.ref (bs + b3), .ref (bs + b5), .int (0 : Int32)]) (st := [.ref (bs + b2), .ref (bs + v0)]) C (c_Sc_init hqr6 hn_b2 hk_b2) zw_549 zw_516 (by decide +kernel) ⟨Nat.le_of_ble_eq_true rfl, Nat.le_of_ble_eq_true rfl⟩ rfl (Nat.le_of_ble_eq_true rfl) (zz_hf hm ho) zw_550 zw_551 rfl rfl d_Bs_init_36 ?_
  obtain ⟨hh, hF⟩ := zzck_e hF
  obtain ⟨hn_v0, hk_v0⟩ := of_decide_eq_true hh
  refine zi_putR C zc_0 (k := 3) (by decide) zw_339 rfl (Or.inr ⟨rfl, hin, rfl⟩) hn_v0 hk_v0 d_Bs_init_39 (Or.inl ⟨_, rfl⟩) hF (fun M hF => ?_)
  refine zi_aload_n C d_Bs_init_42 rfl 0 rfl ?_
  refine zi_aload_n C d_Bs_init_43 rfl 0 rfl ?_
  refine zi_getR C zc_0 (k := 3) (by decide) zw_339 rfl hn_v0 hk_v0 d_Bs_init_44 (fun _ _ _ => rfl) hF (fun b7 hn_b7 hk_b7 hF => ?_)
  refine zi_putR C zc_0 (k := 4) (by decide) zw_340 rfl (Or.inl rfl) hn_v0 hk_v0 d_Bs_init_47 (Or.inl ⟨_, rfl⟩) hF (fun M hF => ?_)
  refine zi_aload_n C d_Bs_init_50 rfl 0 rfl ?_
  refine zi_new C E hm zc_4 (by decide +kernel) zw_574 zw_575 zw_252 d_Bs_init_51 hF (fun b8 S M hn_b8 hk_b8 hm ho hF => ?_)
  refine zi_dup C d_Bs_init_54 rfl ?_
  obtain ⟨r9, S1, M1, hqr9, h1, h2, h3, h4, hF⟩ := zzcallA_e hF
  refine zi_callAIN (n := 0) (S1 := S1) (M1 := M1) (As := []) (st := [.ref (bs + b8), .ref (bs + v0)]) C E hm (c_Bd_init (out := (r9, S1, M1)) (zzE.hA E hm) hAb hXs hnx hqr9 ⟨h1, h2⟩ hn_b8 hk_b8) h1 h2 h3 h4 zw_552 zw_252 (by decide +kernel) ⟨Nat.le_of_ble_eq_true rfl, Nat.le_of_ble_eq_true rfl⟩ rfl (Nat.le_of_ble_eq_true rfl) (fun hx => (hnx _ hx).2.1) zw_553 rfl rfl d_Bs_init_55 (fun hm ho => ?_)
  clear h1 h2 h3 h4
  generalize S1 = S at hF hm ho ⊢
  generalize M1 = M at hF ⊢
  obtain ⟨hh, hF⟩ := zzck_e hF
  obtain ⟨hn_v0, hk_v0⟩ := of_decide_eq_true hh
  refine zi_putR C zc_0 (k := 5) (by decide) zw_250 rfl (Or.inr ⟨rfl, hin, rfl⟩) hn_v0 hk_v0 d_Bs_init_58 (Or.inl ⟨_, rfl⟩) hF (fun M hF => ?_)
  refine zi_aload_n C d_Bs_init_61 rfl 0 rfl ?_
  refine zi_new C E hm zc_5 (by decide +kernel) zw_572 zw_573 zw_273 d_Bs_init_62 hF (fun b10 S M hn_b10 hk_b10 hm ho hF => ?_)
  refine zi_dup C d_Bs_init_65 rfl ?_
  refine zi_aload_n C d_Bs_init_66 rfl 0 rfl ?_
  obtain ⟨hh, hF⟩ := zzck_e hF
  obtain ⟨hn_v0, hk_v0⟩ := of_decide_eq_true hh
  refine zi_getR C zc_0 (k := 5) (by decide) zw_250 rfl hn_v0 hk_v0 d_Bs_init_67 (fun _ _ _ => rfl) hF (fun b11 hn_b11 hk_b11 hF => ?_)
  obtain ⟨r12, S1, M1, hqr12, h1, h2, h3, h4, hF⟩ := zzcallA_e hF
  refine zi_callAI (n := 1) (S1 := S1) (M1 := M1) (As := [.ref (bs + b11)]) (st := [.ref (bs + b10), .ref (bs + v0)]) C E hm (c_Rk_init (out := (r12, S1, M1)) (zzE.hA E hm) hAb hXs hnx hqr12 ⟨h1, h2⟩ hn_b10 hk_b10) h1 h2 h3 h4 zw_554 zw_273 (by decide +kernel) ⟨Nat.le_of_ble_eq_true rfl, Nat.le_of_ble_eq_true rfl⟩ rfl (Nat.le_of_ble_eq_true rfl) zw_555 zw_556 rfl rfl d_Bs_init_70 (fun hm ho => ?_)
  clear h1 h2 h3 h4
  generalize S1 = S at hF hm ho ⊢
  generalize M1 = M at hF ⊢
  obtain ⟨hh, hF⟩ := zzck_e hF
  obtain ⟨hn_v0, hk_v0⟩ := of_decide_eq_true hh
  refine zi_putR C zc_0 (k := 6) (by decide) zw_306 rfl (Or.inr ⟨rfl, hin, rfl⟩) hn_v0 hk_v0 d_Bs_init_73 (Or.inl ⟨_, rfl⟩) hF (fun M hF => ?_)
  refine zi_aload_n C d_Bs_init_76 rfl 0 rfl ?_
  refine zi_new C E hm zc_6 (by decide +kernel) zw_570 zw_571 zw_259 d_Bs_init_77 hF (fun b13 S M hn_b13 hk_b13 hm ho hF => ?_)
  refine zi_dup C d_Bs_init_80 rfl ?_
  obtain ⟨r14, S1, M1, hqr14, h1, h2, h3, h4, hF⟩ := zzcallA_e hF
  refine zi_callAIN (n := 0) (S1 := S1) (M1 := M1) (As := []) (st := [.ref (bs + b13), .ref (bs + v0)]) C E hm (c_Rp_init (out := (r14, S1, M1)) (zzE.hA E hm) hAb hXs hnx hqr14 ⟨h1, h2⟩ hn_b13 hk_b13) h1 h2 h3 h4 zw_557 zw_259 (by decide +kernel) ⟨Nat.le_of_ble_eq_true rfl, Nat.le_of_ble_eq_true rfl⟩ rfl (Nat.le_of_ble_eq_true rfl) (fun hx => (hnx _ hx).2.2.1) zw_558 rfl rfl d_Bs_init_81 (fun hm ho => ?_)
  clear h1 h2 h3 h4
  generalize S1 = S at hF hm ho ⊢
  generalize M1 = M at hF ⊢
  obtain ⟨hh, hF⟩ := zzck_e hF
  obtain ⟨hn_v0, hk_v0⟩ := of_decide_eq_true hh
  refine zi_putR C zc_0 (k := 7) (by decide) zw_257 rfl (Or.inr ⟨rfl, hin, rfl⟩) hn_v0 hk_v0 d_Bs_init_84 (Or.inl ⟨_, rfl⟩) hF (fun M hF => ?_)
  refine zi_aload_n C d_Bs_init_87 rfl 0 rfl ?_
  refine zi_new C E hm zc_7 (by decide +kernel) zw_568 zw_569 zw_367 d_Bs_init_88 hF (fun b15 S M hn_b15 hk_b15 hm ho hF => ?_)
  refine zi_dup C d_Bs_init_91 rfl ?_
  obtain ⟨r16, S1, M1, hqr16, h1, h2, h3, h4, hF⟩ := zzcallA_e hF
  refine zi_callAIN (n := 0) (S1 := S1) (M1 := M1) (As := []) (st := [.ref (bs + b15), .ref (bs + v0)]) C E hm (c_Rd_init (out := (r16, S1, M1)) (zzE.hA E hm) hAb hXs hnx hqr16 ⟨h1, h2⟩ hn_b15 hk_b15) h1 h2 h3 h4 zw_559 zw_367 (by decide +kernel) ⟨Nat.le_of_ble_eq_true rfl, Nat.le_of_ble_eq_true rfl⟩ rfl (Nat.le_of_ble_eq_true rfl) (fun hx => (hnx _ hx).2.2.2.1) zw_560 rfl rfl d_Bs_init_92 (fun hm ho => ?_)
  clear h1 h2 h3 h4
  generalize S1 = S at hF hm ho ⊢
  generalize M1 = M at hF ⊢
  obtain ⟨hh, hF⟩ := zzck_e hF
  obtain ⟨hn_v0, hk_v0⟩ := of_decide_eq_true hh
  refine zi_putR C zc_0 (k := 8) (by decide) zw_561 rfl (Or.inr ⟨rfl, hin, rfl⟩) hn_v0 hk_v0 d_Bs_init_95 (Or.inl ⟨_, rfl⟩) hF (fun M hF => ?_)
  refine zi_aload_n C d_Bs_init_98 rfl 0 rfl ?_
  refine zi_new C E hm zc_8 (by decide +kernel) zw_566 zw_567 zw_393 d_Bs_init_99 hF (fun b17 S M hn_b17 hk_b17 hm ho hF => ?_)
  refine zi_dup C d_Bs_init_102 rfl ?_
  refine zi_aload_n C d_Bs_init_103 rfl 0 rfl ?_
  obtain ⟨hh, hF⟩ := zzck_e hF
  obtain ⟨hn_v0, hk_v0⟩ := of_decide_eq_true hh
  refine zi_getR C zc_0 (k := 5) (by decide) zw_250 rfl hn_v0 hk_v0 d_Bs_init_104 (fun _ _ _ => rfl) hF (fun b18 hn_b18 hk_b18 hF => ?_)
  refine zi_aload_n C d_Bs_init_107 rfl 0 rfl ?_
  refine zi_getR C zc_0 (k := 6) (by decide) zw_306 rfl hn_v0 hk_v0 d_Bs_init_108 (fun _ _ _ => rfl) hF (fun b19 hn_b19 hk_b19 hF => ?_)
  refine zi_aload_n C d_Bs_init_111 rfl 0 rfl ?_
  refine zi_getR C zc_0 (k := 7) (by decide) zw_257 rfl hn_v0 hk_v0 d_Bs_init_112 (fun _ _ _ => rfl) hF (fun b20 hn_b20 hk_b20 hF => ?_)
  obtain ⟨r21, M, hqr21, hF⟩ := zzcall_e hF
  refine zi_callI0 (M2 := M) (n := 3) (As := [.ref (bs + b18), .ref (bs + b19), .ref (bs + b20)]) (st := [.ref (bs + b17), .ref (bs + v0)]) C (c_Wk_init hqr21 hn_b17 hk_b17) zw_562 zw_393 (by decide +kernel) ⟨Nat.le_of_ble_eq_true rfl, Nat.le_of_ble_eq_true rfl⟩ rfl (Nat.le_of_ble_eq_true rfl) (zz_hf hm ho) zw_563 zw_564 rfl rfl d_Bs_init_115 ?_
  refine zi_putR C zc_0 (k := 9) (by decide) zw_565 rfl (Or.inr ⟨rfl, hin, rfl⟩) hn_v0 hk_v0 d_Bs_init_118 (Or.inl ⟨_, rfl⟩) hF (fun M hF => ?_)
  cases hF
  exact zi_vret C hlocks hr d_Bs_init_121 rfl rfl rfl rfl
